section
-- ===== PART A: goes FIRST, ahead of the names: the tables' words, and 'selects' of the private methods out of them =====
/-- a private method of a class that the tables say can be made, by its rows of tables_1 -/
def lw_okq (q : MethodName × Nat) : Prop := (q.1.cls ≠ "java/lang/invoke/MethodHandle" ∧ q.1.cls ≠ "java/lang/invoke/VarHandle") ∧ Cond.instantiable q.1.cls q.2 ∈ tables_1 ∧ Cond.privateMethod q.1 ∈ tables_1 ∧ Cond.instanceMethod q.1 ∈ tables_1
theorem lw_p0 : lw_okq (⟨"ChunkView$Sums", "startsOver", "()V"⟩, 7) := ⟨⟨by decide +kernel, by decide +kernel⟩, List.mem_of_getElem? (i := 62) (by decide +kernel), List.mem_of_getElem? (i := 70) (by decide +kernel), List.mem_of_getElem? (i := 71) (by decide +kernel)⟩
theorem lw_p1 : lw_okq (⟨"ChunkView$Sums", "addsPlace", "(IIII)V"⟩, 7) := ⟨⟨by decide +kernel, by decide +kernel⟩, List.mem_of_getElem? (i := 62) (by decide +kernel), List.mem_of_getElem? (i := 78) (by decide +kernel), List.mem_of_getElem? (i := 79) (by decide +kernel)⟩
theorem lw_p2 : lw_okq (⟨"ChunkView", "isStretch", "(II)Z"⟩, 6) := ⟨⟨by decide +kernel, by decide +kernel⟩, List.mem_of_getElem? (i := 11) (by decide +kernel), List.mem_of_getElem? (i := 198) (by decide +kernel), List.mem_of_getElem? (i := 199) (by decide +kernel)⟩
theorem lw_p3 : lw_okq (⟨"ChunkView", "isPlace", "(I)Z"⟩, 6) := ⟨⟨by decide +kernel, by decide +kernel⟩, List.mem_of_getElem? (i := 11) (by decide +kernel), List.mem_of_getElem? (i := 202) (by decide +kernel), List.mem_of_getElem? (i := 203) (by decide +kernel)⟩
theorem lw_p4 : lw_okq (⟨"ChunkView$History", "latestPage", "()LChunkView$Page;"⟩, 3) := ⟨⟨by decide +kernel, by decide +kernel⟩, List.mem_of_getElem? (i := 142) (by decide +kernel), List.mem_of_getElem? (i := 217) (by decide +kernel), List.mem_of_getElem? (i := 218) (by decide +kernel)⟩
theorem lw_p5 : lw_okq (⟨"ChunkView$Page", "takesOut", "(II)V"⟩, 4) := ⟨⟨by decide +kernel, by decide +kernel⟩, List.mem_of_getElem? (i := 19) (by decide +kernel), List.mem_of_getElem? (i := 239) (by decide +kernel), List.mem_of_getElem? (i := 240) (by decide +kernel)⟩
theorem lw_p6 : lw_okq (⟨"ChunkView$Page", "shrinksChunks", "(II)V"⟩, 4) := ⟨⟨by decide +kernel, by decide +kernel⟩, List.mem_of_getElem? (i := 19) (by decide +kernel), List.mem_of_getElem? (i := 251) (by decide +kernel), List.mem_of_getElem? (i := 252) (by decide +kernel)⟩
theorem lw_p7 : lw_okq (⟨"ChunkView$Page", "joinsChunks", "(I)V"⟩, 4) := ⟨⟨by decide +kernel, by decide +kernel⟩, List.mem_of_getElem? (i := 19) (by decide +kernel), List.mem_of_getElem? (i := 264) (by decide +kernel), List.mem_of_getElem? (i := 265) (by decide +kernel)⟩
theorem lw_p8 : lw_okq (⟨"ChunkView$Page", "chunkOfByteAhead", "(I)I"⟩, 4) := ⟨⟨by decide +kernel, by decide +kernel⟩, List.mem_of_getElem? (i := 19) (by decide +kernel), List.mem_of_getElem? (i := 268) (by decide +kernel), List.mem_of_getElem? (i := 269) (by decide +kernel)⟩
theorem lw_p9 : lw_okq (⟨"ChunkView$Page", "putsIn", "(ILChunkView$Row;)V"⟩, 4) := ⟨⟨by decide +kernel, by decide +kernel⟩, List.mem_of_getElem? (i := 19) (by decide +kernel), List.mem_of_getElem? (i := 275) (by decide +kernel), List.mem_of_getElem? (i := 276) (by decide +kernel)⟩
theorem lw_p10 : lw_okq (⟨"ChunkView$Page", "growsChunk", "(II)V"⟩, 4) := ⟨⟨by decide +kernel, by decide +kernel⟩, List.mem_of_getElem? (i := 19) (by decide +kernel), List.mem_of_getElem? (i := 283) (by decide +kernel), List.mem_of_getElem? (i := 284) (by decide +kernel)⟩
theorem lw_p11 : lw_okq (⟨"ChunkView$Page", "splitsChunk", "(II)V"⟩, 4) := ⟨⟨by decide +kernel, by decide +kernel⟩, List.mem_of_getElem? (i := 19) (by decide +kernel), List.mem_of_getElem? (i := 287) (by decide +kernel), List.mem_of_getElem? (i := 288) (by decide +kernel)⟩
theorem lw_p12 : lw_okq (⟨"ChunkView$Staged", "slot", "(I)LChunkView$Edit;"⟩, 2) := ⟨⟨by decide +kernel, by decide +kernel⟩, List.mem_of_getElem? (i := 107) (by decide +kernel), List.mem_of_getElem? (i := 315) (by decide +kernel), List.mem_of_getElem? (i := 316) (by decide +kernel)⟩
theorem lw_p13 : lw_okq (⟨"ChunkView$Staged", "isBehind", "(II)Z"⟩, 2) := ⟨⟨by decide +kernel, by decide +kernel⟩, List.mem_of_getElem? (i := 107) (by decide +kernel), List.mem_of_getElem? (i := 332) (by decide +kernel), List.mem_of_getElem? (i := 333) (by decide +kernel)⟩
theorem lw_p14 : lw_okq (⟨"ChunkView$Sums", "lastPlace", "()I"⟩, 7) := ⟨⟨by decide +kernel, by decide +kernel⟩, List.mem_of_getElem? (i := 62) (by decide +kernel), List.mem_of_getElem? (i := 394) (by decide +kernel), List.mem_of_getElem? (i := 395) (by decide +kernel)⟩
theorem lw_p15 : lw_okq (⟨"ChunkView$Sums", "rowOf", "(I)LChunkView$Row;"⟩, 7) := ⟨⟨by decide +kernel, by decide +kernel⟩, List.mem_of_getElem? (i := 62) (by decide +kernel), List.mem_of_getElem? (i := 402) (by decide +kernel), List.mem_of_getElem? (i := 403) (by decide +kernel)⟩
def lw_privs_1 : List (MethodName × Nat) := [(⟨"ChunkView$Sums", "startsOver", "()V"⟩, 7), (⟨"ChunkView$Sums", "addsPlace", "(IIII)V"⟩, 7), (⟨"ChunkView", "isStretch", "(II)Z"⟩, 6), (⟨"ChunkView", "isPlace", "(I)Z"⟩, 6), (⟨"ChunkView$History", "latestPage", "()LChunkView$Page;"⟩, 3), (⟨"ChunkView$Page", "takesOut", "(II)V"⟩, 4), (⟨"ChunkView$Page", "shrinksChunks", "(II)V"⟩, 4), (⟨"ChunkView$Page", "joinsChunks", "(I)V"⟩, 4), (⟨"ChunkView$Page", "chunkOfByteAhead", "(I)I"⟩, 4), (⟨"ChunkView$Page", "putsIn", "(ILChunkView$Row;)V"⟩, 4), (⟨"ChunkView$Page", "growsChunk", "(II)V"⟩, 4), (⟨"ChunkView$Page", "splitsChunk", "(II)V"⟩, 4), (⟨"ChunkView$Staged", "slot", "(I)LChunkView$Edit;"⟩, 2), (⟨"ChunkView$Staged", "isBehind", "(II)Z"⟩, 2), (⟨"ChunkView$Sums", "lastPlace", "()I"⟩, 7), (⟨"ChunkView$Sums", "rowOf", "(I)LChunkView$Row;"⟩, 7)]
theorem lw_r1 : ∀ q ∈ lw_privs_1, lw_okq q := List.forall_mem_cons.mpr ⟨lw_p0, List.forall_mem_cons.mpr ⟨lw_p1, List.forall_mem_cons.mpr ⟨lw_p2, List.forall_mem_cons.mpr ⟨lw_p3, List.forall_mem_cons.mpr ⟨lw_p4, List.forall_mem_cons.mpr ⟨lw_p5, List.forall_mem_cons.mpr ⟨lw_p6, List.forall_mem_cons.mpr ⟨lw_p7, List.forall_mem_cons.mpr ⟨lw_p8, List.forall_mem_cons.mpr ⟨lw_p9, List.forall_mem_cons.mpr ⟨lw_p10, List.forall_mem_cons.mpr ⟨lw_p11, List.forall_mem_cons.mpr ⟨lw_p12, List.forall_mem_cons.mpr ⟨lw_p13, List.forall_mem_cons.mpr ⟨lw_p14, List.forall_mem_cons.mpr ⟨lw_p15, fun _ h => absurd h List.not_mem_nil⟩⟩⟩⟩⟩⟩⟩⟩⟩⟩⟩⟩⟩⟩⟩⟩
theorem lw_p16 : lw_okq (⟨"ChunkView", "isLine", "(I)Z"⟩, 6) := ⟨⟨by decide +kernel, by decide +kernel⟩, List.mem_of_getElem? (i := 11) (by decide +kernel), List.mem_of_getElem? (i := 436) (by decide +kernel), List.mem_of_getElem? (i := 437) (by decide +kernel)⟩
theorem lw_p17 : lw_okq (⟨"ChunkView$Sums", "sortsLines", "()V"⟩, 7) := ⟨⟨by decide +kernel, by decide +kernel⟩, List.mem_of_getElem? (i := 62) (by decide +kernel), List.mem_of_getElem? (i := 462) (by decide +kernel), List.mem_of_getElem? (i := 463) (by decide +kernel)⟩
theorem lw_p18 : lw_okq (⟨"ChunkView", "widestPart", "(II)I"⟩, 6) := ⟨⟨by decide +kernel, by decide +kernel⟩, List.mem_of_getElem? (i := 11) (by decide +kernel), List.mem_of_getElem? (i := 480) (by decide +kernel), List.mem_of_getElem? (i := 481) (by decide +kernel)⟩
theorem lw_p19 : lw_okq (⟨"ChunkViewModel", "isEdit", "(II)Z"⟩, 12) := ⟨⟨by decide +kernel, by decide +kernel⟩, List.mem_of_getElem? (i := 562) (by decide +kernel), List.mem_of_getElem? (i := 621) (by decide +kernel), List.mem_of_getElem? (i := 622) (by decide +kernel)⟩
theorem lw_p20 : lw_okq (⟨"ChunkViewModel", "isPlace", "(I)Z"⟩, 12) := ⟨⟨by decide +kernel, by decide +kernel⟩, List.mem_of_getElem? (i := 562) (by decide +kernel), List.mem_of_getElem? (i := 625) (by decide +kernel), List.mem_of_getElem? (i := 626) (by decide +kernel)⟩
theorem lw_p21 : lw_okq (⟨"ChunkViewModel", "keeps", "()V"⟩, 12) := ⟨⟨by decide +kernel, by decide +kernel⟩, List.mem_of_getElem? (i := 562) (by decide +kernel), List.mem_of_getElem? (i := 629) (by decide +kernel), List.mem_of_getElem? (i := 630) (by decide +kernel)⟩
theorem lw_p22 : lw_okq (⟨"ChunkViewModel", "edit", "(II[III)V"⟩, 12) := ⟨⟨by decide +kernel, by decide +kernel⟩, List.mem_of_getElem? (i := 562) (by decide +kernel), List.mem_of_getElem? (i := 633) (by decide +kernel), List.mem_of_getElem? (i := 634) (by decide +kernel)⟩
theorem lw_p23 : lw_okq (⟨"ChunkViewModel", "taking", "(II)V"⟩, 12) := ⟨⟨by decide +kernel, by decide +kernel⟩, List.mem_of_getElem? (i := 562) (by decide +kernel), List.mem_of_getElem? (i := 637) (by decide +kernel), List.mem_of_getElem? (i := 638) (by decide +kernel)⟩
theorem lw_p24 : lw_okq (⟨"ChunkViewModel", "chunkAt", "(I)I"⟩, 12) := ⟨⟨by decide +kernel, by decide +kernel⟩, List.mem_of_getElem? (i := 562) (by decide +kernel), List.mem_of_getElem? (i := 641) (by decide +kernel), List.mem_of_getElem? (i := 642) (by decide +kernel)⟩
theorem lw_p25 : lw_okq (⟨"ChunkViewModel", "opens", "(II)V"⟩, 12) := ⟨⟨by decide +kernel, by decide +kernel⟩, List.mem_of_getElem? (i := 562) (by decide +kernel), List.mem_of_getElem? (i := 645) (by decide +kernel), List.mem_of_getElem? (i := 646) (by decide +kernel)⟩
theorem lw_p26 : lw_okq (⟨"ChunkViewModel", "putting", "(I[III)V"⟩, 12) := ⟨⟨by decide +kernel, by decide +kernel⟩, List.mem_of_getElem? (i := 562) (by decide +kernel), List.mem_of_getElem? (i := 652) (by decide +kernel), List.mem_of_getElem? (i := 653) (by decide +kernel)⟩
theorem lw_p27 : lw_okq (⟨"ChunkViewModel", "byteAt", "(I)I"⟩, 12) := ⟨⟨by decide +kernel, by decide +kernel⟩, List.mem_of_getElem? (i := 562) (by decide +kernel), List.mem_of_getElem? (i := 676) (by decide +kernel), List.mem_of_getElem? (i := 677) (by decide +kernel)⟩
theorem lw_p28 : lw_okq (⟨"ChunkViewModel", "measure", "(III)I"⟩, 12) := ⟨⟨by decide +kernel, by decide +kernel⟩, List.mem_of_getElem? (i := 562) (by decide +kernel), List.mem_of_getElem? (i := 684) (by decide +kernel), List.mem_of_getElem? (i := 685) (by decide +kernel)⟩
theorem lw_p29 : lw_okq (⟨"ChunkViewModel", "lineAt", "(I)I"⟩, 12) := ⟨⟨by decide +kernel, by decide +kernel⟩, List.mem_of_getElem? (i := 562) (by decide +kernel), List.mem_of_getElem? (i := 694) (by decide +kernel), List.mem_of_getElem? (i := 695) (by decide +kernel)⟩
theorem lw_p30 : lw_okq (⟨"ChunkViewModel", "beyond", "(IIII)I"⟩, 12) := ⟨⟨by decide +kernel, by decide +kernel⟩, List.mem_of_getElem? (i := 562) (by decide +kernel), List.mem_of_getElem? (i := 698) (by decide +kernel), List.mem_of_getElem? (i := 699) (by decide +kernel)⟩
theorem lw_p31 : lw_okq (⟨"ChunkViewModel", "isLine", "(I)Z"⟩, 12) := ⟨⟨by decide +kernel, by decide +kernel⟩, List.mem_of_getElem? (i := 562) (by decide +kernel), List.mem_of_getElem? (i := 710) (by decide +kernel), List.mem_of_getElem? (i := 711) (by decide +kernel)⟩
def lw_privs_2 : List (MethodName × Nat) := [(⟨"ChunkView", "isLine", "(I)Z"⟩, 6), (⟨"ChunkView$Sums", "sortsLines", "()V"⟩, 7), (⟨"ChunkView", "widestPart", "(II)I"⟩, 6), (⟨"ChunkViewModel", "isEdit", "(II)Z"⟩, 12), (⟨"ChunkViewModel", "isPlace", "(I)Z"⟩, 12), (⟨"ChunkViewModel", "keeps", "()V"⟩, 12), (⟨"ChunkViewModel", "edit", "(II[III)V"⟩, 12), (⟨"ChunkViewModel", "taking", "(II)V"⟩, 12), (⟨"ChunkViewModel", "chunkAt", "(I)I"⟩, 12), (⟨"ChunkViewModel", "opens", "(II)V"⟩, 12), (⟨"ChunkViewModel", "putting", "(I[III)V"⟩, 12), (⟨"ChunkViewModel", "byteAt", "(I)I"⟩, 12), (⟨"ChunkViewModel", "measure", "(III)I"⟩, 12), (⟨"ChunkViewModel", "lineAt", "(I)I"⟩, 12), (⟨"ChunkViewModel", "beyond", "(IIII)I"⟩, 12), (⟨"ChunkViewModel", "isLine", "(I)Z"⟩, 12)]
theorem lw_r2 : ∀ q ∈ lw_privs_2, lw_okq q := List.forall_mem_cons.mpr ⟨lw_p16, List.forall_mem_cons.mpr ⟨lw_p17, List.forall_mem_cons.mpr ⟨lw_p18, List.forall_mem_cons.mpr ⟨lw_p19, List.forall_mem_cons.mpr ⟨lw_p20, List.forall_mem_cons.mpr ⟨lw_p21, List.forall_mem_cons.mpr ⟨lw_p22, List.forall_mem_cons.mpr ⟨lw_p23, List.forall_mem_cons.mpr ⟨lw_p24, List.forall_mem_cons.mpr ⟨lw_p25, List.forall_mem_cons.mpr ⟨lw_p26, List.forall_mem_cons.mpr ⟨lw_p27, List.forall_mem_cons.mpr ⟨lw_p28, List.forall_mem_cons.mpr ⟨lw_p29, List.forall_mem_cons.mpr ⟨lw_p30, List.forall_mem_cons.mpr ⟨lw_p31, fun _ h => absurd h List.not_mem_nil⟩⟩⟩⟩⟩⟩⟩⟩⟩⟩⟩⟩⟩⟩⟩⟩
theorem lw_p32 : lw_okq (⟨"ChunkViewModel", "lines", "()I"⟩, 12) := ⟨⟨by decide +kernel, by decide +kernel⟩, List.mem_of_getElem? (i := 562) (by decide +kernel), List.mem_of_getElem? (i := 714) (by decide +kernel), List.mem_of_getElem? (i := 715) (by decide +kernel)⟩
theorem lw_p33 : lw_okq (⟨"ChunkViewModel", "endOf", "(I)I"⟩, 12) := ⟨⟨by decide +kernel, by decide +kernel⟩, List.mem_of_getElem? (i := 562) (by decide +kernel), List.mem_of_getElem? (i := 718) (by decide +kernel), List.mem_of_getElem? (i := 719) (by decide +kernel)⟩
theorem lw_p34 : lw_okq (⟨"ChunkViewModel", "cellsOf", "(I)I"⟩, 12) := ⟨⟨by decide +kernel, by decide +kernel⟩, List.mem_of_getElem? (i := 562) (by decide +kernel), List.mem_of_getElem? (i := 730) (by decide +kernel), List.mem_of_getElem? (i := 731) (by decide +kernel)⟩
theorem lw_p35 : lw_okq (⟨"ChunkViewModel", "marksOf", "()I"⟩, 12) := ⟨⟨by decide +kernel, by decide +kernel⟩, List.mem_of_getElem? (i := 562) (by decide +kernel), List.mem_of_getElem? (i := 745) (by decide +kernel), List.mem_of_getElem? (i := 746) (by decide +kernel)⟩
def lw_privs_3 : List (MethodName × Nat) := [(⟨"ChunkViewModel", "lines", "()I"⟩, 12), (⟨"ChunkViewModel", "endOf", "(I)I"⟩, 12), (⟨"ChunkViewModel", "cellsOf", "(I)I"⟩, 12), (⟨"ChunkViewModel", "marksOf", "()I"⟩, 12)]
theorem lw_r3 : ∀ q ∈ lw_privs_3, lw_okq q := List.forall_mem_cons.mpr ⟨lw_p32, List.forall_mem_cons.mpr ⟨lw_p33, List.forall_mem_cons.mpr ⟨lw_p34, List.forall_mem_cons.mpr ⟨lw_p35, fun _ h => absurd h List.not_mem_nil⟩⟩⟩⟩
def lw_privs : List (MethodName × Nat) := lw_privs_1 ++ (lw_privs_2 ++ (lw_privs_3))
def lw_tbl : List Cond := k2_sels lw_privs ++ tables_1
theorem lw_privs_ok : ∀ q ∈ lw_privs, lw_okq q := by
  show ∀ q ∈ lw_privs_1 ++ (lw_privs_2 ++ (lw_privs_3)), lw_okq q
  exact List.forall_mem_append.mpr ⟨lw_r1, List.forall_mem_append.mpr ⟨lw_r2, lw_r3⟩⟩
end
section
def RX0 : String := "ChunkView$Edit"
def TX0 : u_T := fun k => match k with
  | 0 => ("ChunkView$Edit", "tape", "LChunkView$Row;", true)
  | 1 => ("ChunkView$Edit", "place", "I", false)
  | _ => ("ChunkView$Edit", "taken", "I", false)
def tyX0 : Nat → FieldType := fun k => match k with
  | 0 => .object "ChunkView$Row"
  | 1 => .int
  | _ => .int
theorem nmX0 : ∀ a, a < 3 → ∀ b, b < 3 → a ≠ b → (TX0 a).2.1 ≠ (TX0 b).2.1 := by decide +kernel
theorem tyX0_ok : ∀ k, k < 3 → parseFieldDescriptor (TX0 k).2.2.1 = some (tyX0 k) := by decide +kernel
abbrev cX0_init : ByteArray := prog_2_method_1_code
def yX0_init : MethodName := ⟨RX0, "<init>", "()V"⟩
abbrev cX0_takesOver : ByteArray := prog_2_method_2_code
def yX0_takesOver : MethodName := ⟨RX0, "takesOver", "(IILChunkView$Row;)V"⟩
abbrev cX0_beginsBehind : ByteArray := prog_2_method_3_code
def yX0_beginsBehind : MethodName := ⟨RX0, "beginsBehind", "(I)Z"⟩
abbrev cX0_meets : ByteArray := prog_2_method_4_code
def yX0_meets : MethodName := ⟨RX0, "meets", "(II)Z"⟩
abbrev cX0_bytesMore : ByteArray := prog_2_method_5_code
def yX0_bytesMore : MethodName := ⟨RX0, "bytesMore", "()I"⟩
def RX1 : String := "ChunkView$History"
def TX1 : u_T := fun k => match k with
  | 0 => ("ChunkView$History", "pages", "[LChunkView$Page;", true)
  | 1 => ("ChunkView$History", "latest", "I", false)
  | _ => ("ChunkView$History", "size", "I", false)
def tyX1 : Nat → FieldType := fun k => match k with
  | 0 => .array (.object "ChunkView$Page")
  | 1 => .int
  | _ => .int
theorem nmX1 : ∀ a, a < 3 → ∀ b, b < 3 → a ≠ b → (TX1 a).2.1 ≠ (TX1 b).2.1 := by decide +kernel
theorem tyX1_ok : ∀ k, k < 3 → parseFieldDescriptor (TX1 k).2.2.1 = some (tyX1 k) := by decide +kernel
abbrev cX1_init : ByteArray := prog_3_method_1_code
def yX1_init : MethodName := ⟨RX1, "<init>", "()V"⟩
abbrev cX1_size : ByteArray := prog_3_method_2_code
def yX1_size : MethodName := ⟨RX1, "size", "()I"⟩
abbrev cX1_forgets : ByteArray := prog_3_method_3_code
def yX1_forgets : MethodName := ⟨RX1, "forgets", "()V"⟩
abbrev cX1_latestPage : ByteArray := prog_3_method_4_code
def yX1_latestPage : MethodName := ⟨RX1, "latestPage", "()LChunkView$Page;"⟩
abbrev cX1_remembers : ByteArray := prog_3_method_5_code
def yX1_remembers : MethodName := ⟨RX1, "remembers", "(LChunkView$Page;)V"⟩
abbrev cX1_restores : ByteArray := prog_3_method_6_code
def yX1_restores : MethodName := ⟨RX1, "restores", "(LChunkView$Page;)V"⟩
def RX2 : String := "ChunkView$Page"
def TX2 : u_T := fun k => match k with
  | 0 => ("ChunkView$Page", "bytes", "LChunkView$Row;", true)
  | 1 => ("ChunkView$Page", "chunks", "LChunkView$Row;", true)
  | 2 => ("ChunkView$Page", "markPlaces", "LChunkView$Row;", true)
  | _ => ("ChunkView$Page", "reader", "I", false)
def tyX2 : Nat → FieldType := fun k => match k with
  | 0 => .object "ChunkView$Row"
  | 1 => .object "ChunkView$Row"
  | 2 => .object "ChunkView$Row"
  | _ => .int
theorem nmX2 : ∀ a, a < 4 → ∀ b, b < 4 → a ≠ b → (TX2 a).2.1 ≠ (TX2 b).2.1 := by decide +kernel
theorem tyX2_ok : ∀ k, k < 4 → parseFieldDescriptor (TX2 k).2.2.1 = some (tyX2 k) := by decide +kernel
abbrev cX2_init : ByteArray := prog_4_method_1_code
def yX2_init : MethodName := ⟨RX2, "<init>", "(I)V"⟩
abbrev cX2_becomes : ByteArray := prog_4_method_2_code
def yX2_becomes : MethodName := ⟨RX2, "becomes", "(LChunkView$Page;)V"⟩
abbrev cX2_replaces : ByteArray := prog_4_method_3_code
def yX2_replaces : MethodName := ⟨RX2, "replaces", "(IILChunkView$Row;)V"⟩
abbrev cX2_takesOut : ByteArray := prog_4_method_4_code
def yX2_takesOut : MethodName := ⟨RX2, "takesOut", "(II)V"⟩
abbrev cX2_putsIn : ByteArray := prog_4_method_5_code
def yX2_putsIn : MethodName := ⟨RX2, "putsIn", "(ILChunkView$Row;)V"⟩
abbrev cX2_placeAfterTaking : ByteArray := prog_4_method_6_code
def yX2_placeAfterTaking : MethodName := ⟨RX2, "placeAfterTaking", "(III)I"⟩
abbrev cX2_placeAfterPutting : ByteArray := prog_4_method_7_code
def yX2_placeAfterPutting : MethodName := ⟨RX2, "placeAfterPutting", "(III)I"⟩
abbrev cX2_shrinksChunks : ByteArray := prog_4_method_8_code
def yX2_shrinksChunks : MethodName := ⟨RX2, "shrinksChunks", "(II)V"⟩
abbrev cX2_joinsChunks : ByteArray := prog_4_method_9_code
def yX2_joinsChunks : MethodName := ⟨RX2, "joinsChunks", "(I)V"⟩
abbrev cX2_growsChunk : ByteArray := prog_4_method_10_code
def yX2_growsChunk : MethodName := ⟨RX2, "growsChunk", "(II)V"⟩
abbrev cX2_splitsChunk : ByteArray := prog_4_method_11_code
def yX2_splitsChunk : MethodName := ⟨RX2, "splitsChunk", "(II)V"⟩
abbrev cX2_chunkOfByteAhead : ByteArray := prog_4_method_12_code
def yX2_chunkOfByteAhead : MethodName := ⟨RX2, "chunkOfByteAhead", "(I)I"⟩
abbrev cX2_chunkBegin : ByteArray := prog_4_method_13_code
def yX2_chunkBegin : MethodName := ⟨RX2, "chunkBegin", "(I)I"⟩
abbrev cX2_markPlace : ByteArray := prog_4_method_14_code
def yX2_markPlace : MethodName := ⟨RX2, "markPlace", "(I)I"⟩
abbrev cX2_putMark : ByteArray := prog_4_method_15_code
def yX2_putMark : MethodName := ⟨RX2, "putMark", "(II)V"⟩
abbrev cX2_marksSet : ByteArray := prog_4_method_16_code
def yX2_marksSet : MethodName := ⟨RX2, "marksSet", "()I"⟩
abbrev cX2_markFrom : ByteArray := prog_4_method_17_code
def yX2_markFrom : MethodName := ⟨RX2, "markFrom", "(I)I"⟩
abbrev cX2_readsLetter : ByteArray := prog_4_method_18_code
def yX2_readsLetter : MethodName := ⟨RX2, "readsLetter", "()I"⟩
def RX3 : String := "ChunkView$Row"
def TX3 : u_T := fun k => match k with
  | 0 => ("ChunkView$Row", "numbers", "[I", true)
  | _ => ("ChunkView$Row", "size", "I", false)
def tyX3 : Nat → FieldType := fun k => match k with
  | 0 => .array .int
  | _ => .int
theorem nmX3 : ∀ a, a < 2 → ∀ b, b < 2 → a ≠ b → (TX3 a).2.1 ≠ (TX3 b).2.1 := by decide +kernel
theorem tyX3_ok : ∀ k, k < 2 → parseFieldDescriptor (TX3 k).2.2.1 = some (tyX3 k) := by decide +kernel
abbrev cX3_init : ByteArray := prog_5_method_1_code
def yX3_init : MethodName := ⟨RX3, "<init>", "(I)V"⟩
abbrev cX3_size : ByteArray := prog_5_method_2_code
def yX3_size : MethodName := ⟨RX3, "size", "()I"⟩
abbrev cX3_get : ByteArray := prog_5_method_3_code
def yX3_get : MethodName := ⟨RX3, "get", "(I)I"⟩
abbrev cX3_set : ByteArray := prog_5_method_4_code
def yX3_set : MethodName := ⟨RX3, "set", "(II)V"⟩
abbrev cX3_add : ByteArray := prog_5_method_5_code
def yX3_add : MethodName := ⟨RX3, "add", "(I)V"⟩
abbrev cX3_empties : ByteArray := prog_5_method_6_code
def yX3_empties : MethodName := ⟨RX3, "empties", "()V"⟩
abbrev cX3_shortensTo : ByteArray := prog_5_method_7_code
def yX3_shortensTo : MethodName := ⟨RX3, "shortensTo", "(I)V"⟩
abbrev cX3_copies : ByteArray := prog_5_method_8_code
def yX3_copies : MethodName := ⟨RX3, "copies", "(LChunkView$Row;)V"⟩
abbrev cX3_opens : ByteArray := prog_5_method_9_code
def yX3_opens : MethodName := ⟨RX3, "opens", "(II)V"⟩
abbrev cX3_closes : ByteArray := prog_5_method_10_code
def yX3_closes : MethodName := ⟨RX3, "closes", "(II)V"⟩
abbrev cX3_mixedInto : ByteArray := prog_5_method_11_code
def yX3_mixedInto : MethodName := ⟨RX3, "mixedInto", "(J)J"⟩
def RX4 : String := "ChunkView$Staged"
def TX4 : u_T := fun k => match k with
  | 0 => ("ChunkView$Staged", "slots", "[LChunkView$Edit;", true)
  | _ => ("ChunkView$Staged", "size", "I", false)
def tyX4 : Nat → FieldType := fun k => match k with
  | 0 => .array (.object "ChunkView$Edit")
  | _ => .int
theorem nmX4 : ∀ a, a < 2 → ∀ b, b < 2 → a ≠ b → (TX4 a).2.1 ≠ (TX4 b).2.1 := by decide +kernel
theorem tyX4_ok : ∀ k, k < 2 → parseFieldDescriptor (TX4 k).2.2.1 = some (tyX4 k) := by decide +kernel
abbrev cX4_init : ByteArray := prog_6_method_1_code
def yX4_init : MethodName := ⟨RX4, "<init>", "()V"⟩
abbrev cX4_size : ByteArray := prog_6_method_2_code
def yX4_size : MethodName := ⟨RX4, "size", "()I"⟩
abbrev cX4_empties : ByteArray := prog_6_method_3_code
def yX4_empties : MethodName := ⟨RX4, "empties", "()V"⟩
abbrev cX4_slot : ByteArray := prog_6_method_4_code
def yX4_slot : MethodName := ⟨RX4, "slot", "(I)LChunkView$Edit;"⟩
abbrev cX4_touches : ByteArray := prog_6_method_5_code
def yX4_touches : MethodName := ⟨RX4, "touches", "(II)Z"⟩
abbrev cX4_growth : ByteArray := prog_6_method_6_code
def yX4_growth : MethodName := ⟨RX4, "growth", "()I"⟩
abbrev cX4_adds : ByteArray := prog_6_method_7_code
def yX4_adds : MethodName := ⟨RX4, "adds", "(IILChunkView$Row;)V"⟩
abbrev cX4_isBehind : ByteArray := prog_6_method_8_code
def yX4_isBehind : MethodName := ⟨RX4, "isBehind", "(II)Z"⟩
abbrev cX4_changesAll : ByteArray := prog_6_method_9_code
def yX4_changesAll : MethodName := ⟨RX4, "changesAll", "(LChunkView$Page;)V"⟩
def RX5 : String := "ChunkView$Sums"
def TX5 : u_T := fun k => match k with
  | 0 => ("ChunkView$Sums", "bytes", "LChunkView$Row;", true)
  | 1 => ("ChunkView$Sums", "letters", "LChunkView$Row;", true)
  | 2 => ("ChunkView$Sums", "ends", "LChunkView$Row;", true)
  | 3 => ("ChunkView$Sums", "cells", "LChunkView$Row;", true)
  | 4 => ("ChunkView$Sums", "lineBegins", "LChunkView$Row;", true)
  | 5 => ("ChunkView$Sums", "linesByWidth", "LChunkView$Row;", true)
  | _ => ("ChunkView$Sums", "sorted", "Z", false)
def tyX5 : Nat → FieldType := fun k => match k with
  | 0 => .object "ChunkView$Row"
  | 1 => .object "ChunkView$Row"
  | 2 => .object "ChunkView$Row"
  | 3 => .object "ChunkView$Row"
  | 4 => .object "ChunkView$Row"
  | 5 => .object "ChunkView$Row"
  | _ => .boolean
theorem nmX5 : ∀ a, a < 7 → ∀ b, b < 7 → a ≠ b → (TX5 a).2.1 ≠ (TX5 b).2.1 := by decide +kernel
theorem tyX5_ok : ∀ k, k < 7 → parseFieldDescriptor (TX5 k).2.2.1 = some (tyX5 k) := by decide +kernel
abbrev cX5_init : ByteArray := prog_7_method_1_code
def yX5_init : MethodName := ⟨RX5, "<init>", "()V"⟩
abbrev cX5_startsOver : ByteArray := prog_7_method_2_code
def yX5_startsOver : MethodName := ⟨RX5, "startsOver", "()V"⟩
abbrev cX5_addsPlace : ByteArray := prog_7_method_3_code
def yX5_addsPlace : MethodName := ⟨RX5, "addsPlace", "(IIII)V"⟩
abbrev cX5_measures : ByteArray := prog_7_method_4_code
def yX5_measures : MethodName := ⟨RX5, "measures", "(LChunkView$Row;)V"⟩
abbrev cX5_rowOf : ByteArray := prog_7_method_5_code
def yX5_rowOf : MethodName := ⟨RX5, "rowOf", "(I)LChunkView$Row;"⟩
abbrev cX5_ahead : ByteArray := prog_7_method_6_code
def yX5_ahead : MethodName := ⟨RX5, "ahead", "(II)I"⟩
abbrev cX5_between : ByteArray := prog_7_method_7_code
def yX5_between : MethodName := ⟨RX5, "between", "(III)I"⟩
abbrev cX5_lastPlace : ByteArray := prog_7_method_8_code
def yX5_lastPlace : MethodName := ⟨RX5, "lastPlace", "()I"⟩
abbrev cX5_total : ByteArray := prog_7_method_9_code
def yX5_total : MethodName := ⟨RX5, "total", "(I)I"⟩
abbrev cX5_placeBy : ByteArray := prog_7_method_10_code
def yX5_placeBy : MethodName := ⟨RX5, "placeBy", "(II)I"⟩
abbrev cX5_farthest : ByteArray := prog_7_method_11_code
def yX5_farthest : MethodName := ⟨RX5, "farthest", "(IIII)I"⟩
abbrev cX5_lines : ByteArray := prog_7_method_12_code
def yX5_lines : MethodName := ⟨RX5, "lines", "()I"⟩
abbrev cX5_lineBegin : ByteArray := prog_7_method_13_code
def yX5_lineBegin : MethodName := ⟨RX5, "lineBegin", "(I)I"⟩
abbrev cX5_lineEnd : ByteArray := prog_7_method_14_code
def yX5_lineEnd : MethodName := ⟨RX5, "lineEnd", "(I)I"⟩
abbrev cX5_lineWidth : ByteArray := prog_7_method_15_code
def yX5_lineWidth : MethodName := ⟨RX5, "lineWidth", "(I)I"⟩
abbrev cX5_lineByWidth : ByteArray := prog_7_method_16_code
def yX5_lineByWidth : MethodName := ⟨RX5, "lineByWidth", "(I)I"⟩
abbrev cX5_sortsLines : ByteArray := prog_7_method_17_code
def yX5_sortsLines : MethodName := ⟨RX5, "sortsLines", "()V"⟩
def RX6 : String := "ChunkView"
def TX6 : u_T := fun k => match k with
  | 0 => ("ChunkView", "text", "LChunkView$Page;", true)
  | 1 => ("ChunkView", "sums", "LChunkView$Sums;", true)
  | 2 => ("ChunkView", "tape", "LChunkView$Row;", true)
  | 3 => ("ChunkView", "staged", "LChunkView$Staged;", true)
  | 4 => ("ChunkView", "history", "LChunkView$History;", true)
  | _ => ("ChunkView", "images", "[LChunkView$Page;", true)
def tyX6 : Nat → FieldType := fun k => match k with
  | 0 => .object "ChunkView$Page"
  | 1 => .object "ChunkView$Sums"
  | 2 => .object "ChunkView$Row"
  | 3 => .object "ChunkView$Staged"
  | 4 => .object "ChunkView$History"
  | _ => .array (.object "ChunkView$Page")
theorem nmX6 : ∀ a, a < 6 → ∀ b, b < 6 → a ≠ b → (TX6 a).2.1 ≠ (TX6 b).2.1 := by decide +kernel
theorem tyX6_ok : ∀ k, k < 6 → parseFieldDescriptor (TX6 k).2.2.1 = some (tyX6 k) := by decide +kernel
abbrev cX6_init : ByteArray := prog_1_method_1_code
def yX6_init : MethodName := ⟨RX6, "<init>", "()V"⟩
abbrev cX6_type : ByteArray := prog_1_method_2_code
def yX6_type : MethodName := ⟨RX6, "type", "(I)I"⟩
abbrev cX6_clear : ByteArray := prog_1_method_3_code
def yX6_clear : MethodName := ⟨RX6, "clear", "()I"⟩
abbrev cX6_edits : ByteArray := prog_1_method_4_code
def yX6_edits : MethodName := ⟨RX6, "edits", "(II)I"⟩
abbrev cX6_stages : ByteArray := prog_1_method_5_code
def yX6_stages : MethodName := ⟨RX6, "stages", "(II)I"⟩
abbrev cX6_does : ByteArray := prog_1_method_6_code
def yX6_does : MethodName := ⟨RX6, "does", "()I"⟩
abbrev cX6_drops : ByteArray := prog_1_method_7_code
def yX6_drops : MethodName := ⟨RX6, "drops", "()I"⟩
abbrev cX6_undo : ByteArray := prog_1_method_8_code
def yX6_undo : MethodName := ⟨RX6, "undo", "()I"⟩
abbrev cX6_at : ByteArray := prog_1_method_9_code
def yX6_at : MethodName := ⟨RX6, "at", "(I)I"⟩
abbrev cX6_tells : ByteArray := prog_1_method_10_code
def yX6_tells : MethodName := ⟨RX6, "tells", "(III)I"⟩
abbrev cX6_spot : ByteArray := prog_1_method_11_code
def yX6_spot : MethodName := ⟨RX6, "spot", "(II)I"⟩
abbrev cX6_column : ByteArray := prog_1_method_12_code
def yX6_column : MethodName := ⟨RX6, "column", "(II)I"⟩
abbrev cX6_line : ByteArray := prog_1_method_13_code
def yX6_line : MethodName := ⟨RX6, "line", "(II)I"⟩
abbrev cX6_wide : ByteArray := prog_1_method_14_code
def yX6_wide : MethodName := ⟨RX6, "wide", "(I)I"⟩
abbrev cX6_chunk : ByteArray := prog_1_method_15_code
def yX6_chunk : MethodName := ⟨RX6, "chunk", "(II)I"⟩
abbrev cX6_marks : ByteArray := prog_1_method_16_code
def yX6_marks : MethodName := ⟨RX6, "marks", "(II)I"⟩
abbrev cX6_lifts : ByteArray := prog_1_method_17_code
def yX6_lifts : MethodName := ⟨RX6, "lifts", "(I)I"⟩
abbrev cX6_mark : ByteArray := prog_1_method_18_code
def yX6_mark : MethodName := ⟨RX6, "mark", "(I)I"⟩
abbrev cX6_next : ByteArray := prog_1_method_19_code
def yX6_next : MethodName := ⟨RX6, "next", "(I)I"⟩
abbrev cX6_seeks : ByteArray := prog_1_method_20_code
def yX6_seeks : MethodName := ⟨RX6, "seeks", "(I)I"⟩
abbrev cX6_reads : ByteArray := prog_1_method_21_code
def yX6_reads : MethodName := ⟨RX6, "reads", "()I"⟩
abbrev cX6_keep : ByteArray := prog_1_method_22_code
def yX6_keep : MethodName := ⟨RX6, "keep", "(I)I"⟩
abbrev cX6_back : ByteArray := prog_1_method_23_code
def yX6_back : MethodName := ⟨RX6, "back", "(I)I"⟩
abbrev cX6_count : ByteArray := prog_1_method_24_code
def yX6_count : MethodName := ⟨RX6, "count", "(I)I"⟩
abbrev cX6_digest : ByteArray := prog_1_method_25_code
def yX6_digest : MethodName := ⟨RX6, "digest", "()J"⟩
abbrev cX6_isPlace : ByteArray := prog_1_method_26_code
def yX6_isPlace : MethodName := ⟨RX6, "isPlace", "(I)Z"⟩
abbrev cX6_isStretch : ByteArray := prog_1_method_27_code
def yX6_isStretch : MethodName := ⟨RX6, "isStretch", "(II)Z"⟩
abbrev cX6_isLine : ByteArray := prog_1_method_28_code
def yX6_isLine : MethodName := ⟨RX6, "isLine", "(I)Z"⟩
abbrev cX6_isMeasure : ByteArray := prog_1_method_29_code
def yX6_isMeasure : MethodName := ⟨RX6, "isMeasure", "(I)Z"⟩
abbrev cX6_isName : ByteArray := prog_1_method_30_code
def yX6_isName : MethodName := ⟨RX6, "isName", "(I)Z"⟩
abbrev cX6_measureInLine : ByteArray := prog_1_method_31_code
def yX6_measureInLine : MethodName := ⟨RX6, "measureInLine", "(I)I"⟩
abbrev cX6_widestPart : ByteArray := prog_1_method_32_code
def yX6_widestPart : MethodName := ⟨RX6, "widestPart", "(II)I"⟩
abbrev cX6_beginsLetter : ByteArray := prog_1_method_33_code
def yX6_beginsLetter : MethodName := ⟨RX6, "beginsLetter", "(I)Z"⟩
abbrev cX6_cellsOf : ByteArray := prog_1_method_34_code
def yX6_cellsOf : MethodName := ⟨RX6, "cellsOf", "(I)I"⟩
def RX7 : String := "ChunkViewModel"
def TX7 : u_T := fun k => match k with
  | 0 => ("ChunkViewModel", "s", "[I", true)
  | 1 => ("ChunkViewModel", "past", "[I", true)
  | 2 => ("ChunkViewModel", "known", "I", false)
  | 3 => ("ChunkViewModel", "images", "[I", true)
  | 4 => ("ChunkViewModel", "kept", "[Z", true)
  | 5 => ("ChunkViewModel", "tape", "[I", true)
  | 6 => ("ChunkViewModel", "typed", "I", false)
  | 7 => ("ChunkViewModel", "places", "[I", true)
  | 8 => ("ChunkViewModel", "takes", "[I", true)
  | 9 => ("ChunkViewModel", "tapes", "[I", true)
  | 10 => ("ChunkViewModel", "typeds", "[I", true)
  | _ => ("ChunkViewModel", "staged", "I", false)
def tyX7 : Nat → FieldType := fun k => match k with
  | 0 => .array .int
  | 1 => .array .int
  | 2 => .int
  | 3 => .array .int
  | 4 => .array .boolean
  | 5 => .array .int
  | 6 => .int
  | 7 => .array .int
  | 8 => .array .int
  | 9 => .array .int
  | 10 => .array .int
  | _ => .int
theorem nmX7 : ∀ a, a < 12 → ∀ b, b < 12 → a ≠ b → (TX7 a).2.1 ≠ (TX7 b).2.1 := by decide +kernel
theorem tyX7_ok : ∀ k, k < 12 → parseFieldDescriptor (TX7 k).2.2.1 = some (tyX7 k) := by decide +kernel
abbrev cX7_init : ByteArray := prog_9_method_1_code
def yX7_init : MethodName := ⟨RX7, "<init>", "()V"⟩
abbrev cX7_in : ByteArray := prog_9_method_3_code
def yX7_in : MethodName := ⟨RX7, "in", "(III)Z"⟩
abbrev cX7_isPlace : ByteArray := prog_9_method_4_code
def yX7_isPlace : MethodName := ⟨RX7, "isPlace", "(I)Z"⟩
abbrev cX7_byteAt : ByteArray := prog_9_method_5_code
def yX7_byteAt : MethodName := ⟨RX7, "byteAt", "(I)I"⟩
abbrev cX7_chunkAt : ByteArray := prog_9_method_6_code
def yX7_chunkAt : MethodName := ⟨RX7, "chunkAt", "(I)I"⟩
abbrev cX7_opens : ByteArray := prog_9_method_7_code
def yX7_opens : MethodName := ⟨RX7, "opens", "(II)V"⟩
abbrev cX7_putting : ByteArray := prog_9_method_8_code
def yX7_putting : MethodName := ⟨RX7, "putting", "(I[III)V"⟩
abbrev cX7_goes : ByteArray := prog_9_method_9_code
def yX7_goes : MethodName := ⟨RX7, "goes", "(III)I"⟩
abbrev cX7_taking : ByteArray := prog_9_method_10_code
def yX7_taking : MethodName := ⟨RX7, "taking", "(II)V"⟩
abbrev cX7_edit : ByteArray := prog_9_method_11_code
def yX7_edit : MethodName := ⟨RX7, "edit", "(II[III)V"⟩
abbrev cX7_keeps : ByteArray := prog_9_method_12_code
def yX7_keeps : MethodName := ⟨RX7, "keeps", "()V"⟩
abbrev cX7_type : ByteArray := prog_9_method_13_code
def yX7_type : MethodName := ⟨RX7, "type", "(I)I"⟩
abbrev cX7_clear : ByteArray := prog_9_method_14_code
def yX7_clear : MethodName := ⟨RX7, "clear", "()I"⟩
abbrev cX7_isEdit : ByteArray := prog_9_method_15_code
def yX7_isEdit : MethodName := ⟨RX7, "isEdit", "(II)Z"⟩
abbrev cX7_edits : ByteArray := prog_9_method_16_code
def yX7_edits : MethodName := ⟨RX7, "edits", "(II)I"⟩
abbrev cX7_stages : ByteArray := prog_9_method_17_code
def yX7_stages : MethodName := ⟨RX7, "stages", "(II)I"⟩
abbrev cX7_does : ByteArray := prog_9_method_18_code
def yX7_does : MethodName := ⟨RX7, "does", "()I"⟩
abbrev cX7_drops : ByteArray := prog_9_method_19_code
def yX7_drops : MethodName := ⟨RX7, "drops", "()I"⟩
abbrev cX7_undo : ByteArray := prog_9_method_20_code
def yX7_undo : MethodName := ⟨RX7, "undo", "()I"⟩
abbrev cX7_isLetter : ByteArray := prog_9_method_21_code
def yX7_isLetter : MethodName := ⟨RX7, "isLetter", "(I)Z"⟩
abbrev cX7_has : ByteArray := prog_9_method_22_code
def yX7_has : MethodName := ⟨RX7, "has", "(II)I"⟩
abbrev cX7_measure : ByteArray := prog_9_method_23_code
def yX7_measure : MethodName := ⟨RX7, "measure", "(III)I"⟩
abbrev cX7_at : ByteArray := prog_9_method_24_code
def yX7_at : MethodName := ⟨RX7, "at", "(I)I"⟩
abbrev cX7_lineAt : ByteArray := prog_9_method_25_code
def yX7_lineAt : MethodName := ⟨RX7, "lineAt", "(I)I"⟩
abbrev cX7_beyond : ByteArray := prog_9_method_26_code
def yX7_beyond : MethodName := ⟨RX7, "beyond", "(IIII)I"⟩
abbrev cX7_tells : ByteArray := prog_9_method_27_code
def yX7_tells : MethodName := ⟨RX7, "tells", "(III)I"⟩
abbrev cX7_spot : ByteArray := prog_9_method_28_code
def yX7_spot : MethodName := ⟨RX7, "spot", "(II)I"⟩
abbrev cX7_lines : ByteArray := prog_9_method_29_code
def yX7_lines : MethodName := ⟨RX7, "lines", "()I"⟩
abbrev cX7_isLine : ByteArray := prog_9_method_30_code
def yX7_isLine : MethodName := ⟨RX7, "isLine", "(I)Z"⟩
abbrev cX7_endOf : ByteArray := prog_9_method_31_code
def yX7_endOf : MethodName := ⟨RX7, "endOf", "(I)I"⟩
abbrev cX7_column : ByteArray := prog_9_method_32_code
def yX7_column : MethodName := ⟨RX7, "column", "(II)I"⟩
abbrev cX7_line : ByteArray := prog_9_method_33_code
def yX7_line : MethodName := ⟨RX7, "line", "(II)I"⟩
abbrev cX7_cellsOf : ByteArray := prog_9_method_34_code
def yX7_cellsOf : MethodName := ⟨RX7, "cellsOf", "(I)I"⟩
abbrev cX7_wide : ByteArray := prog_9_method_35_code
def yX7_wide : MethodName := ⟨RX7, "wide", "(I)I"⟩
abbrev cX7_chunk : ByteArray := prog_9_method_36_code
def yX7_chunk : MethodName := ⟨RX7, "chunk", "(II)I"⟩
abbrev cX7_isName : ByteArray := prog_9_method_37_code
def yX7_isName : MethodName := ⟨RX7, "isName", "(I)Z"⟩
abbrev cX7_marksOf : ByteArray := prog_9_method_38_code
def yX7_marksOf : MethodName := ⟨RX7, "marksOf", "()I"⟩
abbrev cX7_told : ByteArray := prog_9_method_39_code
def yX7_told : MethodName := ⟨RX7, "told", "(I)I"⟩
abbrev cX7_marks : ByteArray := prog_9_method_40_code
def yX7_marks : MethodName := ⟨RX7, "marks", "(II)I"⟩
abbrev cX7_lifts : ByteArray := prog_9_method_41_code
def yX7_lifts : MethodName := ⟨RX7, "lifts", "(I)I"⟩
abbrev cX7_mark : ByteArray := prog_9_method_42_code
def yX7_mark : MethodName := ⟨RX7, "mark", "(I)I"⟩
abbrev cX7_next : ByteArray := prog_9_method_43_code
def yX7_next : MethodName := ⟨RX7, "next", "(I)I"⟩
abbrev cX7_seeks : ByteArray := prog_9_method_44_code
def yX7_seeks : MethodName := ⟨RX7, "seeks", "(I)I"⟩
abbrev cX7_reads : ByteArray := prog_9_method_45_code
def yX7_reads : MethodName := ⟨RX7, "reads", "()I"⟩
abbrev cX7_keep : ByteArray := prog_9_method_46_code
def yX7_keep : MethodName := ⟨RX7, "keep", "(I)I"⟩
abbrev cX7_back : ByteArray := prog_9_method_47_code
def yX7_back : MethodName := ⟨RX7, "back", "(I)I"⟩
abbrev cX7_count : ByteArray := prog_9_method_48_code
def yX7_count : MethodName := ⟨RX7, "count", "(I)I"⟩
abbrev cX7_digest : ByteArray := prog_9_method_49_code
def yX7_digest : MethodName := ⟨RX7, "digest", "()J"⟩
def RJ9 : String := "java/lang/Math"
def TJ9 : u_T := fun k => match k with
  | _ => ("", "", "", false)
def tyJ9 : Nat → FieldType := fun k => match k with
  | _ => .int
theorem nmJ9 : ∀ a, a < 0 → ∀ b, b < 0 → a ≠ b → (TJ9 a).2.1 ≠ (TJ9 b).2.1 := by decide +kernel
theorem tyJ9_ok : ∀ k, k < 0 → parseFieldDescriptor (TJ9 k).2.2.1 = some (tyJ9 k) := by decide +kernel
abbrev cJ9_max_7cf53 : ByteArray := prog_10_method_65_code
def yJ9_max_7cf53 : MethodName := ⟨RJ9, "max", "(II)I"⟩
abbrev cJ9_min_7cf53 : ByteArray := prog_10_method_69_code
def yJ9_min_7cf53 : MethodName := ⟨RJ9, "min", "(II)I"⟩
def RL : String := "ChunkViewLaw"
abbrev cL_law : ByteArray := code
def yL_law : MethodName := ⟨RL, "law", "([I)Z"⟩
abbrev vwCl : List vw_C := [(RX0, TX0, 3), (RX1, TX1, 3), (RX2, TX2, 4), (RX3, TX3, 2), (RX4, TX4, 2), (RX5, TX5, 7), (RX6, TX6, 6), (RX7, TX7, 12)]
/-! the words that stay, of the tables -/
def gt : List Cond := lw_tbl.filter goodWord
theorem gt_of {w : Cond} (i : Nat) (h : lw_tbl[i]? = some w) (hg : goodWord w = true) : w ∈ gt := List.mem_filter.mpr ⟨List.mem_of_getElem? h, hg⟩
theorem gt_in {w : Cond} (h : w ∈ gt) : w ∈ lw_tbl := (List.mem_filter.mp h).1
theorem gt_good : GoodIn gt gt := fun w h => ⟨h, good_of_word (List.mem_filter.mp h).2⟩
abbrev MI : Type := MethodName × ByteArray × Nat × Option FieldType × Nat × Nat
def mX0_init : MI := (yX0_init, cX0_init, 1, ((Option.none : Option Jvm.ClassFile.FieldType)), 2, 42)
def mX0_takesOver : MI := (yX0_takesOver, cX0_takesOver, 4, ((Option.none : Option Jvm.ClassFile.FieldType)), 2, 43)
def mX0_beginsBehind : MI := (yX0_beginsBehind, cX0_beginsBehind, 2, ((Option.some Jvm.ClassFile.FieldType.boolean)), 0, 0)
def mX0_meets : MI := (yX0_meets, cX0_meets, 3, ((Option.some Jvm.ClassFile.FieldType.boolean)), 0, 0)
def mX0_bytesMore : MI := (yX0_bytesMore, cX0_bytesMore, 1, ((Option.some Jvm.ClassFile.FieldType.int)), 1, 20)
def mX1_init : MI := (yX1_init, cX1_init, 2, ((Option.none : Option Jvm.ClassFile.FieldType)), 3, 64)
def mX1_size : MI := (yX1_size, cX1_size, 1, ((Option.some Jvm.ClassFile.FieldType.int)), 0, 0)
def mX1_forgets : MI := (yX1_forgets, cX1_forgets, 1, ((Option.none : Option Jvm.ClassFile.FieldType)), 0, 0)
def mX1_latestPage : MI := (yX1_latestPage, cX1_latestPage, 1, ((Option.some (Jvm.ClassFile.FieldType.object "ChunkView$Page"))), 0, 0)
def mX1_remembers : MI := (yX1_remembers, cX1_remembers, 3, ((Option.none : Option Jvm.ClassFile.FieldType)), 3, 64)
def mX1_restores : MI := (yX1_restores, cX1_restores, 3, ((Option.none : Option Jvm.ClassFile.FieldType)), 3, 64)
def mX2_init : MI := (yX2_init, cX2_init, 3, ((Option.none : Option Jvm.ClassFile.FieldType)), 2, 42)
def mX2_becomes : MI := (yX2_becomes, cX2_becomes, 2, ((Option.none : Option Jvm.ClassFile.FieldType)), 2, 43)
def mX2_replaces : MI := (yX2_replaces, cX2_replaces, 4, ((Option.none : Option Jvm.ClassFile.FieldType)), 4, 97)
def mX2_takesOut : MI := (yX2_takesOut, cX2_takesOut, 4, ((Option.none : Option Jvm.ClassFile.FieldType)), 3, 68)
def mX2_putsIn : MI := (yX2_putsIn, cX2_putsIn, 5, ((Option.none : Option Jvm.ClassFile.FieldType)), 3, 73)
def mX2_placeAfterTaking : MI := (yX2_placeAfterTaking, cX2_placeAfterTaking, 3, ((Option.some Jvm.ClassFile.FieldType.int)), 1, 21)
def mX2_placeAfterPutting : MI := (yX2_placeAfterPutting, cX2_placeAfterPutting, 3, ((Option.some Jvm.ClassFile.FieldType.int)), 0, 0)
def mX2_shrinksChunks : MI := (yX2_shrinksChunks, cX2_shrinksChunks, 9, ((Option.none : Option Jvm.ClassFile.FieldType)), 1, 22)
def mX2_joinsChunks : MI := (yX2_joinsChunks, cX2_joinsChunks, 4, ((Option.none : Option Jvm.ClassFile.FieldType)), 2, 45)
def mX2_growsChunk : MI := (yX2_growsChunk, cX2_growsChunk, 5, ((Option.none : Option Jvm.ClassFile.FieldType)), 2, 49)
def mX2_splitsChunk : MI := (yX2_splitsChunk, cX2_splitsChunk, 7, ((Option.none : Option Jvm.ClassFile.FieldType)), 1, 23)
def mX2_chunkOfByteAhead : MI := (yX2_chunkOfByteAhead, cX2_chunkOfByteAhead, 4, ((Option.some Jvm.ClassFile.FieldType.int)), 1, 21)
def mX2_chunkBegin : MI := (yX2_chunkBegin, cX2_chunkBegin, 4, ((Option.some Jvm.ClassFile.FieldType.int)), 1, 21)
def mX2_markPlace : MI := (yX2_markPlace, cX2_markPlace, 2, ((Option.some Jvm.ClassFile.FieldType.int)), 1, 21)
def mX2_putMark : MI := (yX2_putMark, cX2_putMark, 3, ((Option.none : Option Jvm.ClassFile.FieldType)), 1, 22)
def mX2_marksSet : MI := (yX2_marksSet, cX2_marksSet, 3, ((Option.some Jvm.ClassFile.FieldType.int)), 1, 21)
def mX2_markFrom : MI := (yX2_markFrom, cX2_markFrom, 6, ((Option.some Jvm.ClassFile.FieldType.int)), 1, 21)
def mX2_readsLetter : MI := (yX2_readsLetter, cX2_readsLetter, 3, ((Option.some Jvm.ClassFile.FieldType.int)), 1, 21)
def mX3_init : MI := (yX3_init, cX3_init, 2, ((Option.none : Option Jvm.ClassFile.FieldType)), 1, 21)
def mX3_size : MI := (yX3_size, cX3_size, 1, ((Option.some Jvm.ClassFile.FieldType.int)), 0, 0)
def mX3_get : MI := (yX3_get, cX3_get, 2, ((Option.some Jvm.ClassFile.FieldType.int)), 0, 0)
def mX3_set : MI := (yX3_set, cX3_set, 3, ((Option.none : Option Jvm.ClassFile.FieldType)), 0, 0)
def mX3_add : MI := (yX3_add, cX3_add, 2, ((Option.none : Option Jvm.ClassFile.FieldType)), 0, 0)
def mX3_empties : MI := (yX3_empties, cX3_empties, 1, ((Option.none : Option Jvm.ClassFile.FieldType)), 0, 0)
def mX3_shortensTo : MI := (yX3_shortensTo, cX3_shortensTo, 2, ((Option.none : Option Jvm.ClassFile.FieldType)), 0, 0)
def mX3_copies : MI := (yX3_copies, cX3_copies, 3, ((Option.none : Option Jvm.ClassFile.FieldType)), 1, 21)
def mX3_opens : MI := (yX3_opens, cX3_opens, 4, ((Option.none : Option Jvm.ClassFile.FieldType)), 0, 0)
def mX3_closes : MI := (yX3_closes, cX3_closes, 4, ((Option.none : Option Jvm.ClassFile.FieldType)), 1, 22)
def mX3_mixedInto : MI := (yX3_mixedInto, cX3_mixedInto, 4, ((Option.some Jvm.ClassFile.FieldType.long)), 1, 21)
def mX4_init : MI := (yX4_init, cX4_init, 2, ((Option.none : Option Jvm.ClassFile.FieldType)), 3, 62)
def mX4_size : MI := (yX4_size, cX4_size, 1, ((Option.some Jvm.ClassFile.FieldType.int)), 0, 0)
def mX4_empties : MI := (yX4_empties, cX4_empties, 1, ((Option.none : Option Jvm.ClassFile.FieldType)), 0, 0)
def mX4_slot : MI := (yX4_slot, cX4_slot, 2, ((Option.some (Jvm.ClassFile.FieldType.object "ChunkView$Edit"))), 0, 0)
def mX4_touches : MI := (yX4_touches, cX4_touches, 5, ((Option.some Jvm.ClassFile.FieldType.boolean)), 1, 22)
def mX4_growth : MI := (yX4_growth, cX4_growth, 4, ((Option.some Jvm.ClassFile.FieldType.int)), 2, 40)
def mX4_adds : MI := (yX4_adds, cX4_adds, 6, ((Option.none : Option Jvm.ClassFile.FieldType)), 3, 66)
def mX4_isBehind : MI := (yX4_isBehind, cX4_isBehind, 4, ((Option.some Jvm.ClassFile.FieldType.boolean)), 1, 21)
def mX4_changesAll : MI := (yX4_changesAll, cX4_changesAll, 4, ((Option.none : Option Jvm.ClassFile.FieldType)), 5, 120)
def mX5_init : MI := (yX5_init, cX5_init, 1, ((Option.none : Option Jvm.ClassFile.FieldType)), 3, 65)
def mX5_startsOver : MI := (yX5_startsOver, cX5_startsOver, 1, ((Option.none : Option Jvm.ClassFile.FieldType)), 2, 45)
def mX5_addsPlace : MI := (yX5_addsPlace, cX5_addsPlace, 5, ((Option.none : Option Jvm.ClassFile.FieldType)), 1, 21)
def mX5_measures : MI := (yX5_measures, cX5_measures, 6, ((Option.none : Option Jvm.ClassFile.FieldType)), 3, 65)
def mX5_rowOf : MI := (yX5_rowOf, cX5_rowOf, 2, ((Option.some (Jvm.ClassFile.FieldType.object "ChunkView$Row"))), 0, 0)
def mX5_ahead : MI := (yX5_ahead, cX5_ahead, 3, ((Option.some Jvm.ClassFile.FieldType.int)), 1, 21)
def mX5_between : MI := (yX5_between, cX5_between, 4, ((Option.some Jvm.ClassFile.FieldType.int)), 2, 43)
def mX5_lastPlace : MI := (yX5_lastPlace, cX5_lastPlace, 1, ((Option.some Jvm.ClassFile.FieldType.int)), 1, 20)
def mX5_total : MI := (yX5_total, cX5_total, 2, ((Option.some Jvm.ClassFile.FieldType.int)), 2, 43)
def mX5_placeBy : MI := (yX5_placeBy, cX5_placeBy, 3, ((Option.some Jvm.ClassFile.FieldType.int)), 4, 91)
def mX5_farthest : MI := (yX5_farthest, cX5_farthest, 6, ((Option.some Jvm.ClassFile.FieldType.int)), 3, 66)
def mX5_lines : MI := (yX5_lines, cX5_lines, 1, ((Option.some Jvm.ClassFile.FieldType.int)), 1, 20)
def mX5_lineBegin : MI := (yX5_lineBegin, cX5_lineBegin, 2, ((Option.some Jvm.ClassFile.FieldType.int)), 1, 21)
def mX5_lineEnd : MI := (yX5_lineEnd, cX5_lineEnd, 2, ((Option.some Jvm.ClassFile.FieldType.int)), 2, 42)
def mX5_lineWidth : MI := (yX5_lineWidth, cX5_lineWidth, 2, ((Option.some Jvm.ClassFile.FieldType.int)), 3, 66)
def mX5_lineByWidth : MI := (yX5_lineByWidth, cX5_lineByWidth, 2, ((Option.some Jvm.ClassFile.FieldType.int)), 5, 110)
def mX5_sortsLines : MI := (yX5_sortsLines, cX5_sortsLines, 4, ((Option.none : Option Jvm.ClassFile.FieldType)), 4, 87)
def mX6_init : MI := (yX6_init, cX6_init, 1, ((Option.none : Option Jvm.ClassFile.FieldType)), 4, 85)
def mX6_type : MI := (yX6_type, cX6_type, 2, ((Option.some Jvm.ClassFile.FieldType.int)), 1, 21)
def mX6_clear : MI := (yX6_clear, cX6_clear, 2, ((Option.some Jvm.ClassFile.FieldType.int)), 1, 20)
def mX6_edits : MI := (yX6_edits, cX6_edits, 3, ((Option.some Jvm.ClassFile.FieldType.int)), 5, 120)
def mX6_stages : MI := (yX6_stages, cX6_stages, 3, ((Option.some Jvm.ClassFile.FieldType.int)), 4, 91)
def mX6_does : MI := (yX6_does, cX6_does, 1, ((Option.some Jvm.ClassFile.FieldType.int)), 6, 143)
def mX6_drops : MI := (yX6_drops, cX6_drops, 2, ((Option.some Jvm.ClassFile.FieldType.int)), 1, 20)
def mX6_undo : MI := (yX6_undo, cX6_undo, 1, ((Option.some Jvm.ClassFile.FieldType.int)), 4, 90)
def mX6_at : MI := (yX6_at, cX6_at, 2, ((Option.some Jvm.ClassFile.FieldType.int)), 1, 21)
def mX6_tells : MI := (yX6_tells, cX6_tells, 4, ((Option.some Jvm.ClassFile.FieldType.int)), 5, 113)
def mX6_spot : MI := (yX6_spot, cX6_spot, 4, ((Option.some Jvm.ClassFile.FieldType.int)), 3, 66)
def mX6_column : MI := (yX6_column, cX6_column, 3, ((Option.some Jvm.ClassFile.FieldType.int)), 4, 91)
def mX6_line : MI := (yX6_line, cX6_line, 4, ((Option.some Jvm.ClassFile.FieldType.int)), 3, 66)
def mX6_wide : MI := (yX6_wide, cX6_wide, 2, ((Option.some Jvm.ClassFile.FieldType.int)), 6, 131)
def mX6_chunk : MI := (yX6_chunk, cX6_chunk, 5, ((Option.some Jvm.ClassFile.FieldType.int)), 4, 91)
def mX6_marks : MI := (yX6_marks, cX6_marks, 4, ((Option.some Jvm.ClassFile.FieldType.int)), 2, 44)
def mX6_lifts : MI := (yX6_lifts, cX6_lifts, 3, ((Option.some Jvm.ClassFile.FieldType.int)), 2, 44)
def mX6_mark : MI := (yX6_mark, cX6_mark, 2, ((Option.some Jvm.ClassFile.FieldType.int)), 2, 42)
def mX6_next : MI := (yX6_next, cX6_next, 2, ((Option.some Jvm.ClassFile.FieldType.int)), 2, 46)
def mX6_seeks : MI := (yX6_seeks, cX6_seeks, 3, ((Option.some Jvm.ClassFile.FieldType.int)), 2, 41)
def mX6_reads : MI := (yX6_reads, cX6_reads, 1, ((Option.some Jvm.ClassFile.FieldType.int)), 2, 43)
def mX6_keep : MI := (yX6_keep, cX6_keep, 3, ((Option.some Jvm.ClassFile.FieldType.int)), 3, 64)
def mX6_back : MI := (yX6_back, cX6_back, 3, ((Option.some Jvm.ClassFile.FieldType.int)), 4, 90)
def mX6_count : MI := (yX6_count, cX6_count, 2, ((Option.some Jvm.ClassFile.FieldType.int)), 6, 131)
def mX6_digest : MI := (yX6_digest, cX6_digest, 5, ((Option.some Jvm.ClassFile.FieldType.long)), 2, 44)
def mX6_isPlace : MI := (yX6_isPlace, cX6_isPlace, 2, ((Option.some Jvm.ClassFile.FieldType.boolean)), 1, 20)
def mX6_isStretch : MI := (yX6_isStretch, cX6_isStretch, 3, ((Option.some Jvm.ClassFile.FieldType.boolean)), 2, 41)
def mX6_isLine : MI := (yX6_isLine, cX6_isLine, 2, ((Option.some Jvm.ClassFile.FieldType.boolean)), 2, 40)
def mX6_isMeasure : MI := (yX6_isMeasure, cX6_isMeasure, 1, ((Option.some Jvm.ClassFile.FieldType.boolean)), 0, 0)
def mX6_isName : MI := (yX6_isName, cX6_isName, 1, ((Option.some Jvm.ClassFile.FieldType.boolean)), 0, 0)
def mX6_measureInLine : MI := (yX6_measureInLine, cX6_measureInLine, 1, ((Option.some Jvm.ClassFile.FieldType.int)), 0, 0)
def mX6_widestPart : MI := (yX6_widestPart, cX6_widestPart, 6, ((Option.some Jvm.ClassFile.FieldType.int)), 3, 66)
def mX6_beginsLetter : MI := (yX6_beginsLetter, cX6_beginsLetter, 1, ((Option.some Jvm.ClassFile.FieldType.boolean)), 0, 0)
def mX6_cellsOf : MI := (yX6_cellsOf, cX6_cellsOf, 1, ((Option.some Jvm.ClassFile.FieldType.int)), 1, 20)
def mX7_init : MI := (yX7_init, cX7_init, 2, ((Option.none : Option Jvm.ClassFile.FieldType)), 1, 20)
def mX7_in : MI := (yX7_in, cX7_in, 3, ((Option.some Jvm.ClassFile.FieldType.boolean)), 0, 0)
def mX7_isPlace : MI := (yX7_isPlace, cX7_isPlace, 2, ((Option.some Jvm.ClassFile.FieldType.boolean)), 1, 22)
def mX7_byteAt : MI := (yX7_byteAt, cX7_byteAt, 2, ((Option.some Jvm.ClassFile.FieldType.int)), 0, 0)
def mX7_chunkAt : MI := (yX7_chunkAt, cX7_chunkAt, 4, ((Option.some Jvm.ClassFile.FieldType.int)), 0, 0)
def mX7_opens : MI := (yX7_opens, cX7_opens, 4, ((Option.none : Option Jvm.ClassFile.FieldType)), 0, 0)
def mX7_putting : MI := (yX7_putting, cX7_putting, 9, ((Option.none : Option Jvm.ClassFile.FieldType)), 1, 23)
def mX7_goes : MI := (yX7_goes, cX7_goes, 3, ((Option.some Jvm.ClassFile.FieldType.int)), 0, 0)
def mX7_taking : MI := (yX7_taking, cX7_taking, 8, ((Option.none : Option Jvm.ClassFile.FieldType)), 1, 23)
def mX7_edit : MI := (yX7_edit, cX7_edit, 6, ((Option.none : Option Jvm.ClassFile.FieldType)), 2, 51)
def mX7_keeps : MI := (yX7_keeps, cX7_keeps, 2, ((Option.none : Option Jvm.ClassFile.FieldType)), 0, 0)
def mX7_type : MI := (yX7_type, cX7_type, 2, ((Option.some Jvm.ClassFile.FieldType.int)), 1, 22)
def mX7_clear : MI := (yX7_clear, cX7_clear, 2, ((Option.some Jvm.ClassFile.FieldType.int)), 0, 0)
def mX7_isEdit : MI := (yX7_isEdit, cX7_isEdit, 3, ((Option.some Jvm.ClassFile.FieldType.boolean)), 2, 43)
def mX7_edits : MI := (yX7_edits, cX7_edits, 3, ((Option.some Jvm.ClassFile.FieldType.int)), 3, 76)
def mX7_stages : MI := (yX7_stages, cX7_stages, 4, ((Option.some Jvm.ClassFile.FieldType.int)), 3, 65)
def mX7_does : MI := (yX7_does, cX7_does, 6, ((Option.some Jvm.ClassFile.FieldType.int)), 3, 76)
def mX7_drops : MI := (yX7_drops, cX7_drops, 2, ((Option.some Jvm.ClassFile.FieldType.int)), 0, 0)
def mX7_undo : MI := (yX7_undo, cX7_undo, 2, ((Option.some Jvm.ClassFile.FieldType.int)), 0, 0)
def mX7_isLetter : MI := (yX7_isLetter, cX7_isLetter, 1, ((Option.some Jvm.ClassFile.FieldType.boolean)), 1, 22)
def mX7_has : MI := (yX7_has, cX7_has, 2, ((Option.some Jvm.ClassFile.FieldType.int)), 2, 42)
def mX7_measure : MI := (yX7_measure, cX7_measure, 6, ((Option.some Jvm.ClassFile.FieldType.int)), 3, 63)
def mX7_at : MI := (yX7_at, cX7_at, 2, ((Option.some Jvm.ClassFile.FieldType.int)), 1, 22)
def mX7_lineAt : MI := (yX7_lineAt, cX7_lineAt, 4, ((Option.some Jvm.ClassFile.FieldType.int)), 3, 63)
def mX7_beyond : MI := (yX7_beyond, cX7_beyond, 7, ((Option.some Jvm.ClassFile.FieldType.int)), 3, 63)
def mX7_tells : MI := (yX7_tells, cX7_tells, 5, ((Option.some Jvm.ClassFile.FieldType.int)), 4, 89)
def mX7_spot : MI := (yX7_spot, cX7_spot, 4, ((Option.some Jvm.ClassFile.FieldType.int)), 4, 88)
def mX7_lines : MI := (yX7_lines, cX7_lines, 1, ((Option.some Jvm.ClassFile.FieldType.int)), 4, 88)
def mX7_isLine : MI := (yX7_isLine, cX7_isLine, 2, ((Option.some Jvm.ClassFile.FieldType.boolean)), 5, 108)
def mX7_endOf : MI := (yX7_endOf, cX7_endOf, 2, ((Option.some Jvm.ClassFile.FieldType.int)), 4, 86)
def mX7_column : MI := (yX7_column, cX7_column, 3, ((Option.some Jvm.ClassFile.FieldType.int)), 6, 129)
def mX7_line : MI := (yX7_line, cX7_line, 4, ((Option.some Jvm.ClassFile.FieldType.int)), 6, 129)
def mX7_cellsOf : MI := (yX7_cellsOf, cX7_cellsOf, 2, ((Option.some Jvm.ClassFile.FieldType.int)), 5, 107)
def mX7_wide : MI := (yX7_wide, cX7_wide, 9, ((Option.some Jvm.ClassFile.FieldType.int)), 6, 128)
def mX7_chunk : MI := (yX7_chunk, cX7_chunk, 8, ((Option.some Jvm.ClassFile.FieldType.int)), 4, 88)
def mX7_isName : MI := (yX7_isName, cX7_isName, 1, ((Option.some Jvm.ClassFile.FieldType.boolean)), 1, 22)
def mX7_marksOf : MI := (yX7_marksOf, cX7_marksOf, 3, ((Option.some Jvm.ClassFile.FieldType.int)), 0, 0)
def mX7_told : MI := (yX7_told, cX7_told, 1, ((Option.some Jvm.ClassFile.FieldType.int)), 0, 0)
def mX7_marks : MI := (yX7_marks, cX7_marks, 4, ((Option.some Jvm.ClassFile.FieldType.int)), 2, 43)
def mX7_lifts : MI := (yX7_lifts, cX7_lifts, 3, ((Option.some Jvm.ClassFile.FieldType.int)), 2, 42)
def mX7_mark : MI := (yX7_mark, cX7_mark, 2, ((Option.some Jvm.ClassFile.FieldType.int)), 2, 42)
def mX7_next : MI := (yX7_next, cX7_next, 6, ((Option.some Jvm.ClassFile.FieldType.int)), 2, 43)
def mX7_seeks : MI := (yX7_seeks, cX7_seeks, 3, ((Option.some Jvm.ClassFile.FieldType.int)), 2, 43)
def mX7_reads : MI := (yX7_reads, cX7_reads, 3, ((Option.some Jvm.ClassFile.FieldType.int)), 2, 42)
def mX7_keep : MI := (yX7_keep, cX7_keep, 3, ((Option.some Jvm.ClassFile.FieldType.int)), 1, 22)
def mX7_back : MI := (yX7_back, cX7_back, 3, ((Option.some Jvm.ClassFile.FieldType.int)), 1, 22)
def mX7_count : MI := (yX7_count, cX7_count, 4, ((Option.some Jvm.ClassFile.FieldType.int)), 6, 128)
def mX7_digest : MI := (yX7_digest, cX7_digest, 4, ((Option.some Jvm.ClassFile.FieldType.long)), 1, 21)
def mJ9_max_7cf53 : MI := (yJ9_max_7cf53, cJ9_max_7cf53, 2, ((Option.some Jvm.ClassFile.FieldType.int)), 0, 0)
def mJ9_min_7cf53 : MI := (yJ9_min_7cf53, cJ9_min_7cf53, 2, ((Option.some Jvm.ClassFile.FieldType.int)), 0, 0)
theorem wcX0_init : Cond.code mX0_init.1 mX0_init.2.1 mX0_init.2.2.1 mX0_init.2.2.2.1 ∈ gt := gt_of 153 (by decide +kernel) rfl
theorem wiX0_init : Cond.instanceMethod yX0_init ∈ gt := gt_of 152 (by decide +kernel) rfl
theorem wcX0_takesOver : Cond.code mX0_takesOver.1 mX0_takesOver.2.1 mX0_takesOver.2.2.1 mX0_takesOver.2.2.2.1 ∈ gt := gt_of 365 (by decide +kernel) rfl
theorem wiX0_takesOver : Cond.instanceMethod yX0_takesOver ∈ gt := gt_of 363 (by decide +kernel) rfl
theorem wvX0_takesOver : Cond.selects yX0_takesOver.cls yX0_takesOver yX0_takesOver ∈ gt := gt_of 364 (by decide +kernel) rfl
theorem wcX0_beginsBehind : Cond.code mX0_beginsBehind.1 mX0_beginsBehind.2.1 mX0_beginsBehind.2.2.1 mX0_beginsBehind.2.2.2.1 ∈ gt := gt_of 374 (by decide +kernel) rfl
theorem wiX0_beginsBehind : Cond.instanceMethod yX0_beginsBehind ∈ gt := gt_of 372 (by decide +kernel) rfl
theorem wvX0_beginsBehind : Cond.selects yX0_beginsBehind.cls yX0_beginsBehind yX0_beginsBehind ∈ gt := gt_of 373 (by decide +kernel) rfl
theorem wcX0_meets : Cond.code mX0_meets.1 mX0_meets.2.1 mX0_meets.2.2.1 mX0_meets.2.2.2.1 ∈ gt := gt_of 357 (by decide +kernel) rfl
theorem wiX0_meets : Cond.instanceMethod yX0_meets ∈ gt := gt_of 355 (by decide +kernel) rfl
theorem wvX0_meets : Cond.selects yX0_meets.cls yX0_meets yX0_meets ∈ gt := gt_of 356 (by decide +kernel) rfl
theorem wcX0_bytesMore : Cond.code mX0_bytesMore.1 mX0_bytesMore.2.1 mX0_bytesMore.2.2.1 mX0_bytesMore.2.2.2.1 ∈ gt := gt_of 386 (by decide +kernel) rfl
theorem wiX0_bytesMore : Cond.instanceMethod yX0_bytesMore ∈ gt := gt_of 384 (by decide +kernel) rfl
theorem wvX0_bytesMore : Cond.selects yX0_bytesMore.cls yX0_bytesMore yX0_bytesMore ∈ gt := gt_of 385 (by decide +kernel) rfl
theorem wcX1_init : Cond.code mX1_init.1 mX1_init.2.1 mX1_init.2.2.1 mX1_init.2.2.2.1 ∈ gt := gt_of 181 (by decide +kernel) rfl
theorem wiX1_init : Cond.instanceMethod yX1_init ∈ gt := gt_of 180 (by decide +kernel) rfl
theorem wcX1_size : Cond.code mX1_size.1 mX1_size.2.1 mX1_size.2.2.1 mX1_size.2.2.2.1 ∈ gt := gt_of 408 (by decide +kernel) rfl
theorem wiX1_size : Cond.instanceMethod yX1_size ∈ gt := gt_of 406 (by decide +kernel) rfl
theorem wvX1_size : Cond.selects yX1_size.cls yX1_size yX1_size ∈ gt := gt_of 407 (by decide +kernel) rfl
theorem wcX1_forgets : Cond.code mX1_forgets.1 mX1_forgets.2.1 mX1_forgets.2.2.1 mX1_forgets.2.2.2.1 ∈ gt := gt_of 580 (by decide +kernel) rfl
theorem wiX1_forgets : Cond.instanceMethod yX1_forgets ∈ gt := gt_of 578 (by decide +kernel) rfl
theorem wvX1_forgets : Cond.selects yX1_forgets.cls yX1_forgets yX1_forgets ∈ gt := gt_of 579 (by decide +kernel) rfl
theorem wcX1_latestPage : Cond.code mX1_latestPage.1 mX1_latestPage.2.1 mX1_latestPage.2.2.1 mX1_latestPage.2.2.2.1 ∈ gt := gt_of 255 (by decide +kernel) rfl
theorem wiX1_latestPage : Cond.instanceMethod yX1_latestPage ∈ gt := gt_of 254 (by decide +kernel) rfl
theorem wvX1_latestPage : Cond.selects yX1_latestPage.cls yX1_latestPage yX1_latestPage ∈ gt := gt_of 4 (by decide +kernel) rfl
theorem wcX1_remembers : Cond.code mX1_remembers.1 mX1_remembers.2.1 mX1_remembers.2.2.1 mX1_remembers.2.2.2.1 ∈ gt := gt_of 248 (by decide +kernel) rfl
theorem wiX1_remembers : Cond.instanceMethod yX1_remembers ∈ gt := gt_of 246 (by decide +kernel) rfl
theorem wvX1_remembers : Cond.selects yX1_remembers.cls yX1_remembers yX1_remembers ∈ gt := gt_of 247 (by decide +kernel) rfl
theorem wcX1_restores : Cond.code mX1_restores.1 mX1_restores.2.1 mX1_restores.2.2.1 mX1_restores.2.2.2.1 ∈ gt := gt_of 412 (by decide +kernel) rfl
theorem wiX1_restores : Cond.instanceMethod yX1_restores ∈ gt := gt_of 410 (by decide +kernel) rfl
theorem wvX1_restores : Cond.selects yX1_restores.cls yX1_restores yX1_restores ∈ gt := gt_of 411 (by decide +kernel) rfl
theorem wcX2_init : Cond.code mX2_init.1 mX2_init.2.1 mX2_init.2.2.1 mX2_init.2.2.2.1 ∈ gt := gt_of 58 (by decide +kernel) rfl
theorem wiX2_init : Cond.instanceMethod yX2_init ∈ gt := gt_of 57 (by decide +kernel) rfl
theorem wcX2_becomes : Cond.code mX2_becomes.1 mX2_becomes.2.1 mX2_becomes.2.2.1 mX2_becomes.2.2.2.1 ∈ gt := gt_of 259 (by decide +kernel) rfl
theorem wiX2_becomes : Cond.instanceMethod yX2_becomes ∈ gt := gt_of 257 (by decide +kernel) rfl
theorem wvX2_becomes : Cond.selects yX2_becomes.cls yX2_becomes yX2_becomes ∈ gt := gt_of 258 (by decide +kernel) rfl
theorem wcX2_replaces : Cond.code mX2_replaces.1 mX2_replaces.2.1 mX2_replaces.2.2.1 mX2_replaces.2.2.2.1 ∈ gt := gt_of 273 (by decide +kernel) rfl
theorem wiX2_replaces : Cond.instanceMethod yX2_replaces ∈ gt := gt_of 271 (by decide +kernel) rfl
theorem wvX2_replaces : Cond.selects yX2_replaces.cls yX2_replaces yX2_replaces ∈ gt := gt_of 272 (by decide +kernel) rfl
theorem wcX2_takesOut : Cond.code mX2_takesOut.1 mX2_takesOut.2.1 mX2_takesOut.2.2.1 mX2_takesOut.2.2.2.1 ∈ gt := gt_of 277 (by decide +kernel) rfl
theorem wiX2_takesOut : Cond.instanceMethod yX2_takesOut ∈ gt := gt_of 276 (by decide +kernel) rfl
theorem wvX2_takesOut : Cond.selects yX2_takesOut.cls yX2_takesOut yX2_takesOut ∈ gt := gt_of 5 (by decide +kernel) rfl
theorem wcX2_putsIn : Cond.code mX2_putsIn.1 mX2_putsIn.2.1 mX2_putsIn.2.2.1 mX2_putsIn.2.2.2.1 ∈ gt := gt_of 313 (by decide +kernel) rfl
theorem wiX2_putsIn : Cond.instanceMethod yX2_putsIn ∈ gt := gt_of 312 (by decide +kernel) rfl
theorem wvX2_putsIn : Cond.selects yX2_putsIn.cls yX2_putsIn yX2_putsIn ∈ gt := gt_of 9 (by decide +kernel) rfl
theorem wcX2_placeAfterTaking : Cond.code mX2_placeAfterTaking.1 mX2_placeAfterTaking.2.1 mX2_placeAfterTaking.2.2.1 mX2_placeAfterTaking.2.2.2.1 ∈ gt := gt_of 309 (by decide +kernel) rfl
theorem wtX2_placeAfterTaking : Cond.static yX2_placeAfterTaking ∈ gt := gt_of 308 (by decide +kernel) rfl
theorem wcX2_placeAfterPutting : Cond.code mX2_placeAfterPutting.1 mX2_placeAfterPutting.2.1 mX2_placeAfterPutting.2.2.1 mX2_placeAfterPutting.2.2.2.1 ∈ gt := gt_of 328 (by decide +kernel) rfl
theorem wtX2_placeAfterPutting : Cond.static yX2_placeAfterPutting ∈ gt := gt_of 327 (by decide +kernel) rfl
theorem wcX2_shrinksChunks : Cond.code mX2_shrinksChunks.1 mX2_shrinksChunks.2.1 mX2_shrinksChunks.2.2.1 mX2_shrinksChunks.2.2.2.1 ∈ gt := gt_of 289 (by decide +kernel) rfl
theorem wiX2_shrinksChunks : Cond.instanceMethod yX2_shrinksChunks ∈ gt := gt_of 288 (by decide +kernel) rfl
theorem wvX2_shrinksChunks : Cond.selects yX2_shrinksChunks.cls yX2_shrinksChunks yX2_shrinksChunks ∈ gt := gt_of 6 (by decide +kernel) rfl
theorem wcX2_joinsChunks : Cond.code mX2_joinsChunks.1 mX2_joinsChunks.2.1 mX2_joinsChunks.2.2.1 mX2_joinsChunks.2.2.2.1 ∈ gt := gt_of 302 (by decide +kernel) rfl
theorem wiX2_joinsChunks : Cond.instanceMethod yX2_joinsChunks ∈ gt := gt_of 301 (by decide +kernel) rfl
theorem wvX2_joinsChunks : Cond.selects yX2_joinsChunks.cls yX2_joinsChunks yX2_joinsChunks ∈ gt := gt_of 7 (by decide +kernel) rfl
theorem wcX2_growsChunk : Cond.code mX2_growsChunk.1 mX2_growsChunk.2.1 mX2_growsChunk.2.2.1 mX2_growsChunk.2.2.2.1 ∈ gt := gt_of 321 (by decide +kernel) rfl
theorem wiX2_growsChunk : Cond.instanceMethod yX2_growsChunk ∈ gt := gt_of 320 (by decide +kernel) rfl
theorem wvX2_growsChunk : Cond.selects yX2_growsChunk.cls yX2_growsChunk yX2_growsChunk ∈ gt := gt_of 10 (by decide +kernel) rfl
theorem wcX2_splitsChunk : Cond.code mX2_splitsChunk.1 mX2_splitsChunk.2.1 mX2_splitsChunk.2.2.1 mX2_splitsChunk.2.2.2.1 ∈ gt := gt_of 325 (by decide +kernel) rfl
theorem wiX2_splitsChunk : Cond.instanceMethod yX2_splitsChunk ∈ gt := gt_of 324 (by decide +kernel) rfl
theorem wvX2_splitsChunk : Cond.selects yX2_splitsChunk.cls yX2_splitsChunk yX2_splitsChunk ∈ gt := gt_of 11 (by decide +kernel) rfl
theorem wcX2_chunkOfByteAhead : Cond.code mX2_chunkOfByteAhead.1 mX2_chunkOfByteAhead.2.1 mX2_chunkOfByteAhead.2.2.1 mX2_chunkOfByteAhead.2.2.2.1 ∈ gt := gt_of 306 (by decide +kernel) rfl
theorem wiX2_chunkOfByteAhead : Cond.instanceMethod yX2_chunkOfByteAhead ∈ gt := gt_of 305 (by decide +kernel) rfl
theorem wvX2_chunkOfByteAhead : Cond.selects yX2_chunkOfByteAhead.cls yX2_chunkOfByteAhead yX2_chunkOfByteAhead ∈ gt := gt_of 8 (by decide +kernel) rfl
theorem wcX2_chunkBegin : Cond.code mX2_chunkBegin.1 mX2_chunkBegin.2.1 mX2_chunkBegin.2.2.1 mX2_chunkBegin.2.2.2.1 ∈ gt := gt_of 514 (by decide +kernel) rfl
theorem wiX2_chunkBegin : Cond.instanceMethod yX2_chunkBegin ∈ gt := gt_of 512 (by decide +kernel) rfl
theorem wvX2_chunkBegin : Cond.selects yX2_chunkBegin.cls yX2_chunkBegin yX2_chunkBegin ∈ gt := gt_of 513 (by decide +kernel) rfl
theorem wcX2_markPlace : Cond.code mX2_markPlace.1 mX2_markPlace.2.1 mX2_markPlace.2.2.1 mX2_markPlace.2.2.2.1 ∈ gt := gt_of 530 (by decide +kernel) rfl
theorem wiX2_markPlace : Cond.instanceMethod yX2_markPlace ∈ gt := gt_of 528 (by decide +kernel) rfl
theorem wvX2_markPlace : Cond.selects yX2_markPlace.cls yX2_markPlace yX2_markPlace ∈ gt := gt_of 529 (by decide +kernel) rfl
theorem wcX2_putMark : Cond.code mX2_putMark.1 mX2_putMark.2.1 mX2_putMark.2.2.1 mX2_putMark.2.2.2.1 ∈ gt := gt_of 538 (by decide +kernel) rfl
theorem wiX2_putMark : Cond.instanceMethod yX2_putMark ∈ gt := gt_of 536 (by decide +kernel) rfl
theorem wvX2_putMark : Cond.selects yX2_putMark.cls yX2_putMark yX2_putMark ∈ gt := gt_of 537 (by decide +kernel) rfl
theorem wcX2_marksSet : Cond.code mX2_marksSet.1 mX2_marksSet.2.1 mX2_marksSet.2.2.1 mX2_marksSet.2.2.2.1 ∈ gt := gt_of 534 (by decide +kernel) rfl
theorem wiX2_marksSet : Cond.instanceMethod yX2_marksSet ∈ gt := gt_of 532 (by decide +kernel) rfl
theorem wvX2_marksSet : Cond.selects yX2_marksSet.cls yX2_marksSet yX2_marksSet ∈ gt := gt_of 533 (by decide +kernel) rfl
theorem wcX2_markFrom : Cond.code mX2_markFrom.1 mX2_markFrom.2.1 mX2_markFrom.2.2.1 mX2_markFrom.2.2.2.1 ∈ gt := gt_of 554 (by decide +kernel) rfl
theorem wiX2_markFrom : Cond.instanceMethod yX2_markFrom ∈ gt := gt_of 552 (by decide +kernel) rfl
theorem wvX2_markFrom : Cond.selects yX2_markFrom.cls yX2_markFrom yX2_markFrom ∈ gt := gt_of 553 (by decide +kernel) rfl
theorem wcX2_readsLetter : Cond.code mX2_readsLetter.1 mX2_readsLetter.2.1 mX2_readsLetter.2.2.1 mX2_readsLetter.2.2.2.1 ∈ gt := gt_of 566 (by decide +kernel) rfl
theorem wiX2_readsLetter : Cond.instanceMethod yX2_readsLetter ∈ gt := gt_of 564 (by decide +kernel) rfl
theorem wvX2_readsLetter : Cond.selects yX2_readsLetter.cls yX2_readsLetter yX2_readsLetter ∈ gt := gt_of 565 (by decide +kernel) rfl
theorem wcX3_init : Cond.code mX3_init.1 mX3_init.2.1 mX3_init.2.2.1 mX3_init.2.2.2.1 ∈ gt := gt_of 64 (by decide +kernel) rfl
theorem wiX3_init : Cond.instanceMethod yX3_init ∈ gt := gt_of 63 (by decide +kernel) rfl
theorem wcX3_size : Cond.code mX3_size.1 mX3_size.2.1 mX3_size.2.2.1 mX3_size.2.2.2.1 ∈ gt := gt_of 222 (by decide +kernel) rfl
theorem wiX3_size : Cond.instanceMethod yX3_size ∈ gt := gt_of 220 (by decide +kernel) rfl
theorem wvX3_size : Cond.selects yX3_size.cls yX3_size yX3_size ∈ gt := gt_of 221 (by decide +kernel) rfl
theorem wcX3_get : Cond.code mX3_get.1 mX3_get.2.1 mX3_get.2.2.1 mX3_get.2.2.2.1 ∈ gt := gt_of 268 (by decide +kernel) rfl
theorem wiX3_get : Cond.instanceMethod yX3_get ∈ gt := gt_of 266 (by decide +kernel) rfl
theorem wvX3_get : Cond.selects yX3_get.cls yX3_get yX3_get ∈ gt := gt_of 267 (by decide +kernel) rfl
theorem wcX3_set : Cond.code mX3_set.1 mX3_set.2.1 mX3_set.2.2.1 mX3_set.2.2.2.1 ∈ gt := gt_of 285 (by decide +kernel) rfl
theorem wiX3_set : Cond.instanceMethod yX3_set ∈ gt := gt_of 283 (by decide +kernel) rfl
theorem wvX3_set : Cond.selects yX3_set.cls yX3_set yX3_set ∈ gt := gt_of 284 (by decide +kernel) rfl
theorem wcX3_add : Cond.code mX3_add.1 mX3_add.2.1 mX3_add.2.2.1 mX3_add.2.2.2.1 ∈ gt := gt_of 80 (by decide +kernel) rfl
theorem wiX3_add : Cond.instanceMethod yX3_add ∈ gt := gt_of 78 (by decide +kernel) rfl
theorem wvX3_add : Cond.selects yX3_add.cls yX3_add yX3_add ∈ gt := gt_of 79 (by decide +kernel) rfl
theorem wcX3_empties : Cond.code mX3_empties.1 mX3_empties.2.1 mX3_empties.2.2.1 mX3_empties.2.2.2.1 ∈ gt := gt_of 112 (by decide +kernel) rfl
theorem wiX3_empties : Cond.instanceMethod yX3_empties ∈ gt := gt_of 110 (by decide +kernel) rfl
theorem wvX3_empties : Cond.selects yX3_empties.cls yX3_empties yX3_empties ∈ gt := gt_of 111 (by decide +kernel) rfl
theorem wcX3_shortensTo : Cond.code mX3_shortensTo.1 mX3_shortensTo.2.1 mX3_shortensTo.2.2.1 mX3_shortensTo.2.2.2.1 ∈ gt := gt_of 298 (by decide +kernel) rfl
theorem wiX3_shortensTo : Cond.instanceMethod yX3_shortensTo ∈ gt := gt_of 296 (by decide +kernel) rfl
theorem wvX3_shortensTo : Cond.selects yX3_shortensTo.cls yX3_shortensTo yX3_shortensTo ∈ gt := gt_of 297 (by decide +kernel) rfl
theorem wcX3_copies : Cond.code mX3_copies.1 mX3_copies.2.1 mX3_copies.2.2.1 mX3_copies.2.2.2.1 ∈ gt := gt_of 263 (by decide +kernel) rfl
theorem wiX3_copies : Cond.instanceMethod yX3_copies ∈ gt := gt_of 261 (by decide +kernel) rfl
theorem wvX3_copies : Cond.selects yX3_copies.cls yX3_copies yX3_copies ∈ gt := gt_of 262 (by decide +kernel) rfl
theorem wcX3_opens : Cond.code mX3_opens.1 mX3_opens.2.1 mX3_opens.2.2.1 mX3_opens.2.2.2.1 ∈ gt := gt_of 317 (by decide +kernel) rfl
theorem wiX3_opens : Cond.instanceMethod yX3_opens ∈ gt := gt_of 315 (by decide +kernel) rfl
theorem wvX3_opens : Cond.selects yX3_opens.cls yX3_opens yX3_opens ∈ gt := gt_of 316 (by decide +kernel) rfl
theorem wcX3_closes : Cond.code mX3_closes.1 mX3_closes.2.1 mX3_closes.2.2.1 mX3_closes.2.2.2.1 ∈ gt := gt_of 281 (by decide +kernel) rfl
theorem wiX3_closes : Cond.instanceMethod yX3_closes ∈ gt := gt_of 279 (by decide +kernel) rfl
theorem wvX3_closes : Cond.selects yX3_closes.cls yX3_closes yX3_closes ∈ gt := gt_of 280 (by decide +kernel) rfl
theorem wcX3_mixedInto : Cond.code mX3_mixedInto.1 mX3_mixedInto.2.1 mX3_mixedInto.2.2.1 mX3_mixedInto.2.2.2.1 ∈ gt := gt_of 594 (by decide +kernel) rfl
theorem wiX3_mixedInto : Cond.instanceMethod yX3_mixedInto ∈ gt := gt_of 592 (by decide +kernel) rfl
theorem wvX3_mixedInto : Cond.selects yX3_mixedInto.cls yX3_mixedInto yX3_mixedInto ∈ gt := gt_of 593 (by decide +kernel) rfl
theorem wcX4_init : Cond.code mX4_init.1 mX4_init.2.1 mX4_init.2.2.1 mX4_init.2.2.2.1 ∈ gt := gt_of 146 (by decide +kernel) rfl
theorem wiX4_init : Cond.instanceMethod yX4_init ∈ gt := gt_of 145 (by decide +kernel) rfl
theorem wcX4_size : Cond.code mX4_size.1 mX4_size.2.1 mX4_size.2.2.1 mX4_size.2.2.2.1 ∈ gt := gt_of 244 (by decide +kernel) rfl
theorem wiX4_size : Cond.instanceMethod yX4_size ∈ gt := gt_of 242 (by decide +kernel) rfl
theorem wvX4_size : Cond.selects yX4_size.cls yX4_size yX4_size ∈ gt := gt_of 243 (by decide +kernel) rfl
theorem wcX4_empties : Cond.code mX4_empties.1 mX4_empties.2.1 mX4_empties.2.2.1 mX4_empties.2.2.2.1 ∈ gt := gt_of 396 (by decide +kernel) rfl
theorem wiX4_empties : Cond.instanceMethod yX4_empties ∈ gt := gt_of 394 (by decide +kernel) rfl
theorem wvX4_empties : Cond.selects yX4_empties.cls yX4_empties yX4_empties ∈ gt := gt_of 395 (by decide +kernel) rfl
theorem wcX4_slot : Cond.code mX4_slot.1 mX4_slot.2.1 mX4_slot.2.2.1 mX4_slot.2.2.2.1 ∈ gt := gt_of 353 (by decide +kernel) rfl
theorem wiX4_slot : Cond.instanceMethod yX4_slot ∈ gt := gt_of 352 (by decide +kernel) rfl
theorem wvX4_slot : Cond.selects yX4_slot.cls yX4_slot yX4_slot ∈ gt := gt_of 12 (by decide +kernel) rfl
theorem wcX4_touches : Cond.code mX4_touches.1 mX4_touches.2.1 mX4_touches.2.2.1 mX4_touches.2.2.2.1 ∈ gt := gt_of 349 (by decide +kernel) rfl
theorem wiX4_touches : Cond.instanceMethod yX4_touches ∈ gt := gt_of 347 (by decide +kernel) rfl
theorem wvX4_touches : Cond.selects yX4_touches.cls yX4_touches yX4_touches ∈ gt := gt_of 348 (by decide +kernel) rfl
theorem wcX4_growth : Cond.code mX4_growth.1 mX4_growth.2.1 mX4_growth.2.2.1 mX4_growth.2.2.2.1 ∈ gt := gt_of 382 (by decide +kernel) rfl
theorem wiX4_growth : Cond.instanceMethod yX4_growth ∈ gt := gt_of 380 (by decide +kernel) rfl
theorem wvX4_growth : Cond.selects yX4_growth.cls yX4_growth yX4_growth ∈ gt := gt_of 381 (by decide +kernel) rfl
theorem wcX4_adds : Cond.code mX4_adds.1 mX4_adds.2.1 mX4_adds.2.2.1 mX4_adds.2.2.2.1 ∈ gt := gt_of 361 (by decide +kernel) rfl
theorem wiX4_adds : Cond.instanceMethod yX4_adds ∈ gt := gt_of 359 (by decide +kernel) rfl
theorem wvX4_adds : Cond.selects yX4_adds.cls yX4_adds yX4_adds ∈ gt := gt_of 360 (by decide +kernel) rfl
theorem wcX4_isBehind : Cond.code mX4_isBehind.1 mX4_isBehind.2.1 mX4_isBehind.2.2.1 mX4_isBehind.2.2.2.1 ∈ gt := gt_of 370 (by decide +kernel) rfl
theorem wiX4_isBehind : Cond.instanceMethod yX4_isBehind ∈ gt := gt_of 369 (by decide +kernel) rfl
theorem wvX4_isBehind : Cond.selects yX4_isBehind.cls yX4_isBehind yX4_isBehind ∈ gt := gt_of 13 (by decide +kernel) rfl
theorem wcX4_changesAll : Cond.code mX4_changesAll.1 mX4_changesAll.2.1 mX4_changesAll.2.2.1 mX4_changesAll.2.2.2.1 ∈ gt := gt_of 391 (by decide +kernel) rfl
theorem wiX4_changesAll : Cond.instanceMethod yX4_changesAll ∈ gt := gt_of 389 (by decide +kernel) rfl
theorem wvX4_changesAll : Cond.selects yX4_changesAll.cls yX4_changesAll yX4_changesAll ∈ gt := gt_of 390 (by decide +kernel) rfl
theorem wcX5_init : Cond.code mX5_init.1 mX5_init.2.1 mX5_init.2.2.1 mX5_init.2.2.2.1 ∈ gt := gt_of 101 (by decide +kernel) rfl
theorem wiX5_init : Cond.instanceMethod yX5_init ∈ gt := gt_of 100 (by decide +kernel) rfl
theorem wcX5_startsOver : Cond.code mX5_startsOver.1 mX5_startsOver.2.1 mX5_startsOver.2.2.1 mX5_startsOver.2.2.2.1 ∈ gt := gt_of 108 (by decide +kernel) rfl
theorem wiX5_startsOver : Cond.instanceMethod yX5_startsOver ∈ gt := gt_of 107 (by decide +kernel) rfl
theorem wvX5_startsOver : Cond.selects yX5_startsOver.cls yX5_startsOver yX5_startsOver ∈ gt := gt_of 0 (by decide +kernel) rfl
theorem wcX5_addsPlace : Cond.code mX5_addsPlace.1 mX5_addsPlace.2.1 mX5_addsPlace.2.2.1 mX5_addsPlace.2.2.2.1 ∈ gt := gt_of 116 (by decide +kernel) rfl
theorem wiX5_addsPlace : Cond.instanceMethod yX5_addsPlace ∈ gt := gt_of 115 (by decide +kernel) rfl
theorem wvX5_addsPlace : Cond.selects yX5_addsPlace.cls yX5_addsPlace yX5_addsPlace ∈ gt := gt_of 1 (by decide +kernel) rfl
theorem wcX5_measures : Cond.code mX5_measures.1 mX5_measures.2.1 mX5_measures.2.2.1 mX5_measures.2.2.2.1 ∈ gt := gt_of 332 (by decide +kernel) rfl
theorem wiX5_measures : Cond.instanceMethod yX5_measures ∈ gt := gt_of 330 (by decide +kernel) rfl
theorem wvX5_measures : Cond.selects yX5_measures.cls yX5_measures yX5_measures ∈ gt := gt_of 331 (by decide +kernel) rfl
theorem wcX5_rowOf : Cond.code mX5_rowOf.1 mX5_rowOf.2.1 mX5_rowOf.2.2.1 mX5_rowOf.2.2.2.1 ∈ gt := gt_of 440 (by decide +kernel) rfl
theorem wiX5_rowOf : Cond.instanceMethod yX5_rowOf ∈ gt := gt_of 439 (by decide +kernel) rfl
theorem wvX5_rowOf : Cond.selects yX5_rowOf.cls yX5_rowOf yX5_rowOf ∈ gt := gt_of 15 (by decide +kernel) rfl
theorem wcX5_ahead : Cond.code mX5_ahead.1 mX5_ahead.2.1 mX5_ahead.2.2.1 mX5_ahead.2.2.2.1 ∈ gt := gt_of 436 (by decide +kernel) rfl
theorem wiX5_ahead : Cond.instanceMethod yX5_ahead ∈ gt := gt_of 434 (by decide +kernel) rfl
theorem wvX5_ahead : Cond.selects yX5_ahead.cls yX5_ahead yX5_ahead ∈ gt := gt_of 435 (by decide +kernel) rfl
theorem wcX5_between : Cond.code mX5_between.1 mX5_between.2.1 mX5_between.2.2.1 mX5_between.2.2.2.1 ∈ gt := gt_of 456 (by decide +kernel) rfl
theorem wiX5_between : Cond.instanceMethod yX5_between ∈ gt := gt_of 454 (by decide +kernel) rfl
theorem wvX5_between : Cond.selects yX5_between.cls yX5_between yX5_between ∈ gt := gt_of 455 (by decide +kernel) rfl
theorem wcX5_lastPlace : Cond.code mX5_lastPlace.1 mX5_lastPlace.2.1 mX5_lastPlace.2.2.1 mX5_lastPlace.2.2.2.1 ∈ gt := gt_of 432 (by decide +kernel) rfl
theorem wiX5_lastPlace : Cond.instanceMethod yX5_lastPlace ∈ gt := gt_of 431 (by decide +kernel) rfl
theorem wvX5_lastPlace : Cond.selects yX5_lastPlace.cls yX5_lastPlace yX5_lastPlace ∈ gt := gt_of 14 (by decide +kernel) rfl
theorem wcX5_total : Cond.code mX5_total.1 mX5_total.2.1 mX5_total.2.2.1 mX5_total.2.2.2.1 ∈ gt := gt_of 428 (by decide +kernel) rfl
theorem wiX5_total : Cond.instanceMethod yX5_total ∈ gt := gt_of 426 (by decide +kernel) rfl
theorem wvX5_total : Cond.selects yX5_total.cls yX5_total yX5_total ∈ gt := gt_of 427 (by decide +kernel) rfl
theorem wcX5_placeBy : Cond.code mX5_placeBy.1 mX5_placeBy.2.1 mX5_placeBy.2.2.1 mX5_placeBy.2.2.2.1 ∈ gt := gt_of 444 (by decide +kernel) rfl
theorem wiX5_placeBy : Cond.instanceMethod yX5_placeBy ∈ gt := gt_of 442 (by decide +kernel) rfl
theorem wvX5_placeBy : Cond.selects yX5_placeBy.cls yX5_placeBy yX5_placeBy ∈ gt := gt_of 443 (by decide +kernel) rfl
theorem wcX5_farthest : Cond.code mX5_farthest.1 mX5_farthest.2.1 mX5_farthest.2.2.1 mX5_farthest.2.2.2.1 ∈ gt := gt_of 452 (by decide +kernel) rfl
theorem wiX5_farthest : Cond.instanceMethod yX5_farthest ∈ gt := gt_of 450 (by decide +kernel) rfl
theorem wvX5_farthest : Cond.selects yX5_farthest.cls yX5_farthest yX5_farthest ∈ gt := gt_of 451 (by decide +kernel) rfl
theorem wcX5_lines : Cond.code mX5_lines.1 mX5_lines.2.1 mX5_lines.2.2.1 mX5_lines.2.2.2.1 ∈ gt := gt_of 478 (by decide +kernel) rfl
theorem wiX5_lines : Cond.instanceMethod yX5_lines ∈ gt := gt_of 476 (by decide +kernel) rfl
theorem wvX5_lines : Cond.selects yX5_lines.cls yX5_lines yX5_lines ∈ gt := gt_of 477 (by decide +kernel) rfl
theorem wcX5_lineBegin : Cond.code mX5_lineBegin.1 mX5_lineBegin.2.1 mX5_lineBegin.2.2.1 mX5_lineBegin.2.2.2.1 ∈ gt := gt_of 448 (by decide +kernel) rfl
theorem wiX5_lineBegin : Cond.instanceMethod yX5_lineBegin ∈ gt := gt_of 446 (by decide +kernel) rfl
theorem wvX5_lineBegin : Cond.selects yX5_lineBegin.cls yX5_lineBegin yX5_lineBegin ∈ gt := gt_of 447 (by decide +kernel) rfl
theorem wcX5_lineEnd : Cond.code mX5_lineEnd.1 mX5_lineEnd.2.1 mX5_lineEnd.2.2.1 mX5_lineEnd.2.2.2.1 ∈ gt := gt_of 482 (by decide +kernel) rfl
theorem wiX5_lineEnd : Cond.instanceMethod yX5_lineEnd ∈ gt := gt_of 480 (by decide +kernel) rfl
theorem wvX5_lineEnd : Cond.selects yX5_lineEnd.cls yX5_lineEnd yX5_lineEnd ∈ gt := gt_of 481 (by decide +kernel) rfl
theorem wcX5_lineWidth : Cond.code mX5_lineWidth.1 mX5_lineWidth.2.1 mX5_lineWidth.2.2.1 mX5_lineWidth.2.2.2.1 ∈ gt := gt_of 504 (by decide +kernel) rfl
theorem wiX5_lineWidth : Cond.instanceMethod yX5_lineWidth ∈ gt := gt_of 502 (by decide +kernel) rfl
theorem wvX5_lineWidth : Cond.selects yX5_lineWidth.cls yX5_lineWidth yX5_lineWidth ∈ gt := gt_of 503 (by decide +kernel) rfl
theorem wcX5_lineByWidth : Cond.code mX5_lineByWidth.1 mX5_lineByWidth.2.1 mX5_lineByWidth.2.2.1 mX5_lineByWidth.2.2.2.1 ∈ gt := gt_of 496 (by decide +kernel) rfl
theorem wiX5_lineByWidth : Cond.instanceMethod yX5_lineByWidth ∈ gt := gt_of 494 (by decide +kernel) rfl
theorem wvX5_lineByWidth : Cond.selects yX5_lineByWidth.cls yX5_lineByWidth yX5_lineByWidth ∈ gt := gt_of 495 (by decide +kernel) rfl
theorem wcX5_sortsLines : Cond.code mX5_sortsLines.1 mX5_sortsLines.2.1 mX5_sortsLines.2.2.1 mX5_sortsLines.2.2.2.1 ∈ gt := gt_of 500 (by decide +kernel) rfl
theorem wiX5_sortsLines : Cond.instanceMethod yX5_sortsLines ∈ gt := gt_of 499 (by decide +kernel) rfl
theorem wvX5_sortsLines : Cond.selects yX5_sortsLines.cls yX5_sortsLines yX5_sortsLines ∈ gt := gt_of 17 (by decide +kernel) rfl
theorem wcX6_init : Cond.code mX6_init.1 mX6_init.2.1 mX6_init.2.2.1 mX6_init.2.2.2.1 ∈ gt := gt_of 50 (by decide +kernel) rfl
theorem wiX6_init : Cond.instanceMethod yX6_init ∈ gt := gt_of 49 (by decide +kernel) rfl
theorem wcX6_type : Cond.code mX6_type.1 mX6_type.2.1 mX6_type.2.2.1 mX6_type.2.2.2.1 ∈ gt := gt_of 218 (by decide +kernel) rfl
theorem wiX6_type : Cond.instanceMethod yX6_type ∈ gt := gt_of 216 (by decide +kernel) rfl
theorem wvX6_type : Cond.selects yX6_type.cls yX6_type yX6_type ∈ gt := gt_of 217 (by decide +kernel) rfl
theorem wcX6_clear : Cond.code mX6_clear.1 mX6_clear.2.1 mX6_clear.2.2.1 mX6_clear.2.2.2.1 ∈ gt := gt_of 227 (by decide +kernel) rfl
theorem wiX6_clear : Cond.instanceMethod yX6_clear ∈ gt := gt_of 225 (by decide +kernel) rfl
theorem wvX6_clear : Cond.selects yX6_clear.cls yX6_clear yX6_clear ∈ gt := gt_of 226 (by decide +kernel) rfl
theorem wcX6_edits : Cond.code mX6_edits.1 mX6_edits.2.1 mX6_edits.2.2.1 mX6_edits.2.2.2.1 ∈ gt := gt_of 232 (by decide +kernel) rfl
theorem wiX6_edits : Cond.instanceMethod yX6_edits ∈ gt := gt_of 230 (by decide +kernel) rfl
theorem wvX6_edits : Cond.selects yX6_edits.cls yX6_edits yX6_edits ∈ gt := gt_of 231 (by decide +kernel) rfl
theorem wcX6_stages : Cond.code mX6_stages.1 mX6_stages.2.1 mX6_stages.2.2.1 mX6_stages.2.2.2.1 ∈ gt := gt_of 345 (by decide +kernel) rfl
theorem wiX6_stages : Cond.instanceMethod yX6_stages ∈ gt := gt_of 343 (by decide +kernel) rfl
theorem wvX6_stages : Cond.selects yX6_stages.cls yX6_stages yX6_stages ∈ gt := gt_of 344 (by decide +kernel) rfl
theorem wcX6_does : Cond.code mX6_does.1 mX6_does.2.1 mX6_does.2.2.1 mX6_does.2.2.2.1 ∈ gt := gt_of 378 (by decide +kernel) rfl
theorem wiX6_does : Cond.instanceMethod yX6_does ∈ gt := gt_of 376 (by decide +kernel) rfl
theorem wvX6_does : Cond.selects yX6_does.cls yX6_does yX6_does ∈ gt := gt_of 377 (by decide +kernel) rfl
theorem wcX6_drops : Cond.code mX6_drops.1 mX6_drops.2.1 mX6_drops.2.2.1 mX6_drops.2.2.2.1 ∈ gt := gt_of 400 (by decide +kernel) rfl
theorem wiX6_drops : Cond.instanceMethod yX6_drops ∈ gt := gt_of 398 (by decide +kernel) rfl
theorem wvX6_drops : Cond.selects yX6_drops.cls yX6_drops yX6_drops ∈ gt := gt_of 399 (by decide +kernel) rfl
theorem wcX6_undo : Cond.code mX6_undo.1 mX6_undo.2.1 mX6_undo.2.2.1 mX6_undo.2.2.2.1 ∈ gt := gt_of 404 (by decide +kernel) rfl
theorem wiX6_undo : Cond.instanceMethod yX6_undo ∈ gt := gt_of 402 (by decide +kernel) rfl
theorem wvX6_undo : Cond.selects yX6_undo.cls yX6_undo yX6_undo ∈ gt := gt_of 403 (by decide +kernel) rfl
theorem wcX6_at : Cond.code mX6_at.1 mX6_at.2.1 mX6_at.2.2.1 mX6_at.2.2.2.1 ∈ gt := gt_of 416 (by decide +kernel) rfl
theorem wiX6_at : Cond.instanceMethod yX6_at ∈ gt := gt_of 414 (by decide +kernel) rfl
theorem wvX6_at : Cond.selects yX6_at.cls yX6_at yX6_at ∈ gt := gt_of 415 (by decide +kernel) rfl
theorem wcX6_tells : Cond.code mX6_tells.1 mX6_tells.2.1 mX6_tells.2.2.1 mX6_tells.2.2.2.1 ∈ gt := gt_of 421 (by decide +kernel) rfl
theorem wiX6_tells : Cond.instanceMethod yX6_tells ∈ gt := gt_of 419 (by decide +kernel) rfl
theorem wvX6_tells : Cond.selects yX6_tells.cls yX6_tells yX6_tells ∈ gt := gt_of 420 (by decide +kernel) rfl
theorem wcX6_spot : Cond.code mX6_spot.1 mX6_spot.2.1 mX6_spot.2.2.1 mX6_spot.2.2.2.1 ∈ gt := gt_of 461 (by decide +kernel) rfl
theorem wiX6_spot : Cond.instanceMethod yX6_spot ∈ gt := gt_of 459 (by decide +kernel) rfl
theorem wvX6_spot : Cond.selects yX6_spot.cls yX6_spot yX6_spot ∈ gt := gt_of 460 (by decide +kernel) rfl
theorem wcX6_column : Cond.code mX6_column.1 mX6_column.2.1 mX6_column.2.2.1 mX6_column.2.2.2.1 ∈ gt := gt_of 470 (by decide +kernel) rfl
theorem wiX6_column : Cond.instanceMethod yX6_column ∈ gt := gt_of 468 (by decide +kernel) rfl
theorem wvX6_column : Cond.selects yX6_column.cls yX6_column yX6_column ∈ gt := gt_of 469 (by decide +kernel) rfl
theorem wcX6_line : Cond.code mX6_line.1 mX6_line.2.1 mX6_line.2.2.1 mX6_line.2.2.2.1 ∈ gt := gt_of 488 (by decide +kernel) rfl
theorem wiX6_line : Cond.instanceMethod yX6_line ∈ gt := gt_of 486 (by decide +kernel) rfl
theorem wvX6_line : Cond.selects yX6_line.cls yX6_line yX6_line ∈ gt := gt_of 487 (by decide +kernel) rfl
theorem wcX6_wide : Cond.code mX6_wide.1 mX6_wide.2.1 mX6_wide.2.2.1 mX6_wide.2.2.2.1 ∈ gt := gt_of 492 (by decide +kernel) rfl
theorem wiX6_wide : Cond.instanceMethod yX6_wide ∈ gt := gt_of 490 (by decide +kernel) rfl
theorem wvX6_wide : Cond.selects yX6_wide.cls yX6_wide yX6_wide ∈ gt := gt_of 491 (by decide +kernel) rfl
theorem wcX6_chunk : Cond.code mX6_chunk.1 mX6_chunk.2.1 mX6_chunk.2.2.1 mX6_chunk.2.2.2.1 ∈ gt := gt_of 510 (by decide +kernel) rfl
theorem wiX6_chunk : Cond.instanceMethod yX6_chunk ∈ gt := gt_of 508 (by decide +kernel) rfl
theorem wvX6_chunk : Cond.selects yX6_chunk.cls yX6_chunk yX6_chunk ∈ gt := gt_of 509 (by decide +kernel) rfl
theorem wcX6_marks : Cond.code mX6_marks.1 mX6_marks.2.1 mX6_marks.2.2.1 mX6_marks.2.2.2.1 ∈ gt := gt_of 523 (by decide +kernel) rfl
theorem wiX6_marks : Cond.instanceMethod yX6_marks ∈ gt := gt_of 521 (by decide +kernel) rfl
theorem wvX6_marks : Cond.selects yX6_marks.cls yX6_marks yX6_marks ∈ gt := gt_of 522 (by decide +kernel) rfl
theorem wcX6_lifts : Cond.code mX6_lifts.1 mX6_lifts.2.1 mX6_lifts.2.2.1 mX6_lifts.2.2.2.1 ∈ gt := gt_of 542 (by decide +kernel) rfl
theorem wiX6_lifts : Cond.instanceMethod yX6_lifts ∈ gt := gt_of 540 (by decide +kernel) rfl
theorem wvX6_lifts : Cond.selects yX6_lifts.cls yX6_lifts yX6_lifts ∈ gt := gt_of 541 (by decide +kernel) rfl
theorem wcX6_mark : Cond.code mX6_mark.1 mX6_mark.2.1 mX6_mark.2.2.1 mX6_mark.2.2.2.1 ∈ gt := gt_of 546 (by decide +kernel) rfl
theorem wiX6_mark : Cond.instanceMethod yX6_mark ∈ gt := gt_of 544 (by decide +kernel) rfl
theorem wvX6_mark : Cond.selects yX6_mark.cls yX6_mark yX6_mark ∈ gt := gt_of 545 (by decide +kernel) rfl
theorem wcX6_next : Cond.code mX6_next.1 mX6_next.2.1 mX6_next.2.2.1 mX6_next.2.2.2.1 ∈ gt := gt_of 550 (by decide +kernel) rfl
theorem wiX6_next : Cond.instanceMethod yX6_next ∈ gt := gt_of 548 (by decide +kernel) rfl
theorem wvX6_next : Cond.selects yX6_next.cls yX6_next yX6_next ∈ gt := gt_of 549 (by decide +kernel) rfl
theorem wcX6_seeks : Cond.code mX6_seeks.1 mX6_seeks.2.1 mX6_seeks.2.2.1 mX6_seeks.2.2.2.1 ∈ gt := gt_of 558 (by decide +kernel) rfl
theorem wiX6_seeks : Cond.instanceMethod yX6_seeks ∈ gt := gt_of 556 (by decide +kernel) rfl
theorem wvX6_seeks : Cond.selects yX6_seeks.cls yX6_seeks yX6_seeks ∈ gt := gt_of 557 (by decide +kernel) rfl
theorem wcX6_reads : Cond.code mX6_reads.1 mX6_reads.2.1 mX6_reads.2.2.1 mX6_reads.2.2.2.1 ∈ gt := gt_of 562 (by decide +kernel) rfl
theorem wiX6_reads : Cond.instanceMethod yX6_reads ∈ gt := gt_of 560 (by decide +kernel) rfl
theorem wvX6_reads : Cond.selects yX6_reads.cls yX6_reads yX6_reads ∈ gt := gt_of 561 (by decide +kernel) rfl
theorem wcX6_keep : Cond.code mX6_keep.1 mX6_keep.2.1 mX6_keep.2.2.1 mX6_keep.2.2.2.1 ∈ gt := gt_of 571 (by decide +kernel) rfl
theorem wiX6_keep : Cond.instanceMethod yX6_keep ∈ gt := gt_of 569 (by decide +kernel) rfl
theorem wvX6_keep : Cond.selects yX6_keep.cls yX6_keep yX6_keep ∈ gt := gt_of 570 (by decide +kernel) rfl
theorem wcX6_back : Cond.code mX6_back.1 mX6_back.2.1 mX6_back.2.2.1 mX6_back.2.2.2.1 ∈ gt := gt_of 576 (by decide +kernel) rfl
theorem wiX6_back : Cond.instanceMethod yX6_back ∈ gt := gt_of 574 (by decide +kernel) rfl
theorem wvX6_back : Cond.selects yX6_back.cls yX6_back yX6_back ∈ gt := gt_of 575 (by decide +kernel) rfl
theorem wcX6_count : Cond.code mX6_count.1 mX6_count.2.1 mX6_count.2.2.1 mX6_count.2.2.2.1 ∈ gt := gt_of 584 (by decide +kernel) rfl
theorem wiX6_count : Cond.instanceMethod yX6_count ∈ gt := gt_of 582 (by decide +kernel) rfl
theorem wvX6_count : Cond.selects yX6_count.cls yX6_count yX6_count ∈ gt := gt_of 583 (by decide +kernel) rfl
theorem wcX6_digest : Cond.code mX6_digest.1 mX6_digest.2.1 mX6_digest.2.2.1 mX6_digest.2.2.2.1 ∈ gt := gt_of 589 (by decide +kernel) rfl
theorem wiX6_digest : Cond.instanceMethod yX6_digest ∈ gt := gt_of 587 (by decide +kernel) rfl
theorem wvX6_digest : Cond.selects yX6_digest.cls yX6_digest yX6_digest ∈ gt := gt_of 588 (by decide +kernel) rfl
theorem wcX6_isPlace : Cond.code mX6_isPlace.1 mX6_isPlace.2.1 mX6_isPlace.2.2.1 mX6_isPlace.2.2.2.1 ∈ gt := gt_of 240 (by decide +kernel) rfl
theorem wiX6_isPlace : Cond.instanceMethod yX6_isPlace ∈ gt := gt_of 239 (by decide +kernel) rfl
theorem wvX6_isPlace : Cond.selects yX6_isPlace.cls yX6_isPlace yX6_isPlace ∈ gt := gt_of 3 (by decide +kernel) rfl
theorem wcX6_isStretch : Cond.code mX6_isStretch.1 mX6_isStretch.2.1 mX6_isStretch.2.2.1 mX6_isStretch.2.2.2.1 ∈ gt := gt_of 236 (by decide +kernel) rfl
theorem wiX6_isStretch : Cond.instanceMethod yX6_isStretch ∈ gt := gt_of 235 (by decide +kernel) rfl
theorem wvX6_isStretch : Cond.selects yX6_isStretch.cls yX6_isStretch yX6_isStretch ∈ gt := gt_of 2 (by decide +kernel) rfl
theorem wcX6_isLine : Cond.code mX6_isLine.1 mX6_isLine.2.1 mX6_isLine.2.2.1 mX6_isLine.2.2.2.1 ∈ gt := gt_of 474 (by decide +kernel) rfl
theorem wiX6_isLine : Cond.instanceMethod yX6_isLine ∈ gt := gt_of 473 (by decide +kernel) rfl
theorem wvX6_isLine : Cond.selects yX6_isLine.cls yX6_isLine yX6_isLine ∈ gt := gt_of 16 (by decide +kernel) rfl
theorem wcX6_isMeasure : Cond.code mX6_isMeasure.1 mX6_isMeasure.2.1 mX6_isMeasure.2.2.1 mX6_isMeasure.2.2.2.1 ∈ gt := gt_of 424 (by decide +kernel) rfl
theorem wtX6_isMeasure : Cond.static yX6_isMeasure ∈ gt := gt_of 423 (by decide +kernel) rfl
theorem wcX6_isName : Cond.code mX6_isName.1 mX6_isName.2.1 mX6_isName.2.2.1 mX6_isName.2.2.2.1 ∈ gt := gt_of 526 (by decide +kernel) rfl
theorem wtX6_isName : Cond.static yX6_isName ∈ gt := gt_of 525 (by decide +kernel) rfl
theorem wcX6_measureInLine : Cond.code mX6_measureInLine.1 mX6_measureInLine.2.1 mX6_measureInLine.2.2.1 mX6_measureInLine.2.2.2.1 ∈ gt := gt_of 464 (by decide +kernel) rfl
theorem wtX6_measureInLine : Cond.static yX6_measureInLine ∈ gt := gt_of 463 (by decide +kernel) rfl
theorem wcX6_widestPart : Cond.code mX6_widestPart.1 mX6_widestPart.2.1 mX6_widestPart.2.2.1 mX6_widestPart.2.2.2.1 ∈ gt := gt_of 518 (by decide +kernel) rfl
theorem wiX6_widestPart : Cond.instanceMethod yX6_widestPart ∈ gt := gt_of 517 (by decide +kernel) rfl
theorem wvX6_widestPart : Cond.selects yX6_widestPart.cls yX6_widestPart yX6_widestPart ∈ gt := gt_of 18 (by decide +kernel) rfl
theorem wcX6_beginsLetter : Cond.code mX6_beginsLetter.1 mX6_beginsLetter.2.1 mX6_beginsLetter.2.2.1 mX6_beginsLetter.2.2.2.1 ∈ gt := gt_of 337 (by decide +kernel) rfl
theorem wtX6_beginsLetter : Cond.static yX6_beginsLetter ∈ gt := gt_of 336 (by decide +kernel) rfl
theorem wcX6_cellsOf : Cond.code mX6_cellsOf.1 mX6_cellsOf.2.1 mX6_cellsOf.2.2.1 mX6_cellsOf.2.2.2.1 ∈ gt := gt_of 340 (by decide +kernel) rfl
theorem wtX6_cellsOf : Cond.static yX6_cellsOf ∈ gt := gt_of 339 (by decide +kernel) rfl
theorem wcX7_init : Cond.code mX7_init.1 mX7_init.2.1 mX7_init.2.2.1 mX7_init.2.2.2.1 ∈ gt := gt_of 601 (by decide +kernel) rfl
theorem wiX7_init : Cond.instanceMethod yX7_init ∈ gt := gt_of 600 (by decide +kernel) rfl
theorem wcX7_in : Cond.code mX7_in.1 mX7_in.2.1 mX7_in.2.2.1 mX7_in.2.2.2.1 ∈ gt := gt_of 647 (by decide +kernel) rfl
theorem wtX7_in : Cond.static yX7_in ∈ gt := gt_of 646 (by decide +kernel) rfl
theorem wcX7_isPlace : Cond.code mX7_isPlace.1 mX7_isPlace.2.1 mX7_isPlace.2.2.1 mX7_isPlace.2.2.2.1 ∈ gt := gt_of 663 (by decide +kernel) rfl
theorem wiX7_isPlace : Cond.instanceMethod yX7_isPlace ∈ gt := gt_of 662 (by decide +kernel) rfl
theorem wvX7_isPlace : Cond.selects yX7_isPlace.cls yX7_isPlace yX7_isPlace ∈ gt := gt_of 20 (by decide +kernel) rfl
theorem wcX7_byteAt : Cond.code mX7_byteAt.1 mX7_byteAt.2.1 mX7_byteAt.2.2.1 mX7_byteAt.2.2.2.1 ∈ gt := gt_of 714 (by decide +kernel) rfl
theorem wiX7_byteAt : Cond.instanceMethod yX7_byteAt ∈ gt := gt_of 713 (by decide +kernel) rfl
theorem wvX7_byteAt : Cond.selects yX7_byteAt.cls yX7_byteAt yX7_byteAt ∈ gt := gt_of 27 (by decide +kernel) rfl
theorem wcX7_chunkAt : Cond.code mX7_chunkAt.1 mX7_chunkAt.2.1 mX7_chunkAt.2.2.1 mX7_chunkAt.2.2.2.1 ∈ gt := gt_of 679 (by decide +kernel) rfl
theorem wiX7_chunkAt : Cond.instanceMethod yX7_chunkAt ∈ gt := gt_of 678 (by decide +kernel) rfl
theorem wvX7_chunkAt : Cond.selects yX7_chunkAt.cls yX7_chunkAt yX7_chunkAt ∈ gt := gt_of 24 (by decide +kernel) rfl
theorem wcX7_opens : Cond.code mX7_opens.1 mX7_opens.2.1 mX7_opens.2.2.1 mX7_opens.2.2.2.1 ∈ gt := gt_of 683 (by decide +kernel) rfl
theorem wiX7_opens : Cond.instanceMethod yX7_opens ∈ gt := gt_of 682 (by decide +kernel) rfl
theorem wvX7_opens : Cond.selects yX7_opens.cls yX7_opens yX7_opens ∈ gt := gt_of 25 (by decide +kernel) rfl
theorem wcX7_putting : Cond.code mX7_putting.1 mX7_putting.2.1 mX7_putting.2.2.1 mX7_putting.2.2.2.1 ∈ gt := gt_of 690 (by decide +kernel) rfl
theorem wiX7_putting : Cond.instanceMethod yX7_putting ∈ gt := gt_of 689 (by decide +kernel) rfl
theorem wvX7_putting : Cond.selects yX7_putting.cls yX7_putting yX7_putting ∈ gt := gt_of 26 (by decide +kernel) rfl
theorem wcX7_goes : Cond.code mX7_goes.1 mX7_goes.2.1 mX7_goes.2.2.1 mX7_goes.2.2.2.1 ∈ gt := gt_of 686 (by decide +kernel) rfl
theorem wtX7_goes : Cond.static yX7_goes ∈ gt := gt_of 685 (by decide +kernel) rfl
theorem wcX7_taking : Cond.code mX7_taking.1 mX7_taking.2.1 mX7_taking.2.2.1 mX7_taking.2.2.2.1 ∈ gt := gt_of 675 (by decide +kernel) rfl
theorem wiX7_taking : Cond.instanceMethod yX7_taking ∈ gt := gt_of 674 (by decide +kernel) rfl
theorem wvX7_taking : Cond.selects yX7_taking.cls yX7_taking yX7_taking ∈ gt := gt_of 23 (by decide +kernel) rfl
theorem wcX7_edit : Cond.code mX7_edit.1 mX7_edit.2.1 mX7_edit.2.2.1 mX7_edit.2.2.2.1 ∈ gt := gt_of 671 (by decide +kernel) rfl
theorem wiX7_edit : Cond.instanceMethod yX7_edit ∈ gt := gt_of 670 (by decide +kernel) rfl
theorem wvX7_edit : Cond.selects yX7_edit.cls yX7_edit yX7_edit ∈ gt := gt_of 22 (by decide +kernel) rfl
theorem wcX7_keeps : Cond.code mX7_keeps.1 mX7_keeps.2.1 mX7_keeps.2.2.1 mX7_keeps.2.2.2.1 ∈ gt := gt_of 667 (by decide +kernel) rfl
theorem wiX7_keeps : Cond.instanceMethod yX7_keeps ∈ gt := gt_of 666 (by decide +kernel) rfl
theorem wvX7_keeps : Cond.selects yX7_keeps.cls yX7_keeps yX7_keeps ∈ gt := gt_of 21 (by decide +kernel) rfl
theorem wcX7_type : Cond.code mX7_type.1 mX7_type.2.1 mX7_type.2.2.1 mX7_type.2.2.2.1 ∈ gt := gt_of 644 (by decide +kernel) rfl
theorem wiX7_type : Cond.instanceMethod yX7_type ∈ gt := gt_of 642 (by decide +kernel) rfl
theorem wvX7_type : Cond.selects yX7_type.cls yX7_type yX7_type ∈ gt := gt_of 643 (by decide +kernel) rfl
theorem wcX7_clear : Cond.code mX7_clear.1 mX7_clear.2.1 mX7_clear.2.2.1 mX7_clear.2.2.2.1 ∈ gt := gt_of 651 (by decide +kernel) rfl
theorem wiX7_clear : Cond.instanceMethod yX7_clear ∈ gt := gt_of 649 (by decide +kernel) rfl
theorem wvX7_clear : Cond.selects yX7_clear.cls yX7_clear yX7_clear ∈ gt := gt_of 650 (by decide +kernel) rfl
theorem wcX7_isEdit : Cond.code mX7_isEdit.1 mX7_isEdit.2.1 mX7_isEdit.2.2.1 mX7_isEdit.2.2.2.1 ∈ gt := gt_of 659 (by decide +kernel) rfl
theorem wiX7_isEdit : Cond.instanceMethod yX7_isEdit ∈ gt := gt_of 658 (by decide +kernel) rfl
theorem wvX7_isEdit : Cond.selects yX7_isEdit.cls yX7_isEdit yX7_isEdit ∈ gt := gt_of 19 (by decide +kernel) rfl
theorem wcX7_edits : Cond.code mX7_edits.1 mX7_edits.2.1 mX7_edits.2.2.1 mX7_edits.2.2.2.1 ∈ gt := gt_of 655 (by decide +kernel) rfl
theorem wiX7_edits : Cond.instanceMethod yX7_edits ∈ gt := gt_of 653 (by decide +kernel) rfl
theorem wvX7_edits : Cond.selects yX7_edits.cls yX7_edits yX7_edits ∈ gt := gt_of 654 (by decide +kernel) rfl
theorem wcX7_stages : Cond.code mX7_stages.1 mX7_stages.2.1 mX7_stages.2.2.1 mX7_stages.2.2.2.1 ∈ gt := gt_of 694 (by decide +kernel) rfl
theorem wiX7_stages : Cond.instanceMethod yX7_stages ∈ gt := gt_of 692 (by decide +kernel) rfl
theorem wvX7_stages : Cond.selects yX7_stages.cls yX7_stages yX7_stages ∈ gt := gt_of 693 (by decide +kernel) rfl
theorem wcX7_does : Cond.code mX7_does.1 mX7_does.2.1 mX7_does.2.2.1 mX7_does.2.2.2.1 ∈ gt := gt_of 698 (by decide +kernel) rfl
theorem wiX7_does : Cond.instanceMethod yX7_does ∈ gt := gt_of 696 (by decide +kernel) rfl
theorem wvX7_does : Cond.selects yX7_does.cls yX7_does yX7_does ∈ gt := gt_of 697 (by decide +kernel) rfl
theorem wcX7_drops : Cond.code mX7_drops.1 mX7_drops.2.1 mX7_drops.2.2.1 mX7_drops.2.2.2.1 ∈ gt := gt_of 702 (by decide +kernel) rfl
theorem wiX7_drops : Cond.instanceMethod yX7_drops ∈ gt := gt_of 700 (by decide +kernel) rfl
theorem wvX7_drops : Cond.selects yX7_drops.cls yX7_drops yX7_drops ∈ gt := gt_of 701 (by decide +kernel) rfl
theorem wcX7_undo : Cond.code mX7_undo.1 mX7_undo.2.1 mX7_undo.2.2.1 mX7_undo.2.2.2.1 ∈ gt := gt_of 706 (by decide +kernel) rfl
theorem wiX7_undo : Cond.instanceMethod yX7_undo ∈ gt := gt_of 704 (by decide +kernel) rfl
theorem wvX7_undo : Cond.selects yX7_undo.cls yX7_undo yX7_undo ∈ gt := gt_of 705 (by decide +kernel) rfl
theorem wcX7_isLetter : Cond.code mX7_isLetter.1 mX7_isLetter.2.1 mX7_isLetter.2.2.1 mX7_isLetter.2.2.2.1 ∈ gt := gt_of 728 (by decide +kernel) rfl
theorem wtX7_isLetter : Cond.static yX7_isLetter ∈ gt := gt_of 727 (by decide +kernel) rfl
theorem wcX7_has : Cond.code mX7_has.1 mX7_has.2.1 mX7_has.2.2.1 mX7_has.2.2.2.1 ∈ gt := gt_of 725 (by decide +kernel) rfl
theorem wtX7_has : Cond.static yX7_has ∈ gt := gt_of 724 (by decide +kernel) rfl
theorem wcX7_measure : Cond.code mX7_measure.1 mX7_measure.2.1 mX7_measure.2.2.1 mX7_measure.2.2.2.1 ∈ gt := gt_of 722 (by decide +kernel) rfl
theorem wiX7_measure : Cond.instanceMethod yX7_measure ∈ gt := gt_of 721 (by decide +kernel) rfl
theorem wvX7_measure : Cond.selects yX7_measure.cls yX7_measure yX7_measure ∈ gt := gt_of 28 (by decide +kernel) rfl
theorem wcX7_at : Cond.code mX7_at.1 mX7_at.2.1 mX7_at.2.2.1 mX7_at.2.2.2.1 ∈ gt := gt_of 710 (by decide +kernel) rfl
theorem wiX7_at : Cond.instanceMethod yX7_at ∈ gt := gt_of 708 (by decide +kernel) rfl
theorem wvX7_at : Cond.selects yX7_at.cls yX7_at yX7_at ∈ gt := gt_of 709 (by decide +kernel) rfl
theorem wcX7_lineAt : Cond.code mX7_lineAt.1 mX7_lineAt.2.1 mX7_lineAt.2.2.1 mX7_lineAt.2.2.2.1 ∈ gt := gt_of 732 (by decide +kernel) rfl
theorem wiX7_lineAt : Cond.instanceMethod yX7_lineAt ∈ gt := gt_of 731 (by decide +kernel) rfl
theorem wvX7_lineAt : Cond.selects yX7_lineAt.cls yX7_lineAt yX7_lineAt ∈ gt := gt_of 29 (by decide +kernel) rfl
theorem wcX7_beyond : Cond.code mX7_beyond.1 mX7_beyond.2.1 mX7_beyond.2.2.1 mX7_beyond.2.2.2.1 ∈ gt := gt_of 736 (by decide +kernel) rfl
theorem wiX7_beyond : Cond.instanceMethod yX7_beyond ∈ gt := gt_of 735 (by decide +kernel) rfl
theorem wvX7_beyond : Cond.selects yX7_beyond.cls yX7_beyond yX7_beyond ∈ gt := gt_of 30 (by decide +kernel) rfl
theorem wcX7_tells : Cond.code mX7_tells.1 mX7_tells.2.1 mX7_tells.2.2.1 mX7_tells.2.2.2.1 ∈ gt := gt_of 718 (by decide +kernel) rfl
theorem wiX7_tells : Cond.instanceMethod yX7_tells ∈ gt := gt_of 716 (by decide +kernel) rfl
theorem wvX7_tells : Cond.selects yX7_tells.cls yX7_tells yX7_tells ∈ gt := gt_of 717 (by decide +kernel) rfl
theorem wcX7_spot : Cond.code mX7_spot.1 mX7_spot.2.1 mX7_spot.2.2.1 mX7_spot.2.2.2.1 ∈ gt := gt_of 740 (by decide +kernel) rfl
theorem wiX7_spot : Cond.instanceMethod yX7_spot ∈ gt := gt_of 738 (by decide +kernel) rfl
theorem wvX7_spot : Cond.selects yX7_spot.cls yX7_spot yX7_spot ∈ gt := gt_of 739 (by decide +kernel) rfl
theorem wcX7_lines : Cond.code mX7_lines.1 mX7_lines.2.1 mX7_lines.2.2.1 mX7_lines.2.2.2.1 ∈ gt := gt_of 752 (by decide +kernel) rfl
theorem wiX7_lines : Cond.instanceMethod yX7_lines ∈ gt := gt_of 751 (by decide +kernel) rfl
theorem wvX7_lines : Cond.selects yX7_lines.cls yX7_lines yX7_lines ∈ gt := gt_of 32 (by decide +kernel) rfl
theorem wcX7_isLine : Cond.code mX7_isLine.1 mX7_isLine.2.1 mX7_isLine.2.2.1 mX7_isLine.2.2.2.1 ∈ gt := gt_of 748 (by decide +kernel) rfl
theorem wiX7_isLine : Cond.instanceMethod yX7_isLine ∈ gt := gt_of 747 (by decide +kernel) rfl
theorem wvX7_isLine : Cond.selects yX7_isLine.cls yX7_isLine yX7_isLine ∈ gt := gt_of 31 (by decide +kernel) rfl
theorem wcX7_endOf : Cond.code mX7_endOf.1 mX7_endOf.2.1 mX7_endOf.2.2.1 mX7_endOf.2.2.2.1 ∈ gt := gt_of 756 (by decide +kernel) rfl
theorem wiX7_endOf : Cond.instanceMethod yX7_endOf ∈ gt := gt_of 755 (by decide +kernel) rfl
theorem wvX7_endOf : Cond.selects yX7_endOf.cls yX7_endOf yX7_endOf ∈ gt := gt_of 33 (by decide +kernel) rfl
theorem wcX7_column : Cond.code mX7_column.1 mX7_column.2.1 mX7_column.2.2.1 mX7_column.2.2.2.1 ∈ gt := gt_of 744 (by decide +kernel) rfl
theorem wiX7_column : Cond.instanceMethod yX7_column ∈ gt := gt_of 742 (by decide +kernel) rfl
theorem wvX7_column : Cond.selects yX7_column.cls yX7_column yX7_column ∈ gt := gt_of 743 (by decide +kernel) rfl
theorem wcX7_line : Cond.code mX7_line.1 mX7_line.2.1 mX7_line.2.2.1 mX7_line.2.2.2.1 ∈ gt := gt_of 760 (by decide +kernel) rfl
theorem wiX7_line : Cond.instanceMethod yX7_line ∈ gt := gt_of 758 (by decide +kernel) rfl
theorem wvX7_line : Cond.selects yX7_line.cls yX7_line yX7_line ∈ gt := gt_of 759 (by decide +kernel) rfl
theorem wcX7_cellsOf : Cond.code mX7_cellsOf.1 mX7_cellsOf.2.1 mX7_cellsOf.2.2.1 mX7_cellsOf.2.2.2.1 ∈ gt := gt_of 768 (by decide +kernel) rfl
theorem wiX7_cellsOf : Cond.instanceMethod yX7_cellsOf ∈ gt := gt_of 767 (by decide +kernel) rfl
theorem wvX7_cellsOf : Cond.selects yX7_cellsOf.cls yX7_cellsOf yX7_cellsOf ∈ gt := gt_of 34 (by decide +kernel) rfl
theorem wcX7_wide : Cond.code mX7_wide.1 mX7_wide.2.1 mX7_wide.2.2.1 mX7_wide.2.2.2.1 ∈ gt := gt_of 764 (by decide +kernel) rfl
theorem wiX7_wide : Cond.instanceMethod yX7_wide ∈ gt := gt_of 762 (by decide +kernel) rfl
theorem wvX7_wide : Cond.selects yX7_wide.cls yX7_wide yX7_wide ∈ gt := gt_of 763 (by decide +kernel) rfl
theorem wcX7_chunk : Cond.code mX7_chunk.1 mX7_chunk.2.1 mX7_chunk.2.2.1 mX7_chunk.2.2.2.1 ∈ gt := gt_of 772 (by decide +kernel) rfl
theorem wiX7_chunk : Cond.instanceMethod yX7_chunk ∈ gt := gt_of 770 (by decide +kernel) rfl
theorem wvX7_chunk : Cond.selects yX7_chunk.cls yX7_chunk yX7_chunk ∈ gt := gt_of 771 (by decide +kernel) rfl
theorem wcX7_isName : Cond.code mX7_isName.1 mX7_isName.2.1 mX7_isName.2.2.1 mX7_isName.2.2.2.1 ∈ gt := gt_of 779 (by decide +kernel) rfl
theorem wtX7_isName : Cond.static yX7_isName ∈ gt := gt_of 778 (by decide +kernel) rfl
theorem wcX7_marksOf : Cond.code mX7_marksOf.1 mX7_marksOf.2.1 mX7_marksOf.2.2.1 mX7_marksOf.2.2.2.1 ∈ gt := gt_of 783 (by decide +kernel) rfl
theorem wiX7_marksOf : Cond.instanceMethod yX7_marksOf ∈ gt := gt_of 782 (by decide +kernel) rfl
theorem wvX7_marksOf : Cond.selects yX7_marksOf.cls yX7_marksOf yX7_marksOf ∈ gt := gt_of 35 (by decide +kernel) rfl
theorem wcX7_told : Cond.code mX7_told.1 mX7_told.2.1 mX7_told.2.2.1 mX7_told.2.2.2.1 ∈ gt := gt_of 786 (by decide +kernel) rfl
theorem wtX7_told : Cond.static yX7_told ∈ gt := gt_of 785 (by decide +kernel) rfl
theorem wcX7_marks : Cond.code mX7_marks.1 mX7_marks.2.1 mX7_marks.2.2.1 mX7_marks.2.2.2.1 ∈ gt := gt_of 776 (by decide +kernel) rfl
theorem wiX7_marks : Cond.instanceMethod yX7_marks ∈ gt := gt_of 774 (by decide +kernel) rfl
theorem wvX7_marks : Cond.selects yX7_marks.cls yX7_marks yX7_marks ∈ gt := gt_of 775 (by decide +kernel) rfl
theorem wcX7_lifts : Cond.code mX7_lifts.1 mX7_lifts.2.1 mX7_lifts.2.2.1 mX7_lifts.2.2.2.1 ∈ gt := gt_of 790 (by decide +kernel) rfl
theorem wiX7_lifts : Cond.instanceMethod yX7_lifts ∈ gt := gt_of 788 (by decide +kernel) rfl
theorem wvX7_lifts : Cond.selects yX7_lifts.cls yX7_lifts yX7_lifts ∈ gt := gt_of 789 (by decide +kernel) rfl
theorem wcX7_mark : Cond.code mX7_mark.1 mX7_mark.2.1 mX7_mark.2.2.1 mX7_mark.2.2.2.1 ∈ gt := gt_of 794 (by decide +kernel) rfl
theorem wiX7_mark : Cond.instanceMethod yX7_mark ∈ gt := gt_of 792 (by decide +kernel) rfl
theorem wvX7_mark : Cond.selects yX7_mark.cls yX7_mark yX7_mark ∈ gt := gt_of 793 (by decide +kernel) rfl
theorem wcX7_next : Cond.code mX7_next.1 mX7_next.2.1 mX7_next.2.2.1 mX7_next.2.2.2.1 ∈ gt := gt_of 798 (by decide +kernel) rfl
theorem wiX7_next : Cond.instanceMethod yX7_next ∈ gt := gt_of 796 (by decide +kernel) rfl
theorem wvX7_next : Cond.selects yX7_next.cls yX7_next yX7_next ∈ gt := gt_of 797 (by decide +kernel) rfl
theorem wcX7_seeks : Cond.code mX7_seeks.1 mX7_seeks.2.1 mX7_seeks.2.2.1 mX7_seeks.2.2.2.1 ∈ gt := gt_of 802 (by decide +kernel) rfl
theorem wiX7_seeks : Cond.instanceMethod yX7_seeks ∈ gt := gt_of 800 (by decide +kernel) rfl
theorem wvX7_seeks : Cond.selects yX7_seeks.cls yX7_seeks yX7_seeks ∈ gt := gt_of 801 (by decide +kernel) rfl
theorem wcX7_reads : Cond.code mX7_reads.1 mX7_reads.2.1 mX7_reads.2.2.1 mX7_reads.2.2.2.1 ∈ gt := gt_of 806 (by decide +kernel) rfl
theorem wiX7_reads : Cond.instanceMethod yX7_reads ∈ gt := gt_of 804 (by decide +kernel) rfl
theorem wvX7_reads : Cond.selects yX7_reads.cls yX7_reads yX7_reads ∈ gt := gt_of 805 (by decide +kernel) rfl
theorem wcX7_keep : Cond.code mX7_keep.1 mX7_keep.2.1 mX7_keep.2.2.1 mX7_keep.2.2.2.1 ∈ gt := gt_of 810 (by decide +kernel) rfl
theorem wiX7_keep : Cond.instanceMethod yX7_keep ∈ gt := gt_of 808 (by decide +kernel) rfl
theorem wvX7_keep : Cond.selects yX7_keep.cls yX7_keep yX7_keep ∈ gt := gt_of 809 (by decide +kernel) rfl
theorem wcX7_back : Cond.code mX7_back.1 mX7_back.2.1 mX7_back.2.2.1 mX7_back.2.2.2.1 ∈ gt := gt_of 814 (by decide +kernel) rfl
theorem wiX7_back : Cond.instanceMethod yX7_back ∈ gt := gt_of 812 (by decide +kernel) rfl
theorem wvX7_back : Cond.selects yX7_back.cls yX7_back yX7_back ∈ gt := gt_of 813 (by decide +kernel) rfl
theorem wcX7_count : Cond.code mX7_count.1 mX7_count.2.1 mX7_count.2.2.1 mX7_count.2.2.2.1 ∈ gt := gt_of 818 (by decide +kernel) rfl
theorem wiX7_count : Cond.instanceMethod yX7_count ∈ gt := gt_of 816 (by decide +kernel) rfl
theorem wvX7_count : Cond.selects yX7_count.cls yX7_count yX7_count ∈ gt := gt_of 817 (by decide +kernel) rfl
theorem wcX7_digest : Cond.code mX7_digest.1 mX7_digest.2.1 mX7_digest.2.2.1 mX7_digest.2.2.2.1 ∈ gt := gt_of 822 (by decide +kernel) rfl
theorem wiX7_digest : Cond.instanceMethod yX7_digest ∈ gt := gt_of 820 (by decide +kernel) rfl
theorem wvX7_digest : Cond.selects yX7_digest.cls yX7_digest yX7_digest ∈ gt := gt_of 821 (by decide +kernel) rfl
theorem wcJ9_max_7cf53 : Cond.code mJ9_max_7cf53.1 mJ9_max_7cf53.2.1 mJ9_max_7cf53.2.2.1 mJ9_max_7cf53.2.2.2.1 ∈ gt := gt_of 68 (by decide +kernel) rfl
theorem wtJ9_max_7cf53 : Cond.static yJ9_max_7cf53 ∈ gt := gt_of 67 (by decide +kernel) rfl
theorem wcJ9_min_7cf53 : Cond.code mJ9_min_7cf53.1 mJ9_min_7cf53.2.1 mJ9_min_7cf53.2.2.1 mJ9_min_7cf53.2.2.2.1 ∈ gt := gt_of 251 (by decide +kernel) rfl
theorem wtJ9_min_7cf53 : Cond.static yJ9_min_7cf53 ∈ gt := gt_of 250 (by decide +kernel) rfl
theorem wi_obj : Cond.instanceMethod objectInit ∈ gt := gt_of 52 (by decide +kernel) rfl
theorem wc_obj : Cond.code objectInit ⟨#[0xb1]⟩ 1 none ∈ gt := gt_of 53 (by decide +kernel) rfl
theorem wn_L : Cond.initialized RL ∈ gt := gt_of 36 (by decide +kernel) rfl
theorem wn_X6 : Cond.initialized RX6 ∈ gt := gt_of 37 (by decide +kernel) rfl
theorem wn_X2 : Cond.initialized RX2 ∈ gt := gt_of 38 (by decide +kernel) rfl
theorem wn_X3 : Cond.initialized RX3 ∈ gt := gt_of 39 (by decide +kernel) rfl
theorem wn_J9 : Cond.initialized RJ9 ∈ gt := gt_of 40 (by decide +kernel) rfl
theorem wn_X5 : Cond.initialized RX5 ∈ gt := gt_of 41 (by decide +kernel) rfl
theorem wn_X4 : Cond.initialized RX4 ∈ gt := gt_of 42 (by decide +kernel) rfl
theorem wn_X0 : Cond.initialized RX0 ∈ gt := gt_of 43 (by decide +kernel) rfl
theorem wn_X1 : Cond.initialized RX1 ∈ gt := gt_of 44 (by decide +kernel) rfl
theorem wn_X7 : Cond.initialized RX7 ∈ gt := gt_of 45 (by decide +kernel) rfl
theorem wb_X6 : Cond.instantiable RX6 6 ∈ gt := gt_of 47 (by decide +kernel) rfl
theorem wb_X2 : Cond.instantiable RX2 4 ∈ gt := gt_of 55 (by decide +kernel) rfl
theorem wb_X3 : Cond.instantiable RX3 2 ∈ gt := gt_of 61 (by decide +kernel) rfl
theorem wa_int : Cond.arrayClass .int ∈ gt := gt_of 76 (by decide +kernel) rfl
theorem wb_X5 : Cond.instantiable RX5 7 ∈ gt := gt_of 98 (by decide +kernel) rfl
theorem wb_X4 : Cond.instantiable RX4 2 ∈ gt := gt_of 143 (by decide +kernel) rfl
theorem wb_X0 : Cond.instantiable RX0 3 ∈ gt := gt_of 150 (by decide +kernel) rfl
theorem wb_X1 : Cond.instantiable RX1 3 ∈ gt := gt_of 178 (by decide +kernel) rfl
theorem wb_X7 : Cond.instantiable RX7 12 ∈ gt := gt_of 598 (by decide +kernel) rfl
theorem wa_boolean : Cond.arrayClass .boolean ∈ gt := gt_of 640 (by decide +kernel) rfl
theorem lk_X6_3 : Cond.methodLink RX6 3 objectInit ∈ gt := gt_of 51 (by decide +kernel) rfl
theorem lk_X6_9 : Cond.classLink RX6 9 RX2 ∈ gt := gt_of 54 (by decide +kernel) rfl
theorem lk_X6_11 : Cond.methodLink RX6 11 yX2_init ∈ gt := gt_of 56 (by decide +kernel) rfl
theorem lk_X6_14 : Cond.fieldLink RX6 14 RX6 "text" "LChunkView$Page;" ∈ gt := gt_of 196 (by decide +kernel) rfl
theorem lk_X6_18 : Cond.classLink RX6 18 RX5 ∈ gt := gt_of 97 (by decide +kernel) rfl
theorem lk_X6_20 : Cond.methodLink RX6 20 yX5_init ∈ gt := gt_of 99 (by decide +kernel) rfl
theorem lk_X6_21 : Cond.fieldLink RX6 21 RX6 "sums" "LChunkView$Sums;" ∈ gt := gt_of 197 (by decide +kernel) rfl
theorem lk_X6_25 : Cond.classLink RX6 25 RX3 ∈ gt := gt_of 140 (by decide +kernel) rfl
theorem lk_X6_27 : Cond.methodLink RX6 27 yX3_init ∈ gt := gt_of 141 (by decide +kernel) rfl
theorem lk_X6_28 : Cond.fieldLink RX6 28 RX6 "tape" "LChunkView$Row;" ∈ gt := gt_of 198 (by decide +kernel) rfl
theorem lk_X6_32 : Cond.classLink RX6 32 RX4 ∈ gt := gt_of 142 (by decide +kernel) rfl
theorem lk_X6_34 : Cond.methodLink RX6 34 yX4_init ∈ gt := gt_of 144 (by decide +kernel) rfl
theorem lk_X6_35 : Cond.fieldLink RX6 35 RX6 "staged" "LChunkView$Staged;" ∈ gt := gt_of 199 (by decide +kernel) rfl
theorem lk_X6_39 : Cond.classLink RX6 39 RX1 ∈ gt := gt_of 177 (by decide +kernel) rfl
theorem lk_X6_41 : Cond.methodLink RX6 41 yX1_init ∈ gt := gt_of 179 (by decide +kernel) rfl
theorem lk_X6_42 : Cond.fieldLink RX6 42 RX6 "history" "LChunkView$History;" ∈ gt := gt_of 200 (by decide +kernel) rfl
theorem lk_X6_46 : Cond.fieldLink RX6 46 RX6 "images" "[LChunkView$Page;" ∈ gt := gt_of 201 (by decide +kernel) rfl
theorem lk_X6_50 : Cond.methodLink RX6 50 yX3_size ∈ gt := gt_of 219 (by decide +kernel) rfl
theorem lk_X6_54 : Cond.methodLink RX6 54 yX3_add ∈ gt := gt_of 223 (by decide +kernel) rfl
theorem lk_X6_57 : Cond.methodLink RX6 57 yX3_empties ∈ gt := gt_of 228 (by decide +kernel) rfl
theorem lk_X6_60 : Cond.methodLink RX6 60 yX6_isStretch ∈ gt := gt_of 233 (by decide +kernel) rfl
theorem lk_X6_64 : Cond.methodLink RX6 64 yX4_size ∈ gt := gt_of 241 (by decide +kernel) rfl
theorem lk_X6_65 : Cond.fieldLink RX6 65 RX2 "bytes" "LChunkView$Row;" ∈ gt := gt_of 82 (by decide +kernel) rfl
theorem lk_X6_68 : Cond.methodLink RX6 68 yX1_remembers ∈ gt := gt_of 245 (by decide +kernel) rfl
theorem lk_X6_72 : Cond.methodLink RX6 72 yX2_replaces ∈ gt := gt_of 270 (by decide +kernel) rfl
theorem lk_X6_76 : Cond.methodLink RX6 76 yX5_measures ∈ gt := gt_of 329 (by decide +kernel) rfl
theorem lk_X6_80 : Cond.methodLink RX6 80 yX4_touches ∈ gt := gt_of 346 (by decide +kernel) rfl
theorem lk_X6_83 : Cond.methodLink RX6 83 yX4_adds ∈ gt := gt_of 358 (by decide +kernel) rfl
theorem lk_X6_86 : Cond.methodLink RX6 86 yX4_growth ∈ gt := gt_of 379 (by decide +kernel) rfl
theorem lk_X6_89 : Cond.methodLink RX6 89 yX4_changesAll ∈ gt := gt_of 388 (by decide +kernel) rfl
theorem lk_X6_92 : Cond.methodLink RX6 92 yX4_empties ∈ gt := gt_of 393 (by decide +kernel) rfl
theorem lk_X6_93 : Cond.methodLink RX6 93 yX1_size ∈ gt := gt_of 405 (by decide +kernel) rfl
theorem lk_X6_94 : Cond.methodLink RX6 94 yX1_restores ∈ gt := gt_of 409 (by decide +kernel) rfl
theorem lk_X6_97 : Cond.methodLink RX6 97 yX3_get ∈ gt := gt_of 417 (by decide +kernel) rfl
theorem lk_X6_101 : Cond.methodLink RX6 101 yX6_isMeasure ∈ gt := gt_of 422 (by decide +kernel) rfl
theorem lk_X6_105 : Cond.methodLink RX6 105 yX5_total ∈ gt := gt_of 425 (by decide +kernel) rfl
theorem lk_X6_108 : Cond.methodLink RX6 108 yX5_placeBy ∈ gt := gt_of 441 (by decide +kernel) rfl
theorem lk_X6_112 : Cond.methodLink RX6 112 yX5_ahead ∈ gt := gt_of 457 (by decide +kernel) rfl
theorem lk_X6_115 : Cond.methodLink RX6 115 yX6_isPlace ∈ gt := gt_of 237 (by decide +kernel) rfl
theorem lk_X6_118 : Cond.methodLink RX6 118 yX6_measureInLine ∈ gt := gt_of 462 (by decide +kernel) rfl
theorem lk_X6_121 : Cond.methodLink RX6 121 yX5_lineBegin ∈ gt := gt_of 465 (by decide +kernel) rfl
theorem lk_X6_124 : Cond.methodLink RX6 124 yX5_between ∈ gt := gt_of 466 (by decide +kernel) rfl
theorem lk_X6_128 : Cond.methodLink RX6 128 yX6_isLine ∈ gt := gt_of 471 (by decide +kernel) rfl
theorem lk_X6_131 : Cond.methodLink RX6 131 yX5_lineEnd ∈ gt := gt_of 479 (by decide +kernel) rfl
theorem lk_X6_134 : Cond.methodLink RX6 134 yX5_farthest ∈ gt := gt_of 484 (by decide +kernel) rfl
theorem lk_X6_138 : Cond.methodLink RX6 138 yX5_lineByWidth ∈ gt := gt_of 493 (by decide +kernel) rfl
theorem lk_X6_141 : Cond.fieldLink RX6 141 RX2 "chunks" "LChunkView$Row;" ∈ gt := gt_of 84 (by decide +kernel) rfl
theorem lk_X6_144 : Cond.methodLink RX6 144 yX2_chunkBegin ∈ gt := gt_of 511 (by decide +kernel) rfl
theorem lk_X6_147 : Cond.methodLink RX6 147 yX6_widestPart ∈ gt := gt_of 515 (by decide +kernel) rfl
theorem lk_X6_150 : Cond.methodLink RX6 150 yX6_isName ∈ gt := gt_of 524 (by decide +kernel) rfl
theorem lk_X6_153 : Cond.methodLink RX6 153 yX2_markPlace ∈ gt := gt_of 527 (by decide +kernel) rfl
theorem lk_X6_156 : Cond.methodLink RX6 156 yX2_marksSet ∈ gt := gt_of 531 (by decide +kernel) rfl
theorem lk_X6_159 : Cond.methodLink RX6 159 yX2_putMark ∈ gt := gt_of 535 (by decide +kernel) rfl
theorem lk_X6_163 : Cond.methodLink RX6 163 yX2_markFrom ∈ gt := gt_of 551 (by decide +kernel) rfl
theorem lk_X6_166 : Cond.fieldLink RX6 166 RX2 "reader" "I" ∈ gt := gt_of 87 (by decide +kernel) rfl
theorem lk_X6_170 : Cond.methodLink RX6 170 yX2_readsLetter ∈ gt := gt_of 563 (by decide +kernel) rfl
theorem lk_X6_173 : Cond.methodLink RX6 173 yX2_becomes ∈ gt := gt_of 572 (by decide +kernel) rfl
theorem lk_X6_176 : Cond.methodLink RX6 176 yX1_forgets ∈ gt := gt_of 577 (by decide +kernel) rfl
theorem lk_X6_179 : Cond.methodLink RX6 179 yX5_lines ∈ gt := gt_of 475 (by decide +kernel) rfl
theorem lk_X6_182 : Cond.methodLink RX6 182 yX5_lineWidth ∈ gt := gt_of 585 (by decide +kernel) rfl
theorem lk_X6_185 : Cond.constantLong RX6 185 17 ∈ gt := gt_of 590 (by decide +kernel) rfl
theorem lk_X6_187 : Cond.methodLink RX6 187 yX3_mixedInto ∈ gt := gt_of 591 (by decide +kernel) rfl
theorem lk_X6_191 : Cond.constantLong RX6 191 31 ∈ gt := gt_of 596 (by decide +kernel) rfl
theorem lk_X6_193 : Cond.methodLink RX6 193 yJ9_max_7cf53 ∈ gt := gt_of 519 (by decide +kernel) rfl
theorem lk_X6_198 : Cond.methodLink RX6 198 yX6_beginsLetter ∈ gt := gt_of 341 (by decide +kernel) rfl
theorem lk_X0_3 : Cond.methodLink RX0 3 objectInit ∈ gt := gt_of 154 (by decide +kernel) rfl
theorem lk_X0_9 : Cond.classLink RX0 9 RX3 ∈ gt := gt_of 155 (by decide +kernel) rfl
theorem lk_X0_11 : Cond.methodLink RX0 11 yX3_init ∈ gt := gt_of 156 (by decide +kernel) rfl
theorem lk_X0_14 : Cond.fieldLink RX0 14 RX0 "tape" "LChunkView$Row;" ∈ gt := gt_of 157 (by decide +kernel) rfl
theorem lk_X0_20 : Cond.fieldLink RX0 20 RX0 "place" "I" ∈ gt := gt_of 159 (by decide +kernel) rfl
theorem lk_X0_24 : Cond.fieldLink RX0 24 RX0 "taken" "I" ∈ gt := gt_of 161 (by decide +kernel) rfl
theorem lk_X0_27 : Cond.methodLink RX0 27 yX3_copies ∈ gt := gt_of 366 (by decide +kernel) rfl
theorem lk_X0_31 : Cond.methodLink RX0 31 yX3_size ∈ gt := gt_of 387 (by decide +kernel) rfl
theorem lk_X1_3 : Cond.methodLink RX1 3 objectInit ∈ gt := gt_of 182 (by decide +kernel) rfl
theorem lk_X1_9 : Cond.classLink RX1 9 RX2 ∈ gt := gt_of 183 (by decide +kernel) rfl
theorem lk_X1_11 : Cond.fieldLink RX1 11 RX1 "pages" "[LChunkView$Page;" ∈ gt := gt_of 186 (by decide +kernel) rfl
theorem lk_X1_17 : Cond.methodLink RX1 17 yX2_init ∈ gt := gt_of 185 (by decide +kernel) rfl
theorem lk_X1_20 : Cond.fieldLink RX1 20 RX1 "size" "I" ∈ gt := gt_of 188 (by decide +kernel) rfl
theorem lk_X1_24 : Cond.fieldLink RX1 24 RX1 "latest" "I" ∈ gt := gt_of 187 (by decide +kernel) rfl
theorem lk_X1_27 : Cond.methodLink RX1 27 yJ9_min_7cf53 ∈ gt := gt_of 249 (by decide +kernel) rfl
theorem lk_X1_33 : Cond.methodLink RX1 33 yX1_latestPage ∈ gt := gt_of 252 (by decide +kernel) rfl
theorem lk_X1_37 : Cond.methodLink RX1 37 yX2_becomes ∈ gt := gt_of 256 (by decide +kernel) rfl
theorem lk_X2_3 : Cond.methodLink RX2 3 objectInit ∈ gt := gt_of 59 (by decide +kernel) rfl
theorem lk_X2_9 : Cond.classLink RX2 9 RX3 ∈ gt := gt_of 60 (by decide +kernel) rfl
theorem lk_X2_11 : Cond.methodLink RX2 11 yX3_init ∈ gt := gt_of 62 (by decide +kernel) rfl
theorem lk_X2_14 : Cond.fieldLink RX2 14 RX2 "markPlaces" "LChunkView$Row;" ∈ gt := gt_of 85 (by decide +kernel) rfl
theorem lk_X2_20 : Cond.fieldLink RX2 20 RX2 "bytes" "LChunkView$Row;" ∈ gt := gt_of 81 (by decide +kernel) rfl
theorem lk_X2_23 : Cond.fieldLink RX2 23 RX2 "chunks" "LChunkView$Row;" ∈ gt := gt_of 83 (by decide +kernel) rfl
theorem lk_X2_26 : Cond.methodLink RX2 26 yX3_add ∈ gt := gt_of 77 (by decide +kernel) rfl
theorem lk_X2_29 : Cond.methodLink RX2 29 yX3_copies ∈ gt := gt_of 260 (by decide +kernel) rfl
theorem lk_X2_33 : Cond.fieldLink RX2 33 RX2 "reader" "I" ∈ gt := gt_of 86 (by decide +kernel) rfl
theorem lk_X2_37 : Cond.methodLink RX2 37 yX2_takesOut ∈ gt := gt_of 274 (by decide +kernel) rfl
theorem lk_X2_41 : Cond.methodLink RX2 41 yX2_putsIn ∈ gt := gt_of 310 (by decide +kernel) rfl
theorem lk_X2_45 : Cond.methodLink RX2 45 yX3_closes ∈ gt := gt_of 278 (by decide +kernel) rfl
theorem lk_X2_48 : Cond.methodLink RX2 48 yX2_shrinksChunks ∈ gt := gt_of 286 (by decide +kernel) rfl
theorem lk_X2_51 : Cond.methodLink RX2 51 yX2_joinsChunks ∈ gt := gt_of 299 (by decide +kernel) rfl
theorem lk_X2_54 : Cond.methodLink RX2 54 yX3_get ∈ gt := gt_of 291 (by decide +kernel) rfl
theorem lk_X2_58 : Cond.methodLink RX2 58 yX2_placeAfterTaking ∈ gt := gt_of 307 (by decide +kernel) rfl
theorem lk_X2_62 : Cond.methodLink RX2 62 yX3_set ∈ gt := gt_of 294 (by decide +kernel) rfl
theorem lk_X2_65 : Cond.methodLink RX2 65 yX3_size ∈ gt := gt_of 290 (by decide +kernel) rfl
theorem lk_X2_69 : Cond.methodLink RX2 69 yX3_opens ∈ gt := gt_of 314 (by decide +kernel) rfl
theorem lk_X2_72 : Cond.methodLink RX2 72 yX2_growsChunk ∈ gt := gt_of 318 (by decide +kernel) rfl
theorem lk_X2_75 : Cond.methodLink RX2 75 yX2_placeAfterPutting ∈ gt := gt_of 326 (by decide +kernel) rfl
theorem lk_X2_78 : Cond.methodLink RX2 78 yJ9_max_7cf53 ∈ gt := gt_of 293 (by decide +kernel) rfl
theorem lk_X2_84 : Cond.methodLink RX2 84 yJ9_min_7cf53 ∈ gt := gt_of 292 (by decide +kernel) rfl
theorem lk_X2_87 : Cond.methodLink RX2 87 yX3_shortensTo ∈ gt := gt_of 295 (by decide +kernel) rfl
theorem lk_X2_90 : Cond.methodLink RX2 90 yX2_chunkOfByteAhead ∈ gt := gt_of 303 (by decide +kernel) rfl
theorem lk_X2_93 : Cond.methodLink RX2 93 yX2_splitsChunk ∈ gt := gt_of 322 (by decide +kernel) rfl
theorem lk_X3_1 : Cond.methodLink RX3 1 objectInit ∈ gt := gt_of 65 (by decide +kernel) rfl
theorem lk_X3_7 : Cond.methodLink RX3 7 yJ9_max_7cf53 ∈ gt := gt_of 66 (by decide +kernel) rfl
theorem lk_X3_13 : Cond.fieldLink RX3 13 RX3 "numbers" "[I" ∈ gt := gt_of 69 (by decide +kernel) rfl
theorem lk_X3_19 : Cond.fieldLink RX3 19 RX3 "size" "I" ∈ gt := gt_of 70 (by decide +kernel) rfl
theorem lk_X3_23 : Cond.methodLink RX3 23 yX3_size ∈ gt := gt_of 264 (by decide +kernel) rfl
theorem lk_X3_26 : Cond.methodLink RX3 26 yX3_get ∈ gt := gt_of 265 (by decide +kernel) rfl
theorem lk_X3_30 : Cond.methodLink RX3 30 yX3_add ∈ gt := gt_of 269 (by decide +kernel) rfl
theorem lk_X3_34 : Cond.methodLink RX3 34 yX3_set ∈ gt := gt_of 282 (by decide +kernel) rfl
theorem lk_X3_38 : Cond.constantLong RX3 38 31 ∈ gt := gt_of 595 (by decide +kernel) rfl
theorem lk_X4_3 : Cond.methodLink RX4 3 objectInit ∈ gt := gt_of 147 (by decide +kernel) rfl
theorem lk_X4_9 : Cond.classLink RX4 9 RX0 ∈ gt := gt_of 148 (by decide +kernel) rfl
theorem lk_X4_11 : Cond.fieldLink RX4 11 RX4 "slots" "[LChunkView$Edit;" ∈ gt := gt_of 170 (by decide +kernel) rfl
theorem lk_X4_18 : Cond.fieldLink RX4 18 RX4 "size" "I" ∈ gt := gt_of 171 (by decide +kernel) rfl
theorem lk_X4_22 : Cond.methodLink RX4 22 yX4_slot ∈ gt := gt_of 350 (by decide +kernel) rfl
theorem lk_X4_26 : Cond.methodLink RX4 26 yX0_meets ∈ gt := gt_of 354 (by decide +kernel) rfl
theorem lk_X4_30 : Cond.methodLink RX4 30 yX0_bytesMore ∈ gt := gt_of 383 (by decide +kernel) rfl
theorem lk_X4_34 : Cond.methodLink RX4 34 yX0_takesOver ∈ gt := gt_of 362 (by decide +kernel) rfl
theorem lk_X4_38 : Cond.methodLink RX4 38 yX4_isBehind ∈ gt := gt_of 367 (by decide +kernel) rfl
theorem lk_X4_41 : Cond.methodLink RX4 41 yX0_beginsBehind ∈ gt := gt_of 371 (by decide +kernel) rfl
theorem lk_X4_55 : Cond.methodLink RX4 55 yX2_replaces ∈ gt := gt_of 392 (by decide +kernel) rfl
theorem lk_X5_3 : Cond.methodLink RX5 3 objectInit ∈ gt := gt_of 102 (by decide +kernel) rfl
theorem lk_X5_9 : Cond.classLink RX5 9 RX3 ∈ gt := gt_of 103 (by decide +kernel) rfl
theorem lk_X5_11 : Cond.methodLink RX5 11 yX3_init ∈ gt := gt_of 104 (by decide +kernel) rfl
theorem lk_X5_14 : Cond.fieldLink RX5 14 RX5 "bytes" "LChunkView$Row;" ∈ gt := gt_of 118 (by decide +kernel) rfl
theorem lk_X5_20 : Cond.fieldLink RX5 20 RX5 "letters" "LChunkView$Row;" ∈ gt := gt_of 119 (by decide +kernel) rfl
theorem lk_X5_23 : Cond.fieldLink RX5 23 RX5 "ends" "LChunkView$Row;" ∈ gt := gt_of 120 (by decide +kernel) rfl
theorem lk_X5_26 : Cond.fieldLink RX5 26 RX5 "cells" "LChunkView$Row;" ∈ gt := gt_of 121 (by decide +kernel) rfl
theorem lk_X5_29 : Cond.fieldLink RX5 29 RX5 "lineBegins" "LChunkView$Row;" ∈ gt := gt_of 122 (by decide +kernel) rfl
theorem lk_X5_32 : Cond.fieldLink RX5 32 RX5 "linesByWidth" "LChunkView$Row;" ∈ gt := gt_of 123 (by decide +kernel) rfl
theorem lk_X5_35 : Cond.methodLink RX5 35 yX5_startsOver ∈ gt := gt_of 105 (by decide +kernel) rfl
theorem lk_X5_38 : Cond.methodLink RX5 38 yX3_empties ∈ gt := gt_of 109 (by decide +kernel) rfl
theorem lk_X5_41 : Cond.methodLink RX5 41 yX5_addsPlace ∈ gt := gt_of 113 (by decide +kernel) rfl
theorem lk_X5_45 : Cond.methodLink RX5 45 yX3_add ∈ gt := gt_of 117 (by decide +kernel) rfl
theorem lk_X5_48 : Cond.fieldLink RX5 48 RX5 "sorted" "Z" ∈ gt := gt_of 124 (by decide +kernel) rfl
theorem lk_X5_52 : Cond.methodLink RX5 52 yX3_size ∈ gt := gt_of 333 (by decide +kernel) rfl
theorem lk_X5_56 : Cond.methodLink RX5 56 yX3_get ∈ gt := gt_of 334 (by decide +kernel) rfl
theorem lk_X5_67 : Cond.methodLink RX5 67 yX5_rowOf ∈ gt := gt_of 437 (by decide +kernel) rfl
theorem lk_X5_71 : Cond.methodLink RX5 71 yX5_ahead ∈ gt := gt_of 433 (by decide +kernel) rfl
theorem lk_X5_75 : Cond.methodLink RX5 75 yX5_lastPlace ∈ gt := gt_of 429 (by decide +kernel) rfl
theorem lk_X5_78 : Cond.methodLink RX5 78 yX5_lineBegin ∈ gt := gt_of 445 (by decide +kernel) rfl
theorem lk_X5_81 : Cond.methodLink RX5 81 yX5_farthest ∈ gt := gt_of 449 (by decide +kernel) rfl
theorem lk_X5_85 : Cond.methodLink RX5 85 yX5_between ∈ gt := gt_of 453 (by decide +kernel) rfl
theorem lk_X5_89 : Cond.methodLink RX5 89 yX5_lines ∈ gt := gt_of 483 (by decide +kernel) rfl
theorem lk_X5_92 : Cond.methodLink RX5 92 yX5_lineEnd ∈ gt := gt_of 505 (by decide +kernel) rfl
theorem lk_X5_95 : Cond.methodLink RX5 95 yX5_sortsLines ∈ gt := gt_of 497 (by decide +kernel) rfl
theorem lk_X5_98 : Cond.methodLink RX5 98 yX5_lineWidth ∈ gt := gt_of 501 (by decide +kernel) rfl
theorem lk_X5_101 : Cond.methodLink RX5 101 yX3_set ∈ gt := gt_of 506 (by decide +kernel) rfl
theorem lk_L_7 : Cond.classLink RL 7 RX6 ∈ gt := gt_of 46 (by decide +kernel) rfl
theorem lk_L_9 : Cond.methodLink RL 9 yX6_init ∈ gt := gt_of 48 (by decide +kernel) rfl
theorem lk_L_10 : Cond.classLink RL 10 RX7 ∈ gt := gt_of 597 (by decide +kernel) rfl
theorem lk_L_12 : Cond.methodLink RL 12 yX7_init ∈ gt := gt_of 599 (by decide +kernel) rfl
theorem lk_L_13 : Cond.methodLink RL 13 yX6_type ∈ gt := gt_of 215 (by decide +kernel) rfl
theorem lk_L_17 : Cond.methodLink RL 17 yX7_type ∈ gt := gt_of 641 (by decide +kernel) rfl
theorem lk_L_18 : Cond.methodLink RL 18 yX6_clear ∈ gt := gt_of 224 (by decide +kernel) rfl
theorem lk_L_22 : Cond.methodLink RL 22 yX7_clear ∈ gt := gt_of 648 (by decide +kernel) rfl
theorem lk_L_23 : Cond.methodLink RL 23 yX6_edits ∈ gt := gt_of 229 (by decide +kernel) rfl
theorem lk_L_27 : Cond.methodLink RL 27 yX7_edits ∈ gt := gt_of 652 (by decide +kernel) rfl
theorem lk_L_28 : Cond.methodLink RL 28 yX6_stages ∈ gt := gt_of 342 (by decide +kernel) rfl
theorem lk_L_31 : Cond.methodLink RL 31 yX7_stages ∈ gt := gt_of 691 (by decide +kernel) rfl
theorem lk_L_32 : Cond.methodLink RL 32 yX6_does ∈ gt := gt_of 375 (by decide +kernel) rfl
theorem lk_L_35 : Cond.methodLink RL 35 yX7_does ∈ gt := gt_of 695 (by decide +kernel) rfl
theorem lk_L_36 : Cond.methodLink RL 36 yX6_drops ∈ gt := gt_of 397 (by decide +kernel) rfl
theorem lk_L_39 : Cond.methodLink RL 39 yX7_drops ∈ gt := gt_of 699 (by decide +kernel) rfl
theorem lk_L_40 : Cond.methodLink RL 40 yX6_undo ∈ gt := gt_of 401 (by decide +kernel) rfl
theorem lk_L_43 : Cond.methodLink RL 43 yX7_undo ∈ gt := gt_of 703 (by decide +kernel) rfl
theorem lk_L_44 : Cond.methodLink RL 44 yX6_at ∈ gt := gt_of 413 (by decide +kernel) rfl
theorem lk_L_47 : Cond.methodLink RL 47 yX7_at ∈ gt := gt_of 707 (by decide +kernel) rfl
theorem lk_L_48 : Cond.methodLink RL 48 yX6_tells ∈ gt := gt_of 418 (by decide +kernel) rfl
theorem lk_L_52 : Cond.methodLink RL 52 yX7_tells ∈ gt := gt_of 715 (by decide +kernel) rfl
theorem lk_L_53 : Cond.methodLink RL 53 yX6_spot ∈ gt := gt_of 458 (by decide +kernel) rfl
theorem lk_L_56 : Cond.methodLink RL 56 yX7_spot ∈ gt := gt_of 737 (by decide +kernel) rfl
theorem lk_L_57 : Cond.methodLink RL 57 yX6_column ∈ gt := gt_of 467 (by decide +kernel) rfl
theorem lk_L_60 : Cond.methodLink RL 60 yX7_column ∈ gt := gt_of 741 (by decide +kernel) rfl
theorem lk_L_61 : Cond.methodLink RL 61 yX6_line ∈ gt := gt_of 485 (by decide +kernel) rfl
theorem lk_L_64 : Cond.methodLink RL 64 yX7_line ∈ gt := gt_of 757 (by decide +kernel) rfl
theorem lk_L_65 : Cond.methodLink RL 65 yX6_wide ∈ gt := gt_of 489 (by decide +kernel) rfl
theorem lk_L_68 : Cond.methodLink RL 68 yX7_wide ∈ gt := gt_of 761 (by decide +kernel) rfl
theorem lk_L_69 : Cond.methodLink RL 69 yX6_chunk ∈ gt := gt_of 507 (by decide +kernel) rfl
theorem lk_L_72 : Cond.methodLink RL 72 yX7_chunk ∈ gt := gt_of 769 (by decide +kernel) rfl
theorem lk_L_73 : Cond.methodLink RL 73 yX6_marks ∈ gt := gt_of 520 (by decide +kernel) rfl
theorem lk_L_76 : Cond.methodLink RL 76 yX7_marks ∈ gt := gt_of 773 (by decide +kernel) rfl
theorem lk_L_77 : Cond.methodLink RL 77 yX6_lifts ∈ gt := gt_of 539 (by decide +kernel) rfl
theorem lk_L_80 : Cond.methodLink RL 80 yX7_lifts ∈ gt := gt_of 787 (by decide +kernel) rfl
theorem lk_L_81 : Cond.methodLink RL 81 yX6_mark ∈ gt := gt_of 543 (by decide +kernel) rfl
theorem lk_L_84 : Cond.methodLink RL 84 yX7_mark ∈ gt := gt_of 791 (by decide +kernel) rfl
theorem lk_L_85 : Cond.methodLink RL 85 yX6_next ∈ gt := gt_of 547 (by decide +kernel) rfl
theorem lk_L_88 : Cond.methodLink RL 88 yX7_next ∈ gt := gt_of 795 (by decide +kernel) rfl
theorem lk_L_89 : Cond.methodLink RL 89 yX6_seeks ∈ gt := gt_of 555 (by decide +kernel) rfl
theorem lk_L_92 : Cond.methodLink RL 92 yX7_seeks ∈ gt := gt_of 799 (by decide +kernel) rfl
theorem lk_L_93 : Cond.methodLink RL 93 yX6_reads ∈ gt := gt_of 559 (by decide +kernel) rfl
theorem lk_L_96 : Cond.methodLink RL 96 yX7_reads ∈ gt := gt_of 803 (by decide +kernel) rfl
theorem lk_L_97 : Cond.methodLink RL 97 yX6_keep ∈ gt := gt_of 568 (by decide +kernel) rfl
theorem lk_L_100 : Cond.methodLink RL 100 yX7_keep ∈ gt := gt_of 807 (by decide +kernel) rfl
theorem lk_L_101 : Cond.methodLink RL 101 yX6_back ∈ gt := gt_of 573 (by decide +kernel) rfl
theorem lk_L_104 : Cond.methodLink RL 104 yX7_back ∈ gt := gt_of 811 (by decide +kernel) rfl
theorem lk_L_105 : Cond.methodLink RL 105 yX6_count ∈ gt := gt_of 581 (by decide +kernel) rfl
theorem lk_L_108 : Cond.methodLink RL 108 yX7_count ∈ gt := gt_of 815 (by decide +kernel) rfl
theorem lk_L_109 : Cond.methodLink RL 109 yX6_digest ∈ gt := gt_of 586 (by decide +kernel) rfl
theorem lk_L_113 : Cond.methodLink RL 113 yX7_digest ∈ gt := gt_of 819 (by decide +kernel) rfl
theorem lk_X7_1 : Cond.methodLink RX7 1 objectInit ∈ gt := gt_of 602 (by decide +kernel) rfl
theorem lk_X7_7 : Cond.fieldLink RX7 7 RX7 "s" "[I" ∈ gt := gt_of 603 (by decide +kernel) rfl
theorem lk_X7_13 : Cond.fieldLink RX7 13 RX7 "past" "[I" ∈ gt := gt_of 604 (by decide +kernel) rfl
theorem lk_X7_16 : Cond.fieldLink RX7 16 RX7 "images" "[I" ∈ gt := gt_of 606 (by decide +kernel) rfl
theorem lk_X7_19 : Cond.fieldLink RX7 19 RX7 "kept" "[Z" ∈ gt := gt_of 607 (by decide +kernel) rfl
theorem lk_X7_23 : Cond.fieldLink RX7 23 RX7 "tape" "[I" ∈ gt := gt_of 608 (by decide +kernel) rfl
theorem lk_X7_26 : Cond.fieldLink RX7 26 RX7 "places" "[I" ∈ gt := gt_of 610 (by decide +kernel) rfl
theorem lk_X7_29 : Cond.fieldLink RX7 29 RX7 "takes" "[I" ∈ gt := gt_of 611 (by decide +kernel) rfl
theorem lk_X7_32 : Cond.fieldLink RX7 32 RX7 "tapes" "[I" ∈ gt := gt_of 612 (by decide +kernel) rfl
theorem lk_X7_35 : Cond.fieldLink RX7 35 RX7 "typeds" "[I" ∈ gt := gt_of 613 (by decide +kernel) rfl
theorem lk_X7_38 : Cond.methodLink RX7 38 yX7_in ∈ gt := gt_of 645 (by decide +kernel) rfl
theorem lk_X7_42 : Cond.methodLink RX7 42 yX7_chunkAt ∈ gt := gt_of 676 (by decide +kernel) rfl
theorem lk_X7_46 : Cond.methodLink RX7 46 yX7_opens ∈ gt := gt_of 680 (by decide +kernel) rfl
theorem lk_X7_50 : Cond.methodLink RX7 50 yX7_goes ∈ gt := gt_of 684 (by decide +kernel) rfl
theorem lk_X7_54 : Cond.methodLink RX7 54 yX7_taking ∈ gt := gt_of 672 (by decide +kernel) rfl
theorem lk_X7_57 : Cond.methodLink RX7 57 yX7_putting ∈ gt := gt_of 687 (by decide +kernel) rfl
theorem lk_X7_61 : Cond.fieldLink RX7 61 RX7 "known" "I" ∈ gt := gt_of 605 (by decide +kernel) rfl
theorem lk_X7_65 : Cond.fieldLink RX7 65 RX7 "typed" "I" ∈ gt := gt_of 609 (by decide +kernel) rfl
theorem lk_X7_68 : Cond.methodLink RX7 68 yX7_isPlace ∈ gt := gt_of 660 (by decide +kernel) rfl
theorem lk_X7_72 : Cond.methodLink RX7 72 yX7_isEdit ∈ gt := gt_of 656 (by decide +kernel) rfl
theorem lk_X7_76 : Cond.fieldLink RX7 76 RX7 "staged" "I" ∈ gt := gt_of 614 (by decide +kernel) rfl
theorem lk_X7_79 : Cond.methodLink RX7 79 yX7_keeps ∈ gt := gt_of 664 (by decide +kernel) rfl
theorem lk_X7_82 : Cond.methodLink RX7 82 yX7_edit ∈ gt := gt_of 668 (by decide +kernel) rfl
theorem lk_X7_86 : Cond.methodLink RX7 86 yX7_isLetter ∈ gt := gt_of 726 (by decide +kernel) rfl
theorem lk_X7_89 : Cond.methodLink RX7 89 yX7_byteAt ∈ gt := gt_of 711 (by decide +kernel) rfl
theorem lk_X7_92 : Cond.methodLink RX7 92 yX7_has ∈ gt := gt_of 723 (by decide +kernel) rfl
theorem lk_X7_96 : Cond.methodLink RX7 96 yX7_measure ∈ gt := gt_of 719 (by decide +kernel) rfl
theorem lk_X7_99 : Cond.methodLink RX7 99 yX7_lineAt ∈ gt := gt_of 729 (by decide +kernel) rfl
theorem lk_X7_102 : Cond.methodLink RX7 102 yX7_beyond ∈ gt := gt_of 733 (by decide +kernel) rfl
theorem lk_X7_106 : Cond.methodLink RX7 106 yX7_lines ∈ gt := gt_of 749 (by decide +kernel) rfl
theorem lk_X7_110 : Cond.methodLink RX7 110 yX7_isLine ∈ gt := gt_of 745 (by decide +kernel) rfl
theorem lk_X7_113 : Cond.methodLink RX7 113 yX7_endOf ∈ gt := gt_of 753 (by decide +kernel) rfl
theorem lk_X7_116 : Cond.methodLink RX7 116 yX7_cellsOf ∈ gt := gt_of 765 (by decide +kernel) rfl
theorem lk_X7_119 : Cond.methodLink RX7 119 yX7_isName ∈ gt := gt_of 777 (by decide +kernel) rfl
theorem lk_X7_122 : Cond.methodLink RX7 122 yX7_marksOf ∈ gt := gt_of 780 (by decide +kernel) rfl
theorem lk_X7_125 : Cond.methodLink RX7 125 yX7_told ∈ gt := gt_of 784 (by decide +kernel) rfl
theorem lk_X7_128 : Cond.constantLong RX7 128 17 ∈ gt := gt_of 823 (by decide +kernel) rfl
theorem lk_X7_130 : Cond.constantLong RX7 130 31 ∈ gt := gt_of 824 (by decide +kernel) rfl
theorem lk_X7_132 : Cond.constantLong RX7 132 97 ∈ gt := gt_of 825 (by decide +kernel) rfl
def nst : List Cond := [Cond.methodLinkNest RX2 96 yX6_beginsLetter RX6, Cond.methodLinkNest RX4 17 yX0_init RX6, Cond.fieldLinkNest RX4 45 RX0 "place" "I" RX6, Cond.fieldLinkNest RX4 48 RX0 "taken" "I" RX6, Cond.fieldLinkNest RX4 51 RX0 "tape" "LChunkView$Row;" RX6, Cond.methodLinkNest RX5 60 yX6_beginsLetter RX6, Cond.methodLinkNest RX5 64 yX6_cellsOf RX6]
theorem lk_X2_96 : Cond.methodLinkNest RX2 96 yX6_beginsLetter RX6 ∈ nst := List.mem_of_getElem? (i := 0) rfl
theorem lk_X4_17 : Cond.methodLinkNest RX4 17 yX0_init RX6 ∈ nst := List.mem_of_getElem? (i := 1) rfl
theorem lk_X4_45 : Cond.fieldLinkNest RX4 45 RX0 "place" "I" RX6 ∈ nst := List.mem_of_getElem? (i := 2) rfl
theorem lk_X4_48 : Cond.fieldLinkNest RX4 48 RX0 "taken" "I" RX6 ∈ nst := List.mem_of_getElem? (i := 3) rfl
theorem lk_X4_51 : Cond.fieldLinkNest RX4 51 RX0 "tape" "LChunkView$Row;" RX6 ∈ nst := List.mem_of_getElem? (i := 4) rfl
theorem lk_X5_60 : Cond.methodLinkNest RX5 60 yX6_beginsLetter RX6 ∈ nst := List.mem_of_getElem? (i := 5) rfl
theorem lk_X5_64 : Cond.methodLinkNest RX5 64 yX6_cellsOf RX6 ∈ nst := List.mem_of_getElem? (i := 6) rfl
theorem nst_in : ∀ w ∈ nst, w ∈ lw_tbl := List.forall_mem_cons.mpr ⟨List.mem_of_getElem? (i := 567) (by decide +kernel), List.forall_mem_cons.mpr ⟨List.mem_of_getElem? (i := 151) (by decide +kernel), List.forall_mem_cons.mpr ⟨List.mem_of_getElem? (i := 160) (by decide +kernel), List.forall_mem_cons.mpr ⟨List.mem_of_getElem? (i := 162) (by decide +kernel), List.forall_mem_cons.mpr ⟨List.mem_of_getElem? (i := 158) (by decide +kernel), List.forall_mem_cons.mpr ⟨List.mem_of_getElem? (i := 335) (by decide +kernel), List.forall_mem_cons.mpr ⟨List.mem_of_getElem? (i := 338) (by decide +kernel), fun _ h => absurd h List.not_mem_nil⟩⟩⟩⟩⟩⟩⟩
theorem wo_X0 : Cond.arrayOver (.object RX0) ∈ lw_tbl := List.mem_of_getElem? (i := 149) (by decide +kernel)
theorem wo_X2 : Cond.arrayOver (.object RX2) ∈ lw_tbl := List.mem_of_getElem? (i := 184) (by decide +kernel)
/-- what a class's fields need -/
def qK (ci : Nat) (C : String) (T : u_T) (N : Nat) (ty : Nat → FieldType) : Prop := vwCl[ci]? = some (C, T, N) ∧ (∀ w ∈ u_ws C T N, w ∈ gt) ∧ (∀ k, k < N → parseFieldDescriptor (T k).2.2.1 = some (ty k)) ∧ (∀ a, a < N → ∀ b, b < N → a ≠ b → (T a).2.1 ≠ (T b).2.1)
theorem uw_X0 : ∀ w ∈ u_ws RX0 TX0 3, w ∈ gt := fun w h => List.mem_filter.mpr ⟨by
  have e : u_ws RX0 TX0 3 = ([163, 165, 167] : List Nat).filterMap (fun i => lw_tbl[i]?) := by decide +kernel
  rw [e] at h
  obtain ⟨i, -, hi⟩ := List.mem_filterMap.mp h
  exact List.mem_of_getElem? hi, List.all_eq_true.mp (show (u_ws RX0 TX0 3).all goodWord = true by decide +kernel) w h⟩
theorem kX0 : qK 0 RX0 TX0 3 tyX0 := ⟨rfl, uw_X0, tyX0_ok, nmX0⟩
theorem uw_X1 : ∀ w ∈ u_ws RX1 TX1 3, w ∈ gt := fun w h => List.mem_filter.mpr ⟨by
  have e : u_ws RX1 TX1 3 = ([189, 191, 193] : List Nat).filterMap (fun i => lw_tbl[i]?) := by decide +kernel
  rw [e] at h
  obtain ⟨i, -, hi⟩ := List.mem_filterMap.mp h
  exact List.mem_of_getElem? hi, List.all_eq_true.mp (show (u_ws RX1 TX1 3).all goodWord = true by decide +kernel) w h⟩
theorem kX1 : qK 1 RX1 TX1 3 tyX1 := ⟨rfl, uw_X1, tyX1_ok, nmX1⟩
theorem uw_X2 : ∀ w ∈ u_ws RX2 TX2 4, w ∈ gt := fun w h => List.mem_filter.mpr ⟨by
  have e : u_ws RX2 TX2 4 = ([88, 90, 92, 94] : List Nat).filterMap (fun i => lw_tbl[i]?) := by decide +kernel
  rw [e] at h
  obtain ⟨i, -, hi⟩ := List.mem_filterMap.mp h
  exact List.mem_of_getElem? hi, List.all_eq_true.mp (show (u_ws RX2 TX2 4).all goodWord = true by decide +kernel) w h⟩
theorem kX2 : qK 2 RX2 TX2 4 tyX2 := ⟨rfl, uw_X2, tyX2_ok, nmX2⟩
theorem uw_X3 : ∀ w ∈ u_ws RX3 TX3 2, w ∈ gt := fun w h => List.mem_filter.mpr ⟨by
  have e : u_ws RX3 TX3 2 = ([71, 73] : List Nat).filterMap (fun i => lw_tbl[i]?) := by decide +kernel
  rw [e] at h
  obtain ⟨i, -, hi⟩ := List.mem_filterMap.mp h
  exact List.mem_of_getElem? hi, List.all_eq_true.mp (show (u_ws RX3 TX3 2).all goodWord = true by decide +kernel) w h⟩
theorem kX3 : qK 3 RX3 TX3 2 tyX3 := ⟨rfl, uw_X3, tyX3_ok, nmX3⟩
theorem uw_X4 : ∀ w ∈ u_ws RX4 TX4 2, w ∈ gt := fun w h => List.mem_filter.mpr ⟨by
  have e : u_ws RX4 TX4 2 = ([172, 174] : List Nat).filterMap (fun i => lw_tbl[i]?) := by decide +kernel
  rw [e] at h
  obtain ⟨i, -, hi⟩ := List.mem_filterMap.mp h
  exact List.mem_of_getElem? hi, List.all_eq_true.mp (show (u_ws RX4 TX4 2).all goodWord = true by decide +kernel) w h⟩
theorem kX4 : qK 4 RX4 TX4 2 tyX4 := ⟨rfl, uw_X4, tyX4_ok, nmX4⟩
theorem uw_X5 : ∀ w ∈ u_ws RX5 TX5 7, w ∈ gt := fun w h => List.mem_filter.mpr ⟨by
  have e : u_ws RX5 TX5 7 = ([125, 127, 129, 131, 133, 135, 137] : List Nat).filterMap (fun i => lw_tbl[i]?) := by decide +kernel
  rw [e] at h
  obtain ⟨i, -, hi⟩ := List.mem_filterMap.mp h
  exact List.mem_of_getElem? hi, List.all_eq_true.mp (show (u_ws RX5 TX5 7).all goodWord = true by decide +kernel) w h⟩
theorem kX5 : qK 5 RX5 TX5 7 tyX5 := ⟨rfl, uw_X5, tyX5_ok, nmX5⟩
theorem uw_X6 : ∀ w ∈ u_ws RX6 TX6 6, w ∈ gt := fun w h => List.mem_filter.mpr ⟨by
  have e : u_ws RX6 TX6 6 = ([202, 204, 206, 208, 210, 212] : List Nat).filterMap (fun i => lw_tbl[i]?) := by decide +kernel
  rw [e] at h
  obtain ⟨i, -, hi⟩ := List.mem_filterMap.mp h
  exact List.mem_of_getElem? hi, List.all_eq_true.mp (show (u_ws RX6 TX6 6).all goodWord = true by decide +kernel) w h⟩
theorem kX6 : qK 6 RX6 TX6 6 tyX6 := ⟨rfl, uw_X6, tyX6_ok, nmX6⟩
theorem uw_X7 : ∀ w ∈ u_ws RX7 TX7 12, w ∈ gt := fun w h => List.mem_filter.mpr ⟨by
  have e : u_ws RX7 TX7 12 = ([615, 617, 619, 621, 623, 625, 627, 629, 631, 633, 635, 637] : List Nat).filterMap (fun i => lw_tbl[i]?) := by decide +kernel
  rw [e] at h
  obtain ⟨i, -, hi⟩ := List.mem_filterMap.mp h
  exact List.mem_of_getElem? hi, List.all_eq_true.mp (show (u_ws RX7 TX7 12).all goodWord = true by decide +kernel) w h⟩
theorem kX7 : qK 7 RX7 TX7 12 tyX7 := ⟨rfl, uw_X7, tyX7_ok, nmX7⟩
end
section
theorem dX0_init_0 : decode cX0_init 0 = .ok (.aload_n 0, 1) := by decide +kernel
theorem dX0_init_1 : decode cX0_init 1 = .ok (.invokespecial 3, 3) := by decide +kernel
theorem dX0_init_4 : decode cX0_init 4 = .ok (.aload_n 0, 1) := by decide +kernel
theorem dX0_init_5 : decode cX0_init 5 = .ok (.new 9, 3) := by decide +kernel
theorem dX0_init_8 : decode cX0_init 8 = .ok (.dup, 1) := by decide +kernel
theorem dX0_init_9 : decode cX0_init 9 = .ok (.bipush 24, 2) := by decide +kernel
theorem dX0_init_11 : decode cX0_init 11 = .ok (.invokespecial 11, 3) := by decide +kernel
theorem dX0_init_14 : decode cX0_init 14 = .ok (.putfield 14, 3) := by decide +kernel
theorem dX0_init_17 : decode cX0_init 17 = .ok (.return_, 1) := by decide +kernel
theorem dX0_takesOver_0 : decode cX0_takesOver 0 = .ok (.aload_n 0, 1) := by decide +kernel
theorem dX0_takesOver_1 : decode cX0_takesOver 1 = .ok (.iload_n 1, 1) := by decide +kernel
theorem dX0_takesOver_2 : decode cX0_takesOver 2 = .ok (.putfield 20, 3) := by decide +kernel
theorem dX0_takesOver_5 : decode cX0_takesOver 5 = .ok (.aload_n 0, 1) := by decide +kernel
theorem dX0_takesOver_6 : decode cX0_takesOver 6 = .ok (.iload_n 2, 1) := by decide +kernel
theorem dX0_takesOver_7 : decode cX0_takesOver 7 = .ok (.putfield 24, 3) := by decide +kernel
theorem dX0_takesOver_10 : decode cX0_takesOver 10 = .ok (.aload_n 0, 1) := by decide +kernel
theorem dX0_takesOver_11 : decode cX0_takesOver 11 = .ok (.getfield 14, 3) := by decide +kernel
theorem dX0_takesOver_14 : decode cX0_takesOver 14 = .ok (.aload_n 3, 1) := by decide +kernel
theorem dX0_takesOver_15 : decode cX0_takesOver 15 = .ok (.invokevirtual 27, 3) := by decide +kernel
theorem dX0_takesOver_18 : decode cX0_takesOver 18 = .ok (.return_, 1) := by decide +kernel
theorem dX0_beginsBehind_0 : decode cX0_beginsBehind 0 = .ok (.aload_n 0, 1) := by decide +kernel
theorem dX0_beginsBehind_1 : decode cX0_beginsBehind 1 = .ok (.getfield 20, 3) := by decide +kernel
theorem dX0_beginsBehind_4 : decode cX0_beginsBehind 4 = .ok (.iload_n 1, 1) := by decide +kernel
theorem dX0_beginsBehind_5 : decode cX0_beginsBehind 5 = .ok (.if_icmp .le 7, 3) := by decide +kernel
theorem dX0_beginsBehind_8 : decode cX0_beginsBehind 8 = .ok (.iconst 1, 1) := by decide +kernel
theorem dX0_beginsBehind_9 : decode cX0_beginsBehind 9 = .ok (.goto 4, 3) := by decide +kernel
theorem dX0_beginsBehind_12 : decode cX0_beginsBehind 12 = .ok (.iconst 0, 1) := by decide +kernel
theorem dX0_beginsBehind_13 : decode cX0_beginsBehind 13 = .ok (.ireturn, 1) := by decide +kernel
theorem dX0_meets_0 : decode cX0_meets 0 = .ok (.aload_n 0, 1) := by decide +kernel
theorem dX0_meets_1 : decode cX0_meets 1 = .ok (.getfield 20, 3) := by decide +kernel
theorem dX0_meets_4 : decode cX0_meets 4 = .ok (.iload_n 1, 1) := by decide +kernel
theorem dX0_meets_5 : decode cX0_meets 5 = .ok (.iload_n 2, 1) := by decide +kernel
theorem dX0_meets_6 : decode cX0_meets 6 = .ok (.iadd, 1) := by decide +kernel
theorem dX0_meets_7 : decode cX0_meets 7 = .ok (.if_icmp .gt 20, 3) := by decide +kernel
theorem dX0_meets_10 : decode cX0_meets 10 = .ok (.iload_n 1, 1) := by decide +kernel
theorem dX0_meets_11 : decode cX0_meets 11 = .ok (.aload_n 0, 1) := by decide +kernel
theorem dX0_meets_12 : decode cX0_meets 12 = .ok (.getfield 20, 3) := by decide +kernel
theorem dX0_meets_15 : decode cX0_meets 15 = .ok (.aload_n 0, 1) := by decide +kernel
theorem dX0_meets_16 : decode cX0_meets 16 = .ok (.getfield 24, 3) := by decide +kernel
theorem dX0_meets_19 : decode cX0_meets 19 = .ok (.iadd, 1) := by decide +kernel
theorem dX0_meets_20 : decode cX0_meets 20 = .ok (.if_icmp .gt 7, 3) := by decide +kernel
theorem dX0_meets_23 : decode cX0_meets 23 = .ok (.iconst 1, 1) := by decide +kernel
theorem dX0_meets_24 : decode cX0_meets 24 = .ok (.goto 4, 3) := by decide +kernel
theorem dX0_meets_27 : decode cX0_meets 27 = .ok (.iconst 0, 1) := by decide +kernel
theorem dX0_meets_28 : decode cX0_meets 28 = .ok (.ireturn, 1) := by decide +kernel
theorem dX0_bytesMore_0 : decode cX0_bytesMore 0 = .ok (.aload_n 0, 1) := by decide +kernel
theorem dX0_bytesMore_1 : decode cX0_bytesMore 1 = .ok (.getfield 14, 3) := by decide +kernel
theorem dX0_bytesMore_4 : decode cX0_bytesMore 4 = .ok (.invokevirtual 31, 3) := by decide +kernel
theorem dX0_bytesMore_7 : decode cX0_bytesMore 7 = .ok (.aload_n 0, 1) := by decide +kernel
theorem dX0_bytesMore_8 : decode cX0_bytesMore 8 = .ok (.getfield 24, 3) := by decide +kernel
theorem dX0_bytesMore_11 : decode cX0_bytesMore 11 = .ok (.isub, 1) := by decide +kernel
theorem dX0_bytesMore_12 : decode cX0_bytesMore 12 = .ok (.ireturn, 1) := by decide +kernel
theorem dX1_init_0 : decode cX1_init 0 = .ok (.aload_n 0, 1) := by decide +kernel
theorem dX1_init_1 : decode cX1_init 1 = .ok (.invokespecial 3, 3) := by decide +kernel
theorem dX1_init_4 : decode cX1_init 4 = .ok (.aload_n 0, 1) := by decide +kernel
theorem dX1_init_5 : decode cX1_init 5 = .ok (.bipush 8, 2) := by decide +kernel
theorem dX1_init_7 : decode cX1_init 7 = .ok (.anewarray 9, 3) := by decide +kernel
theorem dX1_init_10 : decode cX1_init 10 = .ok (.putfield 11, 3) := by decide +kernel
theorem dX1_init_13 : decode cX1_init 13 = .ok (.iconst 0, 1) := by decide +kernel
theorem dX1_init_14 : decode cX1_init 14 = .ok (.istore_n 1, 1) := by decide +kernel
theorem dX1_init_15 : decode cX1_init 15 = .ok (.iload_n 1, 1) := by decide +kernel
theorem dX1_init_16 : decode cX1_init 16 = .ok (.aload_n 0, 1) := by decide +kernel
theorem dX1_init_17 : decode cX1_init 17 = .ok (.getfield 11, 3) := by decide +kernel
theorem dX1_init_20 : decode cX1_init 20 = .ok (.arraylength, 1) := by decide +kernel
theorem dX1_init_21 : decode cX1_init 21 = .ok (.if_icmp .ge 24, 3) := by decide +kernel
theorem dX1_init_24 : decode cX1_init 24 = .ok (.aload_n 0, 1) := by decide +kernel
theorem dX1_init_25 : decode cX1_init 25 = .ok (.getfield 11, 3) := by decide +kernel
theorem dX1_init_28 : decode cX1_init 28 = .ok (.iload_n 1, 1) := by decide +kernel
theorem dX1_init_29 : decode cX1_init 29 = .ok (.new 9, 3) := by decide +kernel
theorem dX1_init_32 : decode cX1_init 32 = .ok (.dup, 1) := by decide +kernel
theorem dX1_init_33 : decode cX1_init 33 = .ok (.bipush 120, 2) := by decide +kernel
theorem dX1_init_35 : decode cX1_init 35 = .ok (.invokespecial 17, 3) := by decide +kernel
theorem dX1_init_38 : decode cX1_init 38 = .ok (.aastore, 1) := by decide +kernel
theorem dX1_init_39 : decode cX1_init 39 = .ok (.iinc 1 1, 3) := by decide +kernel
theorem dX1_init_42 : decode cX1_init 42 = .ok (.goto (-27), 3) := by decide +kernel
theorem dX1_init_45 : decode cX1_init 45 = .ok (.return_, 1) := by decide +kernel
theorem dX1_size_0 : decode cX1_size 0 = .ok (.aload_n 0, 1) := by decide +kernel
theorem dX1_size_1 : decode cX1_size 1 = .ok (.getfield 20, 3) := by decide +kernel
theorem dX1_size_4 : decode cX1_size 4 = .ok (.ireturn, 1) := by decide +kernel
theorem dX1_forgets_0 : decode cX1_forgets 0 = .ok (.aload_n 0, 1) := by decide +kernel
theorem dX1_forgets_1 : decode cX1_forgets 1 = .ok (.iconst 0, 1) := by decide +kernel
theorem dX1_forgets_2 : decode cX1_forgets 2 = .ok (.putfield 20, 3) := by decide +kernel
theorem dX1_forgets_5 : decode cX1_forgets 5 = .ok (.return_, 1) := by decide +kernel
theorem dX1_latestPage_0 : decode cX1_latestPage 0 = .ok (.aload_n 0, 1) := by decide +kernel
theorem dX1_latestPage_1 : decode cX1_latestPage 1 = .ok (.getfield 24, 3) := by decide +kernel
theorem dX1_latestPage_4 : decode cX1_latestPage 4 = .ok (.ifCond .lt 27, 3) := by decide +kernel
theorem dX1_latestPage_7 : decode cX1_latestPage 7 = .ok (.aload_n 0, 1) := by decide +kernel
theorem dX1_latestPage_8 : decode cX1_latestPage 8 = .ok (.getfield 24, 3) := by decide +kernel
theorem dX1_latestPage_11 : decode cX1_latestPage 11 = .ok (.aload_n 0, 1) := by decide +kernel
theorem dX1_latestPage_12 : decode cX1_latestPage 12 = .ok (.getfield 11, 3) := by decide +kernel
theorem dX1_latestPage_15 : decode cX1_latestPage 15 = .ok (.arraylength, 1) := by decide +kernel
theorem dX1_latestPage_16 : decode cX1_latestPage 16 = .ok (.if_icmp .ge 15, 3) := by decide +kernel
theorem dX1_latestPage_19 : decode cX1_latestPage 19 = .ok (.aload_n 0, 1) := by decide +kernel
theorem dX1_latestPage_20 : decode cX1_latestPage 20 = .ok (.getfield 11, 3) := by decide +kernel
theorem dX1_latestPage_23 : decode cX1_latestPage 23 = .ok (.aload_n 0, 1) := by decide +kernel
theorem dX1_latestPage_24 : decode cX1_latestPage 24 = .ok (.getfield 24, 3) := by decide +kernel
theorem dX1_latestPage_27 : decode cX1_latestPage 27 = .ok (.aaload, 1) := by decide +kernel
theorem dX1_latestPage_28 : decode cX1_latestPage 28 = .ok (.goto 4, 3) := by decide +kernel
theorem dX1_latestPage_31 : decode cX1_latestPage 31 = .ok (.aconst_null, 1) := by decide +kernel
theorem dX1_latestPage_32 : decode cX1_latestPage 32 = .ok (.areturn, 1) := by decide +kernel
theorem dX1_remembers_0 : decode cX1_remembers 0 = .ok (.aload_n 0, 1) := by decide +kernel
theorem dX1_remembers_1 : decode cX1_remembers 1 = .ok (.aload_n 0, 1) := by decide +kernel
theorem dX1_remembers_2 : decode cX1_remembers 2 = .ok (.getfield 24, 3) := by decide +kernel
theorem dX1_remembers_5 : decode cX1_remembers 5 = .ok (.iconst 1, 1) := by decide +kernel
theorem dX1_remembers_6 : decode cX1_remembers 6 = .ok (.iadd, 1) := by decide +kernel
theorem dX1_remembers_7 : decode cX1_remembers 7 = .ok (.bipush 8, 2) := by decide +kernel
theorem dX1_remembers_9 : decode cX1_remembers 9 = .ok (.if_icmp .ge 12, 3) := by decide +kernel
theorem dX1_remembers_12 : decode cX1_remembers 12 = .ok (.aload_n 0, 1) := by decide +kernel
theorem dX1_remembers_13 : decode cX1_remembers 13 = .ok (.getfield 24, 3) := by decide +kernel
theorem dX1_remembers_16 : decode cX1_remembers 16 = .ok (.iconst 1, 1) := by decide +kernel
theorem dX1_remembers_17 : decode cX1_remembers 17 = .ok (.iadd, 1) := by decide +kernel
theorem dX1_remembers_18 : decode cX1_remembers 18 = .ok (.goto 4, 3) := by decide +kernel
theorem dX1_remembers_21 : decode cX1_remembers 21 = .ok (.iconst 0, 1) := by decide +kernel
theorem dX1_remembers_22 : decode cX1_remembers 22 = .ok (.putfield 24, 3) := by decide +kernel
theorem dX1_remembers_25 : decode cX1_remembers 25 = .ok (.aload_n 0, 1) := by decide +kernel
theorem dX1_remembers_26 : decode cX1_remembers 26 = .ok (.aload_n 0, 1) := by decide +kernel
theorem dX1_remembers_27 : decode cX1_remembers 27 = .ok (.getfield 20, 3) := by decide +kernel
theorem dX1_remembers_30 : decode cX1_remembers 30 = .ok (.iconst 1, 1) := by decide +kernel
theorem dX1_remembers_31 : decode cX1_remembers 31 = .ok (.iadd, 1) := by decide +kernel
theorem dX1_remembers_32 : decode cX1_remembers 32 = .ok (.bipush 8, 2) := by decide +kernel
theorem dX1_remembers_34 : decode cX1_remembers 34 = .ok (.invokestatic 27, 3) := by decide +kernel
theorem dX1_remembers_37 : decode cX1_remembers 37 = .ok (.putfield 20, 3) := by decide +kernel
theorem dX1_remembers_40 : decode cX1_remembers 40 = .ok (.aload_n 0, 1) := by decide +kernel
theorem dX1_remembers_41 : decode cX1_remembers 41 = .ok (.invokevirtual 33, 3) := by decide +kernel
theorem dX1_remembers_44 : decode cX1_remembers 44 = .ok (.astore_n 2, 1) := by decide +kernel
theorem dX1_remembers_45 : decode cX1_remembers 45 = .ok (.aload_n 2, 1) := by decide +kernel
theorem dX1_remembers_46 : decode cX1_remembers 46 = .ok (.ifnull 8, 3) := by decide +kernel
theorem dX1_remembers_49 : decode cX1_remembers 49 = .ok (.aload_n 2, 1) := by decide +kernel
theorem dX1_remembers_50 : decode cX1_remembers 50 = .ok (.aload_n 1, 1) := by decide +kernel
theorem dX1_remembers_51 : decode cX1_remembers 51 = .ok (.invokevirtual 37, 3) := by decide +kernel
theorem dX1_remembers_54 : decode cX1_remembers 54 = .ok (.return_, 1) := by decide +kernel
theorem dX1_restores_0 : decode cX1_restores 0 = .ok (.aload_n 0, 1) := by decide +kernel
theorem dX1_restores_1 : decode cX1_restores 1 = .ok (.invokevirtual 33, 3) := by decide +kernel
theorem dX1_restores_4 : decode cX1_restores 4 = .ok (.astore_n 2, 1) := by decide +kernel
theorem dX1_restores_5 : decode cX1_restores 5 = .ok (.aload_n 0, 1) := by decide +kernel
theorem dX1_restores_6 : decode cX1_restores 6 = .ok (.getfield 20, 3) := by decide +kernel
theorem dX1_restores_9 : decode cX1_restores 9 = .ok (.ifCond .eq 7, 3) := by decide +kernel
theorem dX1_restores_12 : decode cX1_restores 12 = .ok (.aload_n 2, 1) := by decide +kernel
theorem dX1_restores_13 : decode cX1_restores 13 = .ok (.ifnonnull 4, 3) := by decide +kernel
theorem dX1_restores_16 : decode cX1_restores 16 = .ok (.return_, 1) := by decide +kernel
theorem dX1_restores_17 : decode cX1_restores 17 = .ok (.aload_n 1, 1) := by decide +kernel
theorem dX1_restores_18 : decode cX1_restores 18 = .ok (.aload_n 2, 1) := by decide +kernel
theorem dX1_restores_19 : decode cX1_restores 19 = .ok (.invokevirtual 37, 3) := by decide +kernel
theorem dX1_restores_22 : decode cX1_restores 22 = .ok (.aload_n 0, 1) := by decide +kernel
theorem dX1_restores_23 : decode cX1_restores 23 = .ok (.aload_n 0, 1) := by decide +kernel
theorem dX1_restores_24 : decode cX1_restores 24 = .ok (.getfield 24, 3) := by decide +kernel
theorem dX1_restores_27 : decode cX1_restores 27 = .ok (.ifCond .le 12, 3) := by decide +kernel
theorem dX1_restores_30 : decode cX1_restores 30 = .ok (.aload_n 0, 1) := by decide +kernel
theorem dX1_restores_31 : decode cX1_restores 31 = .ok (.getfield 24, 3) := by decide +kernel
theorem dX1_restores_34 : decode cX1_restores 34 = .ok (.iconst 1, 1) := by decide +kernel
theorem dX1_restores_35 : decode cX1_restores 35 = .ok (.isub, 1) := by decide +kernel
theorem dX1_restores_36 : decode cX1_restores 36 = .ok (.goto 5, 3) := by decide +kernel
theorem dX1_restores_39 : decode cX1_restores 39 = .ok (.bipush 7, 2) := by decide +kernel
theorem dX1_restores_41 : decode cX1_restores 41 = .ok (.putfield 24, 3) := by decide +kernel
theorem dX1_restores_44 : decode cX1_restores 44 = .ok (.aload_n 0, 1) := by decide +kernel
theorem dX1_restores_45 : decode cX1_restores 45 = .ok (.dup, 1) := by decide +kernel
theorem dX1_restores_46 : decode cX1_restores 46 = .ok (.getfield 20, 3) := by decide +kernel
theorem dX1_restores_49 : decode cX1_restores 49 = .ok (.iconst 1, 1) := by decide +kernel
theorem dX1_restores_50 : decode cX1_restores 50 = .ok (.isub, 1) := by decide +kernel
theorem dX1_restores_51 : decode cX1_restores 51 = .ok (.putfield 20, 3) := by decide +kernel
theorem dX1_restores_54 : decode cX1_restores 54 = .ok (.return_, 1) := by decide +kernel
theorem dX3_init_0 : decode cX3_init 0 = .ok (.aload_n 0, 1) := by decide +kernel
theorem dX3_init_1 : decode cX3_init 1 = .ok (.invokespecial 1, 3) := by decide +kernel
theorem dX3_init_4 : decode cX3_init 4 = .ok (.aload_n 0, 1) := by decide +kernel
theorem dX3_init_5 : decode cX3_init 5 = .ok (.iload_n 1, 1) := by decide +kernel
theorem dX3_init_6 : decode cX3_init 6 = .ok (.iconst 0, 1) := by decide +kernel
theorem dX3_init_7 : decode cX3_init 7 = .ok (.invokestatic 7, 3) := by decide +kernel
theorem dX3_init_10 : decode cX3_init 10 = .ok (.newarray .int, 2) := by decide +kernel
theorem dX3_init_12 : decode cX3_init 12 = .ok (.putfield 13, 3) := by decide +kernel
theorem dX3_init_15 : decode cX3_init 15 = .ok (.return_, 1) := by decide +kernel
theorem dX3_size_0 : decode cX3_size 0 = .ok (.aload_n 0, 1) := by decide +kernel
theorem dX3_size_1 : decode cX3_size 1 = .ok (.getfield 19, 3) := by decide +kernel
theorem dX3_size_4 : decode cX3_size 4 = .ok (.ireturn, 1) := by decide +kernel
theorem dX3_get_0 : decode cX3_get 0 = .ok (.iload_n 1, 1) := by decide +kernel
theorem dX3_get_1 : decode cX3_get 1 = .ok (.ifCond .lt 29, 3) := by decide +kernel
theorem dX3_get_4 : decode cX3_get 4 = .ok (.iload_n 1, 1) := by decide +kernel
theorem dX3_get_5 : decode cX3_get 5 = .ok (.aload_n 0, 1) := by decide +kernel
theorem dX3_get_6 : decode cX3_get 6 = .ok (.getfield 19, 3) := by decide +kernel
theorem dX3_get_9 : decode cX3_get 9 = .ok (.if_icmp .ge 21, 3) := by decide +kernel
theorem dX3_get_12 : decode cX3_get 12 = .ok (.iload_n 1, 1) := by decide +kernel
theorem dX3_get_13 : decode cX3_get 13 = .ok (.aload_n 0, 1) := by decide +kernel
theorem dX3_get_14 : decode cX3_get 14 = .ok (.getfield 13, 3) := by decide +kernel
theorem dX3_get_17 : decode cX3_get 17 = .ok (.arraylength, 1) := by decide +kernel
theorem dX3_get_18 : decode cX3_get 18 = .ok (.if_icmp .ge 12, 3) := by decide +kernel
theorem dX3_get_21 : decode cX3_get 21 = .ok (.aload_n 0, 1) := by decide +kernel
theorem dX3_get_22 : decode cX3_get 22 = .ok (.getfield 13, 3) := by decide +kernel
theorem dX3_get_25 : decode cX3_get 25 = .ok (.iload_n 1, 1) := by decide +kernel
theorem dX3_get_26 : decode cX3_get 26 = .ok (.iaload, 1) := by decide +kernel
theorem dX3_get_27 : decode cX3_get 27 = .ok (.goto 4, 3) := by decide +kernel
theorem dX3_get_30 : decode cX3_get 30 = .ok (.iconst 0, 1) := by decide +kernel
theorem dX3_get_31 : decode cX3_get 31 = .ok (.ireturn, 1) := by decide +kernel
theorem dX3_set_0 : decode cX3_set 0 = .ok (.iload_n 1, 1) := by decide +kernel
theorem dX3_set_1 : decode cX3_set 1 = .ok (.ifCond .lt 27, 3) := by decide +kernel
theorem dX3_set_4 : decode cX3_set 4 = .ok (.iload_n 1, 1) := by decide +kernel
theorem dX3_set_5 : decode cX3_set 5 = .ok (.aload_n 0, 1) := by decide +kernel
theorem dX3_set_6 : decode cX3_set 6 = .ok (.getfield 19, 3) := by decide +kernel
theorem dX3_set_9 : decode cX3_set 9 = .ok (.if_icmp .ge 19, 3) := by decide +kernel
theorem dX3_set_12 : decode cX3_set 12 = .ok (.iload_n 1, 1) := by decide +kernel
theorem dX3_set_13 : decode cX3_set 13 = .ok (.aload_n 0, 1) := by decide +kernel
theorem dX3_set_14 : decode cX3_set 14 = .ok (.getfield 13, 3) := by decide +kernel
theorem dX3_set_17 : decode cX3_set 17 = .ok (.arraylength, 1) := by decide +kernel
theorem dX3_set_18 : decode cX3_set 18 = .ok (.if_icmp .ge 10, 3) := by decide +kernel
theorem dX3_set_21 : decode cX3_set 21 = .ok (.aload_n 0, 1) := by decide +kernel
theorem dX3_set_22 : decode cX3_set 22 = .ok (.getfield 13, 3) := by decide +kernel
theorem dX3_set_25 : decode cX3_set 25 = .ok (.iload_n 1, 1) := by decide +kernel
theorem dX3_set_26 : decode cX3_set 26 = .ok (.iload_n 2, 1) := by decide +kernel
theorem dX3_set_27 : decode cX3_set 27 = .ok (.iastore, 1) := by decide +kernel
theorem dX3_set_28 : decode cX3_set 28 = .ok (.return_, 1) := by decide +kernel
theorem dX3_add_0 : decode cX3_add 0 = .ok (.aload_n 0, 1) := by decide +kernel
theorem dX3_add_1 : decode cX3_add 1 = .ok (.getfield 19, 3) := by decide +kernel
theorem dX3_add_4 : decode cX3_add 4 = .ok (.ifCond .lt 35, 3) := by decide +kernel
theorem dX3_add_7 : decode cX3_add 7 = .ok (.aload_n 0, 1) := by decide +kernel
theorem dX3_add_8 : decode cX3_add 8 = .ok (.getfield 19, 3) := by decide +kernel
theorem dX3_add_11 : decode cX3_add 11 = .ok (.aload_n 0, 1) := by decide +kernel
theorem dX3_add_12 : decode cX3_add 12 = .ok (.getfield 13, 3) := by decide +kernel
theorem dX3_add_15 : decode cX3_add 15 = .ok (.arraylength, 1) := by decide +kernel
theorem dX3_add_16 : decode cX3_add 16 = .ok (.if_icmp .ge 23, 3) := by decide +kernel
theorem dX3_add_19 : decode cX3_add 19 = .ok (.aload_n 0, 1) := by decide +kernel
theorem dX3_add_20 : decode cX3_add 20 = .ok (.getfield 13, 3) := by decide +kernel
theorem dX3_add_23 : decode cX3_add 23 = .ok (.aload_n 0, 1) := by decide +kernel
theorem dX3_add_24 : decode cX3_add 24 = .ok (.getfield 19, 3) := by decide +kernel
theorem dX3_add_27 : decode cX3_add 27 = .ok (.iload_n 1, 1) := by decide +kernel
theorem dX3_add_28 : decode cX3_add 28 = .ok (.iastore, 1) := by decide +kernel
theorem dX3_add_29 : decode cX3_add 29 = .ok (.aload_n 0, 1) := by decide +kernel
theorem dX3_add_30 : decode cX3_add 30 = .ok (.dup, 1) := by decide +kernel
theorem dX3_add_31 : decode cX3_add 31 = .ok (.getfield 19, 3) := by decide +kernel
theorem dX3_add_34 : decode cX3_add 34 = .ok (.iconst 1, 1) := by decide +kernel
theorem dX3_add_35 : decode cX3_add 35 = .ok (.iadd, 1) := by decide +kernel
theorem dX3_add_36 : decode cX3_add 36 = .ok (.putfield 19, 3) := by decide +kernel
theorem dX3_add_39 : decode cX3_add 39 = .ok (.return_, 1) := by decide +kernel
theorem dX3_empties_0 : decode cX3_empties 0 = .ok (.aload_n 0, 1) := by decide +kernel
theorem dX3_empties_1 : decode cX3_empties 1 = .ok (.iconst 0, 1) := by decide +kernel
theorem dX3_empties_2 : decode cX3_empties 2 = .ok (.putfield 19, 3) := by decide +kernel
theorem dX3_empties_5 : decode cX3_empties 5 = .ok (.return_, 1) := by decide +kernel
theorem dX3_shortensTo_0 : decode cX3_shortensTo 0 = .ok (.iload_n 1, 1) := by decide +kernel
theorem dX3_shortensTo_1 : decode cX3_shortensTo 1 = .ok (.ifCond .lt 16, 3) := by decide +kernel
theorem dX3_shortensTo_4 : decode cX3_shortensTo 4 = .ok (.iload_n 1, 1) := by decide +kernel
theorem dX3_shortensTo_5 : decode cX3_shortensTo 5 = .ok (.aload_n 0, 1) := by decide +kernel
theorem dX3_shortensTo_6 : decode cX3_shortensTo 6 = .ok (.getfield 19, 3) := by decide +kernel
theorem dX3_shortensTo_9 : decode cX3_shortensTo 9 = .ok (.if_icmp .ge 8, 3) := by decide +kernel
theorem dX3_shortensTo_12 : decode cX3_shortensTo 12 = .ok (.aload_n 0, 1) := by decide +kernel
theorem dX3_shortensTo_13 : decode cX3_shortensTo 13 = .ok (.iload_n 1, 1) := by decide +kernel
theorem dX3_shortensTo_14 : decode cX3_shortensTo 14 = .ok (.putfield 19, 3) := by decide +kernel
theorem dX3_shortensTo_17 : decode cX3_shortensTo 17 = .ok (.return_, 1) := by decide +kernel
theorem dX3_copies_0 : decode cX3_copies 0 = .ok (.aload_n 0, 1) := by decide +kernel
theorem dX3_copies_1 : decode cX3_copies 1 = .ok (.iconst 0, 1) := by decide +kernel
theorem dX3_copies_2 : decode cX3_copies 2 = .ok (.putfield 19, 3) := by decide +kernel
theorem dX3_copies_5 : decode cX3_copies 5 = .ok (.iconst 0, 1) := by decide +kernel
theorem dX3_copies_6 : decode cX3_copies 6 = .ok (.istore_n 2, 1) := by decide +kernel
theorem dX3_copies_7 : decode cX3_copies 7 = .ok (.iload_n 2, 1) := by decide +kernel
theorem dX3_copies_8 : decode cX3_copies 8 = .ok (.aload_n 1, 1) := by decide +kernel
theorem dX3_copies_9 : decode cX3_copies 9 = .ok (.invokevirtual 23, 3) := by decide +kernel
theorem dX3_copies_12 : decode cX3_copies 12 = .ok (.if_icmp .ge 18, 3) := by decide +kernel
theorem dX3_copies_15 : decode cX3_copies 15 = .ok (.aload_n 0, 1) := by decide +kernel
theorem dX3_copies_16 : decode cX3_copies 16 = .ok (.aload_n 1, 1) := by decide +kernel
theorem dX3_copies_17 : decode cX3_copies 17 = .ok (.iload_n 2, 1) := by decide +kernel
theorem dX3_copies_18 : decode cX3_copies 18 = .ok (.invokevirtual 26, 3) := by decide +kernel
theorem dX3_copies_21 : decode cX3_copies 21 = .ok (.invokevirtual 30, 3) := by decide +kernel
theorem dX3_copies_24 : decode cX3_copies 24 = .ok (.iinc 2 1, 3) := by decide +kernel
theorem dX3_copies_27 : decode cX3_copies 27 = .ok (.goto (-20), 3) := by decide +kernel
theorem dX3_copies_30 : decode cX3_copies 30 = .ok (.return_, 1) := by decide +kernel
theorem dX3_opens_0 : decode cX3_opens 0 = .ok (.iload_n 1, 1) := by decide +kernel
theorem dX3_opens_1 : decode cX3_opens 1 = .ok (.ifCond .lt 29, 3) := by decide +kernel
theorem dX3_opens_4 : decode cX3_opens 4 = .ok (.iload_n 1, 1) := by decide +kernel
theorem dX3_opens_5 : decode cX3_opens 5 = .ok (.aload_n 0, 1) := by decide +kernel
theorem dX3_opens_6 : decode cX3_opens 6 = .ok (.getfield 19, 3) := by decide +kernel
theorem dX3_opens_9 : decode cX3_opens 9 = .ok (.if_icmp .gt 21, 3) := by decide +kernel
theorem dX3_opens_12 : decode cX3_opens 12 = .ok (.iload_n 2, 1) := by decide +kernel
theorem dX3_opens_13 : decode cX3_opens 13 = .ok (.ifCond .lt 17, 3) := by decide +kernel
theorem dX3_opens_16 : decode cX3_opens 16 = .ok (.iload_n 2, 1) := by decide +kernel
theorem dX3_opens_17 : decode cX3_opens 17 = .ok (.aload_n 0, 1) := by decide +kernel
theorem dX3_opens_18 : decode cX3_opens 18 = .ok (.getfield 13, 3) := by decide +kernel
theorem dX3_opens_21 : decode cX3_opens 21 = .ok (.arraylength, 1) := by decide +kernel
theorem dX3_opens_22 : decode cX3_opens 22 = .ok (.aload_n 0, 1) := by decide +kernel
theorem dX3_opens_23 : decode cX3_opens 23 = .ok (.getfield 19, 3) := by decide +kernel
theorem dX3_opens_26 : decode cX3_opens 26 = .ok (.isub, 1) := by decide +kernel
theorem dX3_opens_27 : decode cX3_opens 27 = .ok (.if_icmp .le 4, 3) := by decide +kernel
theorem dX3_opens_30 : decode cX3_opens 30 = .ok (.return_, 1) := by decide +kernel
theorem dX3_opens_31 : decode cX3_opens 31 = .ok (.aload_n 0, 1) := by decide +kernel
theorem dX3_opens_32 : decode cX3_opens 32 = .ok (.getfield 19, 3) := by decide +kernel
theorem dX3_opens_35 : decode cX3_opens 35 = .ok (.iconst 1, 1) := by decide +kernel
theorem dX3_opens_36 : decode cX3_opens 36 = .ok (.isub, 1) := by decide +kernel
theorem dX3_opens_37 : decode cX3_opens 37 = .ok (.istore_n 3, 1) := by decide +kernel
theorem dX3_opens_38 : decode cX3_opens 38 = .ok (.iload_n 3, 1) := by decide +kernel
theorem dX3_opens_39 : decode cX3_opens 39 = .ok (.iload_n 1, 1) := by decide +kernel
theorem dX3_opens_40 : decode cX3_opens 40 = .ok (.if_icmp .lt 23, 3) := by decide +kernel
theorem dX3_opens_43 : decode cX3_opens 43 = .ok (.aload_n 0, 1) := by decide +kernel
theorem dX3_opens_44 : decode cX3_opens 44 = .ok (.getfield 13, 3) := by decide +kernel
theorem dX3_opens_47 : decode cX3_opens 47 = .ok (.iload_n 3, 1) := by decide +kernel
theorem dX3_opens_48 : decode cX3_opens 48 = .ok (.iload_n 2, 1) := by decide +kernel
theorem dX3_opens_49 : decode cX3_opens 49 = .ok (.iadd, 1) := by decide +kernel
theorem dX3_opens_50 : decode cX3_opens 50 = .ok (.aload_n 0, 1) := by decide +kernel
theorem dX3_opens_51 : decode cX3_opens 51 = .ok (.getfield 13, 3) := by decide +kernel
theorem dX3_opens_54 : decode cX3_opens 54 = .ok (.iload_n 3, 1) := by decide +kernel
theorem dX3_opens_55 : decode cX3_opens 55 = .ok (.iaload, 1) := by decide +kernel
theorem dX3_opens_56 : decode cX3_opens 56 = .ok (.iastore, 1) := by decide +kernel
theorem dX3_opens_57 : decode cX3_opens 57 = .ok (.iinc 3 (-1), 3) := by decide +kernel
theorem dX3_opens_60 : decode cX3_opens 60 = .ok (.goto (-22), 3) := by decide +kernel
theorem dX3_opens_63 : decode cX3_opens 63 = .ok (.aload_n 0, 1) := by decide +kernel
theorem dX3_opens_64 : decode cX3_opens 64 = .ok (.dup, 1) := by decide +kernel
theorem dX3_opens_65 : decode cX3_opens 65 = .ok (.getfield 19, 3) := by decide +kernel
theorem dX3_opens_68 : decode cX3_opens 68 = .ok (.iload_n 2, 1) := by decide +kernel
theorem dX3_opens_69 : decode cX3_opens 69 = .ok (.iadd, 1) := by decide +kernel
theorem dX3_opens_70 : decode cX3_opens 70 = .ok (.putfield 19, 3) := by decide +kernel
theorem dX3_opens_73 : decode cX3_opens 73 = .ok (.return_, 1) := by decide +kernel
theorem dX3_closes_0 : decode cX3_closes 0 = .ok (.iload_n 1, 1) := by decide +kernel
theorem dX3_closes_1 : decode cX3_closes 1 = .ok (.ifCond .lt 25, 3) := by decide +kernel
theorem dX3_closes_4 : decode cX3_closes 4 = .ok (.iload_n 1, 1) := by decide +kernel
theorem dX3_closes_5 : decode cX3_closes 5 = .ok (.aload_n 0, 1) := by decide +kernel
theorem dX3_closes_6 : decode cX3_closes 6 = .ok (.getfield 19, 3) := by decide +kernel
theorem dX3_closes_9 : decode cX3_closes 9 = .ok (.if_icmp .gt 17, 3) := by decide +kernel
theorem dX3_closes_12 : decode cX3_closes 12 = .ok (.iload_n 2, 1) := by decide +kernel
theorem dX3_closes_13 : decode cX3_closes 13 = .ok (.ifCond .lt 13, 3) := by decide +kernel
theorem dX3_closes_16 : decode cX3_closes 16 = .ok (.iload_n 2, 1) := by decide +kernel
theorem dX3_closes_17 : decode cX3_closes 17 = .ok (.aload_n 0, 1) := by decide +kernel
theorem dX3_closes_18 : decode cX3_closes 18 = .ok (.getfield 19, 3) := by decide +kernel
theorem dX3_closes_21 : decode cX3_closes 21 = .ok (.iload_n 1, 1) := by decide +kernel
theorem dX3_closes_22 : decode cX3_closes 22 = .ok (.isub, 1) := by decide +kernel
theorem dX3_closes_23 : decode cX3_closes 23 = .ok (.if_icmp .le 4, 3) := by decide +kernel
theorem dX3_closes_26 : decode cX3_closes 26 = .ok (.return_, 1) := by decide +kernel
theorem dX3_closes_27 : decode cX3_closes 27 = .ok (.iload_n 1, 1) := by decide +kernel
theorem dX3_closes_28 : decode cX3_closes 28 = .ok (.iload_n 2, 1) := by decide +kernel
theorem dX3_closes_29 : decode cX3_closes 29 = .ok (.iadd, 1) := by decide +kernel
theorem dX3_closes_30 : decode cX3_closes 30 = .ok (.istore_n 3, 1) := by decide +kernel
theorem dX3_closes_31 : decode cX3_closes 31 = .ok (.iload_n 3, 1) := by decide +kernel
theorem dX3_closes_32 : decode cX3_closes 32 = .ok (.aload_n 0, 1) := by decide +kernel
theorem dX3_closes_33 : decode cX3_closes 33 = .ok (.getfield 19, 3) := by decide +kernel
theorem dX3_closes_36 : decode cX3_closes 36 = .ok (.if_icmp .ge 21, 3) := by decide +kernel
theorem dX3_closes_39 : decode cX3_closes 39 = .ok (.aload_n 0, 1) := by decide +kernel
theorem dX3_closes_40 : decode cX3_closes 40 = .ok (.iload_n 3, 1) := by decide +kernel
theorem dX3_closes_41 : decode cX3_closes 41 = .ok (.iload_n 2, 1) := by decide +kernel
theorem dX3_closes_42 : decode cX3_closes 42 = .ok (.isub, 1) := by decide +kernel
theorem dX3_closes_43 : decode cX3_closes 43 = .ok (.aload_n 0, 1) := by decide +kernel
theorem dX3_closes_44 : decode cX3_closes 44 = .ok (.iload_n 3, 1) := by decide +kernel
theorem dX3_closes_45 : decode cX3_closes 45 = .ok (.invokevirtual 26, 3) := by decide +kernel
theorem dX3_closes_48 : decode cX3_closes 48 = .ok (.invokevirtual 34, 3) := by decide +kernel
theorem dX3_closes_51 : decode cX3_closes 51 = .ok (.iinc 3 1, 3) := by decide +kernel
theorem dX3_closes_54 : decode cX3_closes 54 = .ok (.goto (-23), 3) := by decide +kernel
theorem dX3_closes_57 : decode cX3_closes 57 = .ok (.aload_n 0, 1) := by decide +kernel
theorem dX3_closes_58 : decode cX3_closes 58 = .ok (.dup, 1) := by decide +kernel
theorem dX3_closes_59 : decode cX3_closes 59 = .ok (.getfield 19, 3) := by decide +kernel
theorem dX3_closes_62 : decode cX3_closes 62 = .ok (.iload_n 2, 1) := by decide +kernel
theorem dX3_closes_63 : decode cX3_closes 63 = .ok (.isub, 1) := by decide +kernel
theorem dX3_closes_64 : decode cX3_closes 64 = .ok (.putfield 19, 3) := by decide +kernel
theorem dX3_closes_67 : decode cX3_closes 67 = .ok (.return_, 1) := by decide +kernel
theorem dX3_mixedInto_0 : decode cX3_mixedInto 0 = .ok (.iconst 0, 1) := by decide +kernel
theorem dX3_mixedInto_1 : decode cX3_mixedInto 1 = .ok (.istore_n 3, 1) := by decide +kernel
theorem dX3_mixedInto_2 : decode cX3_mixedInto 2 = .ok (.iload_n 3, 1) := by decide +kernel
theorem dX3_mixedInto_3 : decode cX3_mixedInto 3 = .ok (.aload_n 0, 1) := by decide +kernel
theorem dX3_mixedInto_4 : decode cX3_mixedInto 4 = .ok (.getfield 19, 3) := by decide +kernel
theorem dX3_mixedInto_7 : decode cX3_mixedInto 7 = .ok (.if_icmp .ge 22, 3) := by decide +kernel
theorem dX3_mixedInto_10 : decode cX3_mixedInto 10 = .ok (.ldc2_w 38, 3) := by decide +kernel
theorem dX3_mixedInto_13 : decode cX3_mixedInto 13 = .ok (.lload_n 1, 1) := by decide +kernel
theorem dX3_mixedInto_14 : decode cX3_mixedInto 14 = .ok (.lmul, 1) := by decide +kernel
theorem dX3_mixedInto_15 : decode cX3_mixedInto 15 = .ok (.aload_n 0, 1) := by decide +kernel
theorem dX3_mixedInto_16 : decode cX3_mixedInto 16 = .ok (.iload_n 3, 1) := by decide +kernel
theorem dX3_mixedInto_17 : decode cX3_mixedInto 17 = .ok (.invokevirtual 26, 3) := by decide +kernel
theorem dX3_mixedInto_20 : decode cX3_mixedInto 20 = .ok (.i2l, 1) := by decide +kernel
theorem dX3_mixedInto_21 : decode cX3_mixedInto 21 = .ok (.ladd, 1) := by decide +kernel
theorem dX3_mixedInto_22 : decode cX3_mixedInto 22 = .ok (.lstore_n 1, 1) := by decide +kernel
theorem dX3_mixedInto_23 : decode cX3_mixedInto 23 = .ok (.iinc 3 1, 3) := by decide +kernel
theorem dX3_mixedInto_26 : decode cX3_mixedInto 26 = .ok (.goto (-24), 3) := by decide +kernel
theorem dX3_mixedInto_29 : decode cX3_mixedInto 29 = .ok (.lload_n 1, 1) := by decide +kernel
theorem dX3_mixedInto_30 : decode cX3_mixedInto 30 = .ok (.lreturn, 1) := by decide +kernel
theorem dX4_init_0 : decode cX4_init 0 = .ok (.aload_n 0, 1) := by decide +kernel
theorem dX4_init_1 : decode cX4_init 1 = .ok (.invokespecial 3, 3) := by decide +kernel
theorem dX4_init_4 : decode cX4_init 4 = .ok (.aload_n 0, 1) := by decide +kernel
theorem dX4_init_5 : decode cX4_init 5 = .ok (.iconst 4, 1) := by decide +kernel
theorem dX4_init_6 : decode cX4_init 6 = .ok (.anewarray 9, 3) := by decide +kernel
theorem dX4_init_9 : decode cX4_init 9 = .ok (.putfield 11, 3) := by decide +kernel
theorem dX4_init_12 : decode cX4_init 12 = .ok (.iconst 0, 1) := by decide +kernel
theorem dX4_init_13 : decode cX4_init 13 = .ok (.istore_n 1, 1) := by decide +kernel
theorem dX4_init_14 : decode cX4_init 14 = .ok (.iload_n 1, 1) := by decide +kernel
theorem dX4_init_15 : decode cX4_init 15 = .ok (.aload_n 0, 1) := by decide +kernel
theorem dX4_init_16 : decode cX4_init 16 = .ok (.getfield 11, 3) := by decide +kernel
theorem dX4_init_19 : decode cX4_init 19 = .ok (.arraylength, 1) := by decide +kernel
theorem dX4_init_20 : decode cX4_init 20 = .ok (.if_icmp .ge 22, 3) := by decide +kernel
theorem dX4_init_23 : decode cX4_init 23 = .ok (.aload_n 0, 1) := by decide +kernel
theorem dX4_init_24 : decode cX4_init 24 = .ok (.getfield 11, 3) := by decide +kernel
theorem dX4_init_27 : decode cX4_init 27 = .ok (.iload_n 1, 1) := by decide +kernel
theorem dX4_init_28 : decode cX4_init 28 = .ok (.new 9, 3) := by decide +kernel
theorem dX4_init_31 : decode cX4_init 31 = .ok (.dup, 1) := by decide +kernel
theorem dX4_init_32 : decode cX4_init 32 = .ok (.invokespecial 17, 3) := by decide +kernel
theorem dX4_init_35 : decode cX4_init 35 = .ok (.aastore, 1) := by decide +kernel
theorem dX4_init_36 : decode cX4_init 36 = .ok (.iinc 1 1, 3) := by decide +kernel
theorem dX4_init_39 : decode cX4_init 39 = .ok (.goto (-25), 3) := by decide +kernel
theorem dX4_init_42 : decode cX4_init 42 = .ok (.return_, 1) := by decide +kernel
theorem dX4_size_0 : decode cX4_size 0 = .ok (.aload_n 0, 1) := by decide +kernel
theorem dX4_size_1 : decode cX4_size 1 = .ok (.getfield 18, 3) := by decide +kernel
theorem dX4_size_4 : decode cX4_size 4 = .ok (.ireturn, 1) := by decide +kernel
theorem dX4_empties_0 : decode cX4_empties 0 = .ok (.aload_n 0, 1) := by decide +kernel
theorem dX4_empties_1 : decode cX4_empties 1 = .ok (.iconst 0, 1) := by decide +kernel
theorem dX4_empties_2 : decode cX4_empties 2 = .ok (.putfield 18, 3) := by decide +kernel
theorem dX4_empties_5 : decode cX4_empties 5 = .ok (.return_, 1) := by decide +kernel
theorem dX4_slot_0 : decode cX4_slot 0 = .ok (.iload_n 1, 1) := by decide +kernel
theorem dX4_slot_1 : decode cX4_slot 1 = .ok (.ifCond .lt 21, 3) := by decide +kernel
theorem dX4_slot_4 : decode cX4_slot 4 = .ok (.iload_n 1, 1) := by decide +kernel
theorem dX4_slot_5 : decode cX4_slot 5 = .ok (.aload_n 0, 1) := by decide +kernel
theorem dX4_slot_6 : decode cX4_slot 6 = .ok (.getfield 11, 3) := by decide +kernel
theorem dX4_slot_9 : decode cX4_slot 9 = .ok (.arraylength, 1) := by decide +kernel
theorem dX4_slot_10 : decode cX4_slot 10 = .ok (.if_icmp .ge 12, 3) := by decide +kernel
theorem dX4_slot_13 : decode cX4_slot 13 = .ok (.aload_n 0, 1) := by decide +kernel
theorem dX4_slot_14 : decode cX4_slot 14 = .ok (.getfield 11, 3) := by decide +kernel
theorem dX4_slot_17 : decode cX4_slot 17 = .ok (.iload_n 1, 1) := by decide +kernel
theorem dX4_slot_18 : decode cX4_slot 18 = .ok (.aaload, 1) := by decide +kernel
theorem dX4_slot_19 : decode cX4_slot 19 = .ok (.goto 4, 3) := by decide +kernel
theorem dX4_slot_22 : decode cX4_slot 22 = .ok (.aconst_null, 1) := by decide +kernel
theorem dX4_slot_23 : decode cX4_slot 23 = .ok (.areturn, 1) := by decide +kernel
theorem dX4_touches_0 : decode cX4_touches 0 = .ok (.iconst 0, 1) := by decide +kernel
theorem dX4_touches_1 : decode cX4_touches 1 = .ok (.istore_n 3, 1) := by decide +kernel
theorem dX4_touches_2 : decode cX4_touches 2 = .ok (.iload_n 3, 1) := by decide +kernel
theorem dX4_touches_3 : decode cX4_touches 3 = .ok (.aload_n 0, 1) := by decide +kernel
theorem dX4_touches_4 : decode cX4_touches 4 = .ok (.getfield 18, 3) := by decide +kernel
theorem dX4_touches_7 : decode cX4_touches 7 = .ok (.if_icmp .ge 33, 3) := by decide +kernel
theorem dX4_touches_10 : decode cX4_touches 10 = .ok (.aload_n 0, 1) := by decide +kernel
theorem dX4_touches_11 : decode cX4_touches 11 = .ok (.iload_n 3, 1) := by decide +kernel
theorem dX4_touches_12 : decode cX4_touches 12 = .ok (.invokevirtual 22, 3) := by decide +kernel
theorem dX4_touches_15 : decode cX4_touches 15 = .ok (.astore 4, 2) := by decide +kernel
theorem dX4_touches_17 : decode cX4_touches 17 = .ok (.aload 4, 2) := by decide +kernel
theorem dX4_touches_19 : decode cX4_touches 19 = .ok (.ifnull 15, 3) := by decide +kernel
theorem dX4_touches_22 : decode cX4_touches 22 = .ok (.aload 4, 2) := by decide +kernel
theorem dX4_touches_24 : decode cX4_touches 24 = .ok (.iload_n 1, 1) := by decide +kernel
theorem dX4_touches_25 : decode cX4_touches 25 = .ok (.iload_n 2, 1) := by decide +kernel
theorem dX4_touches_26 : decode cX4_touches 26 = .ok (.invokevirtual 26, 3) := by decide +kernel
theorem dX4_touches_29 : decode cX4_touches 29 = .ok (.ifCond .eq 5, 3) := by decide +kernel
theorem dX4_touches_32 : decode cX4_touches 32 = .ok (.iconst 1, 1) := by decide +kernel
theorem dX4_touches_33 : decode cX4_touches 33 = .ok (.ireturn, 1) := by decide +kernel
theorem dX4_touches_34 : decode cX4_touches 34 = .ok (.iinc 3 1, 3) := by decide +kernel
theorem dX4_touches_37 : decode cX4_touches 37 = .ok (.goto (-35), 3) := by decide +kernel
theorem dX4_touches_40 : decode cX4_touches 40 = .ok (.iconst 0, 1) := by decide +kernel
theorem dX4_touches_41 : decode cX4_touches 41 = .ok (.ireturn, 1) := by decide +kernel
theorem dX4_growth_0 : decode cX4_growth 0 = .ok (.iconst 0, 1) := by decide +kernel
theorem dX4_growth_1 : decode cX4_growth 1 = .ok (.istore_n 1, 1) := by decide +kernel
theorem dX4_growth_2 : decode cX4_growth 2 = .ok (.iconst 0, 1) := by decide +kernel
theorem dX4_growth_3 : decode cX4_growth 3 = .ok (.istore_n 2, 1) := by decide +kernel
theorem dX4_growth_4 : decode cX4_growth 4 = .ok (.iload_n 2, 1) := by decide +kernel
theorem dX4_growth_5 : decode cX4_growth 5 = .ok (.aload_n 0, 1) := by decide +kernel
theorem dX4_growth_6 : decode cX4_growth 6 = .ok (.getfield 18, 3) := by decide +kernel
theorem dX4_growth_9 : decode cX4_growth 9 = .ok (.if_icmp .ge 30, 3) := by decide +kernel
theorem dX4_growth_12 : decode cX4_growth 12 = .ok (.aload_n 0, 1) := by decide +kernel
theorem dX4_growth_13 : decode cX4_growth 13 = .ok (.iload_n 2, 1) := by decide +kernel
theorem dX4_growth_14 : decode cX4_growth 14 = .ok (.invokevirtual 22, 3) := by decide +kernel
theorem dX4_growth_17 : decode cX4_growth 17 = .ok (.astore_n 3, 1) := by decide +kernel
theorem dX4_growth_18 : decode cX4_growth 18 = .ok (.iload_n 1, 1) := by decide +kernel
theorem dX4_growth_19 : decode cX4_growth 19 = .ok (.aload_n 3, 1) := by decide +kernel
theorem dX4_growth_20 : decode cX4_growth 20 = .ok (.ifnonnull 7, 3) := by decide +kernel
theorem dX4_growth_23 : decode cX4_growth 23 = .ok (.iconst 0, 1) := by decide +kernel
theorem dX4_growth_24 : decode cX4_growth 24 = .ok (.goto 7, 3) := by decide +kernel
theorem dX4_growth_27 : decode cX4_growth 27 = .ok (.aload_n 3, 1) := by decide +kernel
theorem dX4_growth_28 : decode cX4_growth 28 = .ok (.invokevirtual 30, 3) := by decide +kernel
theorem dX4_growth_31 : decode cX4_growth 31 = .ok (.iadd, 1) := by decide +kernel
theorem dX4_growth_32 : decode cX4_growth 32 = .ok (.istore_n 1, 1) := by decide +kernel
theorem dX4_growth_33 : decode cX4_growth 33 = .ok (.iinc 2 1, 3) := by decide +kernel
theorem dX4_growth_36 : decode cX4_growth 36 = .ok (.goto (-32), 3) := by decide +kernel
theorem dX4_growth_39 : decode cX4_growth 39 = .ok (.iload_n 1, 1) := by decide +kernel
theorem dX4_growth_40 : decode cX4_growth 40 = .ok (.ireturn, 1) := by decide +kernel
theorem dX4_adds_0 : decode cX4_adds 0 = .ok (.aload_n 0, 1) := by decide +kernel
theorem dX4_adds_1 : decode cX4_adds 1 = .ok (.aload_n 0, 1) := by decide +kernel
theorem dX4_adds_2 : decode cX4_adds 2 = .ok (.getfield 18, 3) := by decide +kernel
theorem dX4_adds_5 : decode cX4_adds 5 = .ok (.invokevirtual 22, 3) := by decide +kernel
theorem dX4_adds_8 : decode cX4_adds 8 = .ok (.astore 4, 2) := by decide +kernel
theorem dX4_adds_10 : decode cX4_adds 10 = .ok (.aload 4, 2) := by decide +kernel
theorem dX4_adds_12 : decode cX4_adds 12 = .ok (.ifnonnull 4, 3) := by decide +kernel
theorem dX4_adds_15 : decode cX4_adds 15 = .ok (.return_, 1) := by decide +kernel
theorem dX4_adds_16 : decode cX4_adds 16 = .ok (.aload 4, 2) := by decide +kernel
theorem dX4_adds_18 : decode cX4_adds 18 = .ok (.iload_n 1, 1) := by decide +kernel
theorem dX4_adds_19 : decode cX4_adds 19 = .ok (.iload_n 2, 1) := by decide +kernel
theorem dX4_adds_20 : decode cX4_adds 20 = .ok (.aload_n 3, 1) := by decide +kernel
theorem dX4_adds_21 : decode cX4_adds 21 = .ok (.invokevirtual 34, 3) := by decide +kernel
theorem dX4_adds_24 : decode cX4_adds 24 = .ok (.aload_n 0, 1) := by decide +kernel
theorem dX4_adds_25 : decode cX4_adds 25 = .ok (.getfield 18, 3) := by decide +kernel
theorem dX4_adds_28 : decode cX4_adds 28 = .ok (.istore 5, 2) := by decide +kernel
theorem dX4_adds_30 : decode cX4_adds 30 = .ok (.iload 5, 2) := by decide +kernel
theorem dX4_adds_32 : decode cX4_adds 32 = .ok (.ifCond .le 46, 3) := by decide +kernel
theorem dX4_adds_35 : decode cX4_adds 35 = .ok (.iload 5, 2) := by decide +kernel
theorem dX4_adds_37 : decode cX4_adds 37 = .ok (.aload_n 0, 1) := by decide +kernel
theorem dX4_adds_38 : decode cX4_adds 38 = .ok (.getfield 11, 3) := by decide +kernel
theorem dX4_adds_41 : decode cX4_adds 41 = .ok (.arraylength, 1) := by decide +kernel
theorem dX4_adds_42 : decode cX4_adds 42 = .ok (.if_icmp .ge 36, 3) := by decide +kernel
theorem dX4_adds_45 : decode cX4_adds 45 = .ok (.aload_n 0, 1) := by decide +kernel
theorem dX4_adds_46 : decode cX4_adds 46 = .ok (.iload 5, 2) := by decide +kernel
theorem dX4_adds_48 : decode cX4_adds 48 = .ok (.iconst 1, 1) := by decide +kernel
theorem dX4_adds_49 : decode cX4_adds 49 = .ok (.isub, 1) := by decide +kernel
theorem dX4_adds_50 : decode cX4_adds 50 = .ok (.iload_n 1, 1) := by decide +kernel
theorem dX4_adds_51 : decode cX4_adds 51 = .ok (.invokevirtual 38, 3) := by decide +kernel
theorem dX4_adds_54 : decode cX4_adds 54 = .ok (.ifCond .eq 24, 3) := by decide +kernel
theorem dX4_adds_57 : decode cX4_adds 57 = .ok (.aload_n 0, 1) := by decide +kernel
theorem dX4_adds_58 : decode cX4_adds 58 = .ok (.getfield 11, 3) := by decide +kernel
theorem dX4_adds_61 : decode cX4_adds 61 = .ok (.iload 5, 2) := by decide +kernel
theorem dX4_adds_63 : decode cX4_adds 63 = .ok (.aload_n 0, 1) := by decide +kernel
theorem dX4_adds_64 : decode cX4_adds 64 = .ok (.iload 5, 2) := by decide +kernel
theorem dX4_adds_66 : decode cX4_adds 66 = .ok (.iconst 1, 1) := by decide +kernel
theorem dX4_adds_67 : decode cX4_adds 67 = .ok (.isub, 1) := by decide +kernel
theorem dX4_adds_68 : decode cX4_adds 68 = .ok (.invokevirtual 22, 3) := by decide +kernel
theorem dX4_adds_71 : decode cX4_adds 71 = .ok (.aastore, 1) := by decide +kernel
theorem dX4_adds_72 : decode cX4_adds 72 = .ok (.iinc 5 (-1), 3) := by decide +kernel
theorem dX4_adds_75 : decode cX4_adds 75 = .ok (.goto (-45), 3) := by decide +kernel
theorem dX4_adds_78 : decode cX4_adds 78 = .ok (.iload 5, 2) := by decide +kernel
theorem dX4_adds_80 : decode cX4_adds 80 = .ok (.ifCond .lt 22, 3) := by decide +kernel
theorem dX4_adds_83 : decode cX4_adds 83 = .ok (.iload 5, 2) := by decide +kernel
theorem dX4_adds_85 : decode cX4_adds 85 = .ok (.aload_n 0, 1) := by decide +kernel
theorem dX4_adds_86 : decode cX4_adds 86 = .ok (.getfield 11, 3) := by decide +kernel
theorem dX4_adds_89 : decode cX4_adds 89 = .ok (.arraylength, 1) := by decide +kernel
theorem dX4_adds_90 : decode cX4_adds 90 = .ok (.if_icmp .ge 12, 3) := by decide +kernel
theorem dX4_adds_93 : decode cX4_adds 93 = .ok (.aload_n 0, 1) := by decide +kernel
theorem dX4_adds_94 : decode cX4_adds 94 = .ok (.getfield 11, 3) := by decide +kernel
theorem dX4_adds_97 : decode cX4_adds 97 = .ok (.iload 5, 2) := by decide +kernel
theorem dX4_adds_99 : decode cX4_adds 99 = .ok (.aload 4, 2) := by decide +kernel
theorem dX4_adds_101 : decode cX4_adds 101 = .ok (.aastore, 1) := by decide +kernel
theorem dX4_adds_102 : decode cX4_adds 102 = .ok (.aload_n 0, 1) := by decide +kernel
theorem dX4_adds_103 : decode cX4_adds 103 = .ok (.dup, 1) := by decide +kernel
theorem dX4_adds_104 : decode cX4_adds 104 = .ok (.getfield 18, 3) := by decide +kernel
theorem dX4_adds_107 : decode cX4_adds 107 = .ok (.iconst 1, 1) := by decide +kernel
theorem dX4_adds_108 : decode cX4_adds 108 = .ok (.iadd, 1) := by decide +kernel
theorem dX4_adds_109 : decode cX4_adds 109 = .ok (.putfield 18, 3) := by decide +kernel
theorem dX4_adds_112 : decode cX4_adds 112 = .ok (.return_, 1) := by decide +kernel
theorem dX4_isBehind_0 : decode cX4_isBehind 0 = .ok (.aload_n 0, 1) := by decide +kernel
theorem dX4_isBehind_1 : decode cX4_isBehind 1 = .ok (.iload_n 1, 1) := by decide +kernel
theorem dX4_isBehind_2 : decode cX4_isBehind 2 = .ok (.invokevirtual 22, 3) := by decide +kernel
theorem dX4_isBehind_5 : decode cX4_isBehind 5 = .ok (.astore_n 3, 1) := by decide +kernel
theorem dX4_isBehind_6 : decode cX4_isBehind 6 = .ok (.aload_n 3, 1) := by decide +kernel
theorem dX4_isBehind_7 : decode cX4_isBehind 7 = .ok (.ifnull 15, 3) := by decide +kernel
theorem dX4_isBehind_10 : decode cX4_isBehind 10 = .ok (.aload_n 3, 1) := by decide +kernel
theorem dX4_isBehind_11 : decode cX4_isBehind 11 = .ok (.iload_n 2, 1) := by decide +kernel
theorem dX4_isBehind_12 : decode cX4_isBehind 12 = .ok (.invokevirtual 41, 3) := by decide +kernel
theorem dX4_isBehind_15 : decode cX4_isBehind 15 = .ok (.ifCond .eq 7, 3) := by decide +kernel
theorem dX4_isBehind_18 : decode cX4_isBehind 18 = .ok (.iconst 1, 1) := by decide +kernel
theorem dX4_isBehind_19 : decode cX4_isBehind 19 = .ok (.goto 4, 3) := by decide +kernel
theorem dX4_isBehind_22 : decode cX4_isBehind 22 = .ok (.iconst 0, 1) := by decide +kernel
theorem dX4_isBehind_23 : decode cX4_isBehind 23 = .ok (.ireturn, 1) := by decide +kernel
theorem dX4_changesAll_0 : decode cX4_changesAll 0 = .ok (.aload_n 0, 1) := by decide +kernel
theorem dX4_changesAll_1 : decode cX4_changesAll 1 = .ok (.getfield 18, 3) := by decide +kernel
theorem dX4_changesAll_4 : decode cX4_changesAll 4 = .ok (.iconst 1, 1) := by decide +kernel
theorem dX4_changesAll_5 : decode cX4_changesAll 5 = .ok (.isub, 1) := by decide +kernel
theorem dX4_changesAll_6 : decode cX4_changesAll 6 = .ok (.istore_n 2, 1) := by decide +kernel
theorem dX4_changesAll_7 : decode cX4_changesAll 7 = .ok (.iload_n 2, 1) := by decide +kernel
theorem dX4_changesAll_8 : decode cX4_changesAll 8 = .ok (.ifCond .lt 35, 3) := by decide +kernel
theorem dX4_changesAll_11 : decode cX4_changesAll 11 = .ok (.aload_n 0, 1) := by decide +kernel
theorem dX4_changesAll_12 : decode cX4_changesAll 12 = .ok (.iload_n 2, 1) := by decide +kernel
theorem dX4_changesAll_13 : decode cX4_changesAll 13 = .ok (.invokevirtual 22, 3) := by decide +kernel
theorem dX4_changesAll_16 : decode cX4_changesAll 16 = .ok (.astore_n 3, 1) := by decide +kernel
theorem dX4_changesAll_17 : decode cX4_changesAll 17 = .ok (.aload_n 3, 1) := by decide +kernel
theorem dX4_changesAll_18 : decode cX4_changesAll 18 = .ok (.ifnull 19, 3) := by decide +kernel
theorem dX4_changesAll_21 : decode cX4_changesAll 21 = .ok (.aload_n 1, 1) := by decide +kernel
theorem dX4_changesAll_22 : decode cX4_changesAll 22 = .ok (.aload_n 3, 1) := by decide +kernel
theorem dX4_changesAll_23 : decode cX4_changesAll 23 = .ok (.getfield 45, 3) := by decide +kernel
theorem dX4_changesAll_26 : decode cX4_changesAll 26 = .ok (.aload_n 3, 1) := by decide +kernel
theorem dX4_changesAll_27 : decode cX4_changesAll 27 = .ok (.getfield 48, 3) := by decide +kernel
theorem dX4_changesAll_30 : decode cX4_changesAll 30 = .ok (.aload_n 3, 1) := by decide +kernel
theorem dX4_changesAll_31 : decode cX4_changesAll 31 = .ok (.getfield 51, 3) := by decide +kernel
theorem dX4_changesAll_34 : decode cX4_changesAll 34 = .ok (.invokevirtual 55, 3) := by decide +kernel
theorem dX4_changesAll_37 : decode cX4_changesAll 37 = .ok (.iinc 2 (-1), 3) := by decide +kernel
theorem dX4_changesAll_40 : decode cX4_changesAll 40 = .ok (.goto (-33), 3) := by decide +kernel
theorem dX4_changesAll_43 : decode cX4_changesAll 43 = .ok (.return_, 1) := by decide +kernel
theorem dJ9_max_7cf53_0 : decode cJ9_max_7cf53 0 = .ok (.iload_n 0, 1) := by decide +kernel
theorem dJ9_max_7cf53_1 : decode cJ9_max_7cf53 1 = .ok (.iload_n 1, 1) := by decide +kernel
theorem dJ9_max_7cf53_2 : decode cJ9_max_7cf53 2 = .ok (.if_icmp .lt 7, 3) := by decide +kernel
theorem dJ9_max_7cf53_5 : decode cJ9_max_7cf53 5 = .ok (.iload_n 0, 1) := by decide +kernel
theorem dJ9_max_7cf53_6 : decode cJ9_max_7cf53 6 = .ok (.goto 4, 3) := by decide +kernel
theorem dJ9_max_7cf53_9 : decode cJ9_max_7cf53 9 = .ok (.iload_n 1, 1) := by decide +kernel
theorem dJ9_max_7cf53_10 : decode cJ9_max_7cf53 10 = .ok (.ireturn, 1) := by decide +kernel
theorem dJ9_min_7cf53_0 : decode cJ9_min_7cf53 0 = .ok (.iload_n 0, 1) := by decide +kernel
theorem dJ9_min_7cf53_1 : decode cJ9_min_7cf53 1 = .ok (.iload_n 1, 1) := by decide +kernel
theorem dJ9_min_7cf53_2 : decode cJ9_min_7cf53 2 = .ok (.if_icmp .gt 7, 3) := by decide +kernel
theorem dJ9_min_7cf53_5 : decode cJ9_min_7cf53 5 = .ok (.iload_n 0, 1) := by decide +kernel
theorem dJ9_min_7cf53_6 : decode cJ9_min_7cf53 6 = .ok (.goto 4, 3) := by decide +kernel
theorem dJ9_min_7cf53_9 : decode cJ9_min_7cf53 9 = .ok (.iload_n 1, 1) := by decide +kernel
theorem dJ9_min_7cf53_10 : decode cJ9_min_7cf53 10 = .ok (.ireturn, 1) := by decide +kernel
end
section
theorem dX2_init_0 : decode cX2_init 0 = .ok (.aload_n 0, 1) := by decide +kernel
theorem dX2_init_1 : decode cX2_init 1 = .ok (.invokespecial 3, 3) := by decide +kernel
theorem dX2_init_4 : decode cX2_init 4 = .ok (.aload_n 0, 1) := by decide +kernel
theorem dX2_init_5 : decode cX2_init 5 = .ok (.new 9, 3) := by decide +kernel
theorem dX2_init_8 : decode cX2_init 8 = .ok (.dup, 1) := by decide +kernel
theorem dX2_init_9 : decode cX2_init 9 = .ok (.bipush 26, 2) := by decide +kernel
theorem dX2_init_11 : decode cX2_init 11 = .ok (.invokespecial 11, 3) := by decide +kernel
theorem dX2_init_14 : decode cX2_init 14 = .ok (.putfield 14, 3) := by decide +kernel
theorem dX2_init_17 : decode cX2_init 17 = .ok (.aload_n 0, 1) := by decide +kernel
theorem dX2_init_18 : decode cX2_init 18 = .ok (.new 9, 3) := by decide +kernel
theorem dX2_init_21 : decode cX2_init 21 = .ok (.dup, 1) := by decide +kernel
theorem dX2_init_22 : decode cX2_init 22 = .ok (.iload_n 1, 1) := by decide +kernel
theorem dX2_init_23 : decode cX2_init 23 = .ok (.invokespecial 11, 3) := by decide +kernel
theorem dX2_init_26 : decode cX2_init 26 = .ok (.putfield 20, 3) := by decide +kernel
theorem dX2_init_29 : decode cX2_init 29 = .ok (.aload_n 0, 1) := by decide +kernel
theorem dX2_init_30 : decode cX2_init 30 = .ok (.new 9, 3) := by decide +kernel
theorem dX2_init_33 : decode cX2_init 33 = .ok (.dup, 1) := by decide +kernel
theorem dX2_init_34 : decode cX2_init 34 = .ok (.iload_n 1, 1) := by decide +kernel
theorem dX2_init_35 : decode cX2_init 35 = .ok (.invokespecial 11, 3) := by decide +kernel
theorem dX2_init_38 : decode cX2_init 38 = .ok (.putfield 23, 3) := by decide +kernel
theorem dX2_init_41 : decode cX2_init 41 = .ok (.iconst 0, 1) := by decide +kernel
theorem dX2_init_42 : decode cX2_init 42 = .ok (.istore_n 2, 1) := by decide +kernel
theorem dX2_init_43 : decode cX2_init 43 = .ok (.iload_n 2, 1) := by decide +kernel
theorem dX2_init_44 : decode cX2_init 44 = .ok (.bipush 26, 2) := by decide +kernel
theorem dX2_init_46 : decode cX2_init 46 = .ok (.if_icmp .ge 18, 3) := by decide +kernel
theorem dX2_init_49 : decode cX2_init 49 = .ok (.aload_n 0, 1) := by decide +kernel
theorem dX2_init_50 : decode cX2_init 50 = .ok (.getfield 14, 3) := by decide +kernel
theorem dX2_init_53 : decode cX2_init 53 = .ok (.bipush (-9), 2) := by decide +kernel
theorem dX2_init_55 : decode cX2_init 55 = .ok (.invokevirtual 26, 3) := by decide +kernel
theorem dX2_init_58 : decode cX2_init 58 = .ok (.iinc 2 1, 3) := by decide +kernel
theorem dX2_init_61 : decode cX2_init 61 = .ok (.goto (-18), 3) := by decide +kernel
theorem dX2_init_64 : decode cX2_init 64 = .ok (.return_, 1) := by decide +kernel
theorem dX2_becomes_0 : decode cX2_becomes 0 = .ok (.aload_n 0, 1) := by decide +kernel
theorem dX2_becomes_1 : decode cX2_becomes 1 = .ok (.getfield 20, 3) := by decide +kernel
theorem dX2_becomes_4 : decode cX2_becomes 4 = .ok (.aload_n 1, 1) := by decide +kernel
theorem dX2_becomes_5 : decode cX2_becomes 5 = .ok (.getfield 20, 3) := by decide +kernel
theorem dX2_becomes_8 : decode cX2_becomes 8 = .ok (.invokevirtual 29, 3) := by decide +kernel
theorem dX2_becomes_11 : decode cX2_becomes 11 = .ok (.aload_n 0, 1) := by decide +kernel
theorem dX2_becomes_12 : decode cX2_becomes 12 = .ok (.getfield 23, 3) := by decide +kernel
theorem dX2_becomes_15 : decode cX2_becomes 15 = .ok (.aload_n 1, 1) := by decide +kernel
theorem dX2_becomes_16 : decode cX2_becomes 16 = .ok (.getfield 23, 3) := by decide +kernel
theorem dX2_becomes_19 : decode cX2_becomes 19 = .ok (.invokevirtual 29, 3) := by decide +kernel
theorem dX2_becomes_22 : decode cX2_becomes 22 = .ok (.aload_n 0, 1) := by decide +kernel
theorem dX2_becomes_23 : decode cX2_becomes 23 = .ok (.getfield 14, 3) := by decide +kernel
theorem dX2_becomes_26 : decode cX2_becomes 26 = .ok (.aload_n 1, 1) := by decide +kernel
theorem dX2_becomes_27 : decode cX2_becomes 27 = .ok (.getfield 14, 3) := by decide +kernel
theorem dX2_becomes_30 : decode cX2_becomes 30 = .ok (.invokevirtual 29, 3) := by decide +kernel
theorem dX2_becomes_33 : decode cX2_becomes 33 = .ok (.aload_n 0, 1) := by decide +kernel
theorem dX2_becomes_34 : decode cX2_becomes 34 = .ok (.aload_n 1, 1) := by decide +kernel
theorem dX2_becomes_35 : decode cX2_becomes 35 = .ok (.getfield 33, 3) := by decide +kernel
theorem dX2_becomes_38 : decode cX2_becomes 38 = .ok (.putfield 33, 3) := by decide +kernel
theorem dX2_becomes_41 : decode cX2_becomes 41 = .ok (.return_, 1) := by decide +kernel
theorem dX2_replaces_0 : decode cX2_replaces 0 = .ok (.aload_n 0, 1) := by decide +kernel
theorem dX2_replaces_1 : decode cX2_replaces 1 = .ok (.iload_n 1, 1) := by decide +kernel
theorem dX2_replaces_2 : decode cX2_replaces 2 = .ok (.iload_n 2, 1) := by decide +kernel
theorem dX2_replaces_3 : decode cX2_replaces 3 = .ok (.invokevirtual 37, 3) := by decide +kernel
theorem dX2_replaces_6 : decode cX2_replaces 6 = .ok (.aload_n 0, 1) := by decide +kernel
theorem dX2_replaces_7 : decode cX2_replaces 7 = .ok (.iload_n 1, 1) := by decide +kernel
theorem dX2_replaces_8 : decode cX2_replaces 8 = .ok (.aload_n 3, 1) := by decide +kernel
theorem dX2_replaces_9 : decode cX2_replaces 9 = .ok (.invokevirtual 41, 3) := by decide +kernel
theorem dX2_replaces_12 : decode cX2_replaces 12 = .ok (.return_, 1) := by decide +kernel
theorem dX2_takesOut_0 : decode cX2_takesOut 0 = .ok (.iload_n 2, 1) := by decide +kernel
theorem dX2_takesOut_1 : decode cX2_takesOut 1 = .ok (.ifCond .gt 4, 3) := by decide +kernel
theorem dX2_takesOut_4 : decode cX2_takesOut 4 = .ok (.return_, 1) := by decide +kernel
theorem dX2_takesOut_5 : decode cX2_takesOut 5 = .ok (.aload_n 0, 1) := by decide +kernel
theorem dX2_takesOut_6 : decode cX2_takesOut 6 = .ok (.getfield 20, 3) := by decide +kernel
theorem dX2_takesOut_9 : decode cX2_takesOut 9 = .ok (.iload_n 1, 1) := by decide +kernel
theorem dX2_takesOut_10 : decode cX2_takesOut 10 = .ok (.iload_n 2, 1) := by decide +kernel
theorem dX2_takesOut_11 : decode cX2_takesOut 11 = .ok (.invokevirtual 45, 3) := by decide +kernel
theorem dX2_takesOut_14 : decode cX2_takesOut 14 = .ok (.aload_n 0, 1) := by decide +kernel
theorem dX2_takesOut_15 : decode cX2_takesOut 15 = .ok (.iload_n 1, 1) := by decide +kernel
theorem dX2_takesOut_16 : decode cX2_takesOut 16 = .ok (.iload_n 2, 1) := by decide +kernel
theorem dX2_takesOut_17 : decode cX2_takesOut 17 = .ok (.invokevirtual 48, 3) := by decide +kernel
theorem dX2_takesOut_20 : decode cX2_takesOut 20 = .ok (.aload_n 0, 1) := by decide +kernel
theorem dX2_takesOut_21 : decode cX2_takesOut 21 = .ok (.iload_n 1, 1) := by decide +kernel
theorem dX2_takesOut_22 : decode cX2_takesOut 22 = .ok (.invokevirtual 51, 3) := by decide +kernel
theorem dX2_takesOut_25 : decode cX2_takesOut 25 = .ok (.iconst 0, 1) := by decide +kernel
theorem dX2_takesOut_26 : decode cX2_takesOut 26 = .ok (.istore_n 3, 1) := by decide +kernel
theorem dX2_takesOut_27 : decode cX2_takesOut 27 = .ok (.iload_n 3, 1) := by decide +kernel
theorem dX2_takesOut_28 : decode cX2_takesOut 28 = .ok (.bipush 26, 2) := by decide +kernel
theorem dX2_takesOut_30 : decode cX2_takesOut 30 = .ok (.if_icmp .ge 30, 3) := by decide +kernel
theorem dX2_takesOut_33 : decode cX2_takesOut 33 = .ok (.aload_n 0, 1) := by decide +kernel
theorem dX2_takesOut_34 : decode cX2_takesOut 34 = .ok (.getfield 14, 3) := by decide +kernel
theorem dX2_takesOut_37 : decode cX2_takesOut 37 = .ok (.iload_n 3, 1) := by decide +kernel
theorem dX2_takesOut_38 : decode cX2_takesOut 38 = .ok (.aload_n 0, 1) := by decide +kernel
theorem dX2_takesOut_39 : decode cX2_takesOut 39 = .ok (.getfield 14, 3) := by decide +kernel
theorem dX2_takesOut_42 : decode cX2_takesOut 42 = .ok (.iload_n 3, 1) := by decide +kernel
theorem dX2_takesOut_43 : decode cX2_takesOut 43 = .ok (.invokevirtual 54, 3) := by decide +kernel
theorem dX2_takesOut_46 : decode cX2_takesOut 46 = .ok (.iload_n 1, 1) := by decide +kernel
theorem dX2_takesOut_47 : decode cX2_takesOut 47 = .ok (.iload_n 2, 1) := by decide +kernel
theorem dX2_takesOut_48 : decode cX2_takesOut 48 = .ok (.invokestatic 58, 3) := by decide +kernel
theorem dX2_takesOut_51 : decode cX2_takesOut 51 = .ok (.invokevirtual 62, 3) := by decide +kernel
theorem dX2_takesOut_54 : decode cX2_takesOut 54 = .ok (.iinc 3 1, 3) := by decide +kernel
theorem dX2_takesOut_57 : decode cX2_takesOut 57 = .ok (.goto (-30), 3) := by decide +kernel
theorem dX2_takesOut_60 : decode cX2_takesOut 60 = .ok (.aload_n 0, 1) := by decide +kernel
theorem dX2_takesOut_61 : decode cX2_takesOut 61 = .ok (.aload_n 0, 1) := by decide +kernel
theorem dX2_takesOut_62 : decode cX2_takesOut 62 = .ok (.getfield 33, 3) := by decide +kernel
theorem dX2_takesOut_65 : decode cX2_takesOut 65 = .ok (.iload_n 1, 1) := by decide +kernel
theorem dX2_takesOut_66 : decode cX2_takesOut 66 = .ok (.iload_n 2, 1) := by decide +kernel
theorem dX2_takesOut_67 : decode cX2_takesOut 67 = .ok (.invokestatic 58, 3) := by decide +kernel
theorem dX2_takesOut_70 : decode cX2_takesOut 70 = .ok (.putfield 33, 3) := by decide +kernel
theorem dX2_takesOut_73 : decode cX2_takesOut 73 = .ok (.return_, 1) := by decide +kernel
theorem dX2_putsIn_0 : decode cX2_putsIn 0 = .ok (.aload_n 2, 1) := by decide +kernel
theorem dX2_putsIn_1 : decode cX2_putsIn 1 = .ok (.invokevirtual 65, 3) := by decide +kernel
theorem dX2_putsIn_4 : decode cX2_putsIn 4 = .ok (.istore_n 3, 1) := by decide +kernel
theorem dX2_putsIn_5 : decode cX2_putsIn 5 = .ok (.iload_n 3, 1) := by decide +kernel
theorem dX2_putsIn_6 : decode cX2_putsIn 6 = .ok (.ifCond .ne 4, 3) := by decide +kernel
theorem dX2_putsIn_9 : decode cX2_putsIn 9 = .ok (.return_, 1) := by decide +kernel
theorem dX2_putsIn_10 : decode cX2_putsIn 10 = .ok (.aload_n 0, 1) := by decide +kernel
theorem dX2_putsIn_11 : decode cX2_putsIn 11 = .ok (.getfield 20, 3) := by decide +kernel
theorem dX2_putsIn_14 : decode cX2_putsIn 14 = .ok (.iload_n 1, 1) := by decide +kernel
theorem dX2_putsIn_15 : decode cX2_putsIn 15 = .ok (.iload_n 3, 1) := by decide +kernel
theorem dX2_putsIn_16 : decode cX2_putsIn 16 = .ok (.invokevirtual 69, 3) := by decide +kernel
theorem dX2_putsIn_19 : decode cX2_putsIn 19 = .ok (.iconst 0, 1) := by decide +kernel
theorem dX2_putsIn_20 : decode cX2_putsIn 20 = .ok (.istore 4, 2) := by decide +kernel
theorem dX2_putsIn_22 : decode cX2_putsIn 22 = .ok (.iload 4, 2) := by decide +kernel
theorem dX2_putsIn_24 : decode cX2_putsIn 24 = .ok (.iload_n 3, 1) := by decide +kernel
theorem dX2_putsIn_25 : decode cX2_putsIn 25 = .ok (.if_icmp .ge 26, 3) := by decide +kernel
theorem dX2_putsIn_28 : decode cX2_putsIn 28 = .ok (.aload_n 0, 1) := by decide +kernel
theorem dX2_putsIn_29 : decode cX2_putsIn 29 = .ok (.getfield 20, 3) := by decide +kernel
theorem dX2_putsIn_32 : decode cX2_putsIn 32 = .ok (.iload_n 1, 1) := by decide +kernel
theorem dX2_putsIn_33 : decode cX2_putsIn 33 = .ok (.iload 4, 2) := by decide +kernel
theorem dX2_putsIn_35 : decode cX2_putsIn 35 = .ok (.iadd, 1) := by decide +kernel
theorem dX2_putsIn_36 : decode cX2_putsIn 36 = .ok (.aload_n 2, 1) := by decide +kernel
theorem dX2_putsIn_37 : decode cX2_putsIn 37 = .ok (.iload 4, 2) := by decide +kernel
theorem dX2_putsIn_39 : decode cX2_putsIn 39 = .ok (.invokevirtual 54, 3) := by decide +kernel
theorem dX2_putsIn_42 : decode cX2_putsIn 42 = .ok (.invokevirtual 62, 3) := by decide +kernel
theorem dX2_putsIn_45 : decode cX2_putsIn 45 = .ok (.iinc 4 1, 3) := by decide +kernel
theorem dX2_putsIn_48 : decode cX2_putsIn 48 = .ok (.goto (-26), 3) := by decide +kernel
theorem dX2_putsIn_51 : decode cX2_putsIn 51 = .ok (.aload_n 0, 1) := by decide +kernel
theorem dX2_putsIn_52 : decode cX2_putsIn 52 = .ok (.iload_n 1, 1) := by decide +kernel
theorem dX2_putsIn_53 : decode cX2_putsIn 53 = .ok (.iload_n 3, 1) := by decide +kernel
theorem dX2_putsIn_54 : decode cX2_putsIn 54 = .ok (.invokevirtual 72, 3) := by decide +kernel
theorem dX2_putsIn_57 : decode cX2_putsIn 57 = .ok (.iconst 0, 1) := by decide +kernel
theorem dX2_putsIn_58 : decode cX2_putsIn 58 = .ok (.istore 4, 2) := by decide +kernel
theorem dX2_putsIn_60 : decode cX2_putsIn 60 = .ok (.iload 4, 2) := by decide +kernel
theorem dX2_putsIn_62 : decode cX2_putsIn 62 = .ok (.bipush 26, 2) := by decide +kernel
theorem dX2_putsIn_64 : decode cX2_putsIn 64 = .ok (.if_icmp .ge 32, 3) := by decide +kernel
theorem dX2_putsIn_67 : decode cX2_putsIn 67 = .ok (.aload_n 0, 1) := by decide +kernel
theorem dX2_putsIn_68 : decode cX2_putsIn 68 = .ok (.getfield 14, 3) := by decide +kernel
theorem dX2_putsIn_71 : decode cX2_putsIn 71 = .ok (.iload 4, 2) := by decide +kernel
theorem dX2_putsIn_73 : decode cX2_putsIn 73 = .ok (.aload_n 0, 1) := by decide +kernel
theorem dX2_putsIn_74 : decode cX2_putsIn 74 = .ok (.getfield 14, 3) := by decide +kernel
theorem dX2_putsIn_77 : decode cX2_putsIn 77 = .ok (.iload 4, 2) := by decide +kernel
theorem dX2_putsIn_79 : decode cX2_putsIn 79 = .ok (.invokevirtual 54, 3) := by decide +kernel
theorem dX2_putsIn_82 : decode cX2_putsIn 82 = .ok (.iload_n 1, 1) := by decide +kernel
theorem dX2_putsIn_83 : decode cX2_putsIn 83 = .ok (.iload_n 3, 1) := by decide +kernel
theorem dX2_putsIn_84 : decode cX2_putsIn 84 = .ok (.invokestatic 75, 3) := by decide +kernel
theorem dX2_putsIn_87 : decode cX2_putsIn 87 = .ok (.invokevirtual 62, 3) := by decide +kernel
theorem dX2_putsIn_90 : decode cX2_putsIn 90 = .ok (.iinc 4 1, 3) := by decide +kernel
theorem dX2_putsIn_93 : decode cX2_putsIn 93 = .ok (.goto (-33), 3) := by decide +kernel
theorem dX2_putsIn_96 : decode cX2_putsIn 96 = .ok (.aload_n 0, 1) := by decide +kernel
theorem dX2_putsIn_97 : decode cX2_putsIn 97 = .ok (.aload_n 0, 1) := by decide +kernel
theorem dX2_putsIn_98 : decode cX2_putsIn 98 = .ok (.getfield 33, 3) := by decide +kernel
theorem dX2_putsIn_101 : decode cX2_putsIn 101 = .ok (.iload_n 1, 1) := by decide +kernel
theorem dX2_putsIn_102 : decode cX2_putsIn 102 = .ok (.iload_n 3, 1) := by decide +kernel
theorem dX2_putsIn_103 : decode cX2_putsIn 103 = .ok (.invokestatic 75, 3) := by decide +kernel
theorem dX2_putsIn_106 : decode cX2_putsIn 106 = .ok (.putfield 33, 3) := by decide +kernel
theorem dX2_putsIn_109 : decode cX2_putsIn 109 = .ok (.return_, 1) := by decide +kernel
theorem dX2_placeAfterTaking_0 : decode cX2_placeAfterTaking 0 = .ok (.iload_n 0, 1) := by decide +kernel
theorem dX2_placeAfterTaking_1 : decode cX2_placeAfterTaking 1 = .ok (.iload_n 1, 1) := by decide +kernel
theorem dX2_placeAfterTaking_2 : decode cX2_placeAfterTaking 2 = .ok (.if_icmp .gt 7, 3) := by decide +kernel
theorem dX2_placeAfterTaking_5 : decode cX2_placeAfterTaking 5 = .ok (.iload_n 0, 1) := by decide +kernel
theorem dX2_placeAfterTaking_6 : decode cX2_placeAfterTaking 6 = .ok (.goto 10, 3) := by decide +kernel
theorem dX2_placeAfterTaking_9 : decode cX2_placeAfterTaking 9 = .ok (.iload_n 1, 1) := by decide +kernel
theorem dX2_placeAfterTaking_10 : decode cX2_placeAfterTaking 10 = .ok (.iload_n 0, 1) := by decide +kernel
theorem dX2_placeAfterTaking_11 : decode cX2_placeAfterTaking 11 = .ok (.iload_n 2, 1) := by decide +kernel
theorem dX2_placeAfterTaking_12 : decode cX2_placeAfterTaking 12 = .ok (.isub, 1) := by decide +kernel
theorem dX2_placeAfterTaking_13 : decode cX2_placeAfterTaking 13 = .ok (.invokestatic 78, 3) := by decide +kernel
theorem dX2_placeAfterTaking_16 : decode cX2_placeAfterTaking 16 = .ok (.ireturn, 1) := by decide +kernel
theorem dX2_placeAfterPutting_0 : decode cX2_placeAfterPutting 0 = .ok (.iload_n 0, 1) := by decide +kernel
theorem dX2_placeAfterPutting_1 : decode cX2_placeAfterPutting 1 = .ok (.iload_n 1, 1) := by decide +kernel
theorem dX2_placeAfterPutting_2 : decode cX2_placeAfterPutting 2 = .ok (.if_icmp .gt 7, 3) := by decide +kernel
theorem dX2_placeAfterPutting_5 : decode cX2_placeAfterPutting 5 = .ok (.iload_n 0, 1) := by decide +kernel
theorem dX2_placeAfterPutting_6 : decode cX2_placeAfterPutting 6 = .ok (.goto 6, 3) := by decide +kernel
theorem dX2_placeAfterPutting_9 : decode cX2_placeAfterPutting 9 = .ok (.iload_n 0, 1) := by decide +kernel
theorem dX2_placeAfterPutting_10 : decode cX2_placeAfterPutting 10 = .ok (.iload_n 2, 1) := by decide +kernel
theorem dX2_placeAfterPutting_11 : decode cX2_placeAfterPutting 11 = .ok (.iadd, 1) := by decide +kernel
theorem dX2_placeAfterPutting_12 : decode cX2_placeAfterPutting 12 = .ok (.ireturn, 1) := by decide +kernel
theorem dX2_shrinksChunks_0 : decode cX2_shrinksChunks 0 = .ok (.iconst 0, 1) := by decide +kernel
theorem dX2_shrinksChunks_1 : decode cX2_shrinksChunks 1 = .ok (.istore_n 3, 1) := by decide +kernel
theorem dX2_shrinksChunks_2 : decode cX2_shrinksChunks 2 = .ok (.iconst 0, 1) := by decide +kernel
theorem dX2_shrinksChunks_3 : decode cX2_shrinksChunks 3 = .ok (.istore 4, 2) := by decide +kernel
theorem dX2_shrinksChunks_5 : decode cX2_shrinksChunks 5 = .ok (.iconst 0, 1) := by decide +kernel
theorem dX2_shrinksChunks_6 : decode cX2_shrinksChunks 6 = .ok (.istore 5, 2) := by decide +kernel
theorem dX2_shrinksChunks_8 : decode cX2_shrinksChunks 8 = .ok (.iload 5, 2) := by decide +kernel
theorem dX2_shrinksChunks_10 : decode cX2_shrinksChunks 10 = .ok (.aload_n 0, 1) := by decide +kernel
theorem dX2_shrinksChunks_11 : decode cX2_shrinksChunks 11 = .ok (.getfield 23, 3) := by decide +kernel
theorem dX2_shrinksChunks_14 : decode cX2_shrinksChunks 14 = .ok (.invokevirtual 65, 3) := by decide +kernel
theorem dX2_shrinksChunks_17 : decode cX2_shrinksChunks 17 = .ok (.if_icmp .ge 73, 3) := by decide +kernel
theorem dX2_shrinksChunks_20 : decode cX2_shrinksChunks 20 = .ok (.aload_n 0, 1) := by decide +kernel
theorem dX2_shrinksChunks_21 : decode cX2_shrinksChunks 21 = .ok (.getfield 23, 3) := by decide +kernel
theorem dX2_shrinksChunks_24 : decode cX2_shrinksChunks 24 = .ok (.iload 5, 2) := by decide +kernel
theorem dX2_shrinksChunks_26 : decode cX2_shrinksChunks 26 = .ok (.invokevirtual 54, 3) := by decide +kernel
theorem dX2_shrinksChunks_29 : decode cX2_shrinksChunks 29 = .ok (.istore 6, 2) := by decide +kernel
theorem dX2_shrinksChunks_31 : decode cX2_shrinksChunks 31 = .ok (.iload_n 3, 1) := by decide +kernel
theorem dX2_shrinksChunks_32 : decode cX2_shrinksChunks 32 = .ok (.iload 6, 2) := by decide +kernel
theorem dX2_shrinksChunks_34 : decode cX2_shrinksChunks 34 = .ok (.iadd, 1) := by decide +kernel
theorem dX2_shrinksChunks_35 : decode cX2_shrinksChunks 35 = .ok (.iload_n 1, 1) := by decide +kernel
theorem dX2_shrinksChunks_36 : decode cX2_shrinksChunks 36 = .ok (.iload_n 2, 1) := by decide +kernel
theorem dX2_shrinksChunks_37 : decode cX2_shrinksChunks 37 = .ok (.iadd, 1) := by decide +kernel
theorem dX2_shrinksChunks_38 : decode cX2_shrinksChunks 38 = .ok (.invokestatic 84, 3) := by decide +kernel
theorem dX2_shrinksChunks_41 : decode cX2_shrinksChunks 41 = .ok (.iload_n 3, 1) := by decide +kernel
theorem dX2_shrinksChunks_42 : decode cX2_shrinksChunks 42 = .ok (.iload_n 1, 1) := by decide +kernel
theorem dX2_shrinksChunks_43 : decode cX2_shrinksChunks 43 = .ok (.invokestatic 78, 3) := by decide +kernel
theorem dX2_shrinksChunks_46 : decode cX2_shrinksChunks 46 = .ok (.isub, 1) := by decide +kernel
theorem dX2_shrinksChunks_47 : decode cX2_shrinksChunks 47 = .ok (.istore 7, 2) := by decide +kernel
theorem dX2_shrinksChunks_49 : decode cX2_shrinksChunks 49 = .ok (.iload 6, 2) := by decide +kernel
theorem dX2_shrinksChunks_51 : decode cX2_shrinksChunks 51 = .ok (.iload 7, 2) := by decide +kernel
theorem dX2_shrinksChunks_53 : decode cX2_shrinksChunks 53 = .ok (.iconst 0, 1) := by decide +kernel
theorem dX2_shrinksChunks_54 : decode cX2_shrinksChunks 54 = .ok (.invokestatic 78, 3) := by decide +kernel
theorem dX2_shrinksChunks_57 : decode cX2_shrinksChunks 57 = .ok (.isub, 1) := by decide +kernel
theorem dX2_shrinksChunks_58 : decode cX2_shrinksChunks 58 = .ok (.istore 8, 2) := by decide +kernel
theorem dX2_shrinksChunks_60 : decode cX2_shrinksChunks 60 = .ok (.iload 8, 2) := by decide +kernel
theorem dX2_shrinksChunks_62 : decode cX2_shrinksChunks 62 = .ok (.ifCond .le 17, 3) := by decide +kernel
theorem dX2_shrinksChunks_65 : decode cX2_shrinksChunks 65 = .ok (.aload_n 0, 1) := by decide +kernel
theorem dX2_shrinksChunks_66 : decode cX2_shrinksChunks 66 = .ok (.getfield 23, 3) := by decide +kernel
theorem dX2_shrinksChunks_69 : decode cX2_shrinksChunks 69 = .ok (.iload 4, 2) := by decide +kernel
theorem dX2_shrinksChunks_71 : decode cX2_shrinksChunks 71 = .ok (.iload 8, 2) := by decide +kernel
theorem dX2_shrinksChunks_73 : decode cX2_shrinksChunks 73 = .ok (.invokevirtual 62, 3) := by decide +kernel
theorem dX2_shrinksChunks_76 : decode cX2_shrinksChunks 76 = .ok (.iinc 4 1, 3) := by decide +kernel
theorem dX2_shrinksChunks_79 : decode cX2_shrinksChunks 79 = .ok (.iload_n 3, 1) := by decide +kernel
theorem dX2_shrinksChunks_80 : decode cX2_shrinksChunks 80 = .ok (.iload 6, 2) := by decide +kernel
theorem dX2_shrinksChunks_82 : decode cX2_shrinksChunks 82 = .ok (.iadd, 1) := by decide +kernel
theorem dX2_shrinksChunks_83 : decode cX2_shrinksChunks 83 = .ok (.istore_n 3, 1) := by decide +kernel
theorem dX2_shrinksChunks_84 : decode cX2_shrinksChunks 84 = .ok (.iinc 5 1, 3) := by decide +kernel
theorem dX2_shrinksChunks_87 : decode cX2_shrinksChunks 87 = .ok (.goto (-79), 3) := by decide +kernel
theorem dX2_shrinksChunks_90 : decode cX2_shrinksChunks 90 = .ok (.aload_n 0, 1) := by decide +kernel
theorem dX2_shrinksChunks_91 : decode cX2_shrinksChunks 91 = .ok (.getfield 23, 3) := by decide +kernel
theorem dX2_shrinksChunks_94 : decode cX2_shrinksChunks 94 = .ok (.iload 4, 2) := by decide +kernel
theorem dX2_shrinksChunks_96 : decode cX2_shrinksChunks 96 = .ok (.invokevirtual 87, 3) := by decide +kernel
theorem dX2_shrinksChunks_99 : decode cX2_shrinksChunks 99 = .ok (.return_, 1) := by decide +kernel
theorem dX2_joinsChunks_0 : decode cX2_joinsChunks 0 = .ok (.aload_n 0, 1) := by decide +kernel
theorem dX2_joinsChunks_1 : decode cX2_joinsChunks 1 = .ok (.iload_n 1, 1) := by decide +kernel
theorem dX2_joinsChunks_2 : decode cX2_joinsChunks 2 = .ok (.invokevirtual 90, 3) := by decide +kernel
theorem dX2_joinsChunks_5 : decode cX2_joinsChunks 5 = .ok (.istore_n 2, 1) := by decide +kernel
theorem dX2_joinsChunks_6 : decode cX2_joinsChunks 6 = .ok (.aload_n 0, 1) := by decide +kernel
theorem dX2_joinsChunks_7 : decode cX2_joinsChunks 7 = .ok (.getfield 23, 3) := by decide +kernel
theorem dX2_joinsChunks_10 : decode cX2_joinsChunks 10 = .ok (.iload_n 2, 1) := by decide +kernel
theorem dX2_joinsChunks_11 : decode cX2_joinsChunks 11 = .ok (.invokevirtual 54, 3) := by decide +kernel
theorem dX2_joinsChunks_14 : decode cX2_joinsChunks 14 = .ok (.aload_n 0, 1) := by decide +kernel
theorem dX2_joinsChunks_15 : decode cX2_joinsChunks 15 = .ok (.getfield 23, 3) := by decide +kernel
theorem dX2_joinsChunks_18 : decode cX2_joinsChunks 18 = .ok (.iload_n 2, 1) := by decide +kernel
theorem dX2_joinsChunks_19 : decode cX2_joinsChunks 19 = .ok (.iconst 1, 1) := by decide +kernel
theorem dX2_joinsChunks_20 : decode cX2_joinsChunks 20 = .ok (.iadd, 1) := by decide +kernel
theorem dX2_joinsChunks_21 : decode cX2_joinsChunks 21 = .ok (.invokevirtual 54, 3) := by decide +kernel
theorem dX2_joinsChunks_24 : decode cX2_joinsChunks 24 = .ok (.iadd, 1) := by decide +kernel
theorem dX2_joinsChunks_25 : decode cX2_joinsChunks 25 = .ok (.istore_n 3, 1) := by decide +kernel
theorem dX2_joinsChunks_26 : decode cX2_joinsChunks 26 = .ok (.iload_n 2, 1) := by decide +kernel
theorem dX2_joinsChunks_27 : decode cX2_joinsChunks 27 = .ok (.iconst 1, 1) := by decide +kernel
theorem dX2_joinsChunks_28 : decode cX2_joinsChunks 28 = .ok (.iadd, 1) := by decide +kernel
theorem dX2_joinsChunks_29 : decode cX2_joinsChunks 29 = .ok (.aload_n 0, 1) := by decide +kernel
theorem dX2_joinsChunks_30 : decode cX2_joinsChunks 30 = .ok (.getfield 23, 3) := by decide +kernel
theorem dX2_joinsChunks_33 : decode cX2_joinsChunks 33 = .ok (.invokevirtual 65, 3) := by decide +kernel
theorem dX2_joinsChunks_36 : decode cX2_joinsChunks 36 = .ok (.if_icmp .ge 29, 3) := by decide +kernel
theorem dX2_joinsChunks_39 : decode cX2_joinsChunks 39 = .ok (.iload_n 3, 1) := by decide +kernel
theorem dX2_joinsChunks_40 : decode cX2_joinsChunks 40 = .ok (.bipush 8, 2) := by decide +kernel
theorem dX2_joinsChunks_42 : decode cX2_joinsChunks 42 = .ok (.if_icmp .gt 23, 3) := by decide +kernel
theorem dX2_joinsChunks_45 : decode cX2_joinsChunks 45 = .ok (.aload_n 0, 1) := by decide +kernel
theorem dX2_joinsChunks_46 : decode cX2_joinsChunks 46 = .ok (.getfield 23, 3) := by decide +kernel
theorem dX2_joinsChunks_49 : decode cX2_joinsChunks 49 = .ok (.iload_n 2, 1) := by decide +kernel
theorem dX2_joinsChunks_50 : decode cX2_joinsChunks 50 = .ok (.iload_n 3, 1) := by decide +kernel
theorem dX2_joinsChunks_51 : decode cX2_joinsChunks 51 = .ok (.invokevirtual 62, 3) := by decide +kernel
theorem dX2_joinsChunks_54 : decode cX2_joinsChunks 54 = .ok (.aload_n 0, 1) := by decide +kernel
theorem dX2_joinsChunks_55 : decode cX2_joinsChunks 55 = .ok (.getfield 23, 3) := by decide +kernel
theorem dX2_joinsChunks_58 : decode cX2_joinsChunks 58 = .ok (.iload_n 2, 1) := by decide +kernel
theorem dX2_joinsChunks_59 : decode cX2_joinsChunks 59 = .ok (.iconst 1, 1) := by decide +kernel
theorem dX2_joinsChunks_60 : decode cX2_joinsChunks 60 = .ok (.iadd, 1) := by decide +kernel
theorem dX2_joinsChunks_61 : decode cX2_joinsChunks 61 = .ok (.iconst 1, 1) := by decide +kernel
theorem dX2_joinsChunks_62 : decode cX2_joinsChunks 62 = .ok (.invokevirtual 45, 3) := by decide +kernel
theorem dX2_joinsChunks_65 : decode cX2_joinsChunks 65 = .ok (.return_, 1) := by decide +kernel
theorem dX2_growsChunk_0 : decode cX2_growsChunk 0 = .ok (.aload_n 0, 1) := by decide +kernel
theorem dX2_growsChunk_1 : decode cX2_growsChunk 1 = .ok (.getfield 23, 3) := by decide +kernel
theorem dX2_growsChunk_4 : decode cX2_growsChunk 4 = .ok (.invokevirtual 65, 3) := by decide +kernel
theorem dX2_growsChunk_7 : decode cX2_growsChunk 7 = .ok (.ifCond .ne 11, 3) := by decide +kernel
theorem dX2_growsChunk_10 : decode cX2_growsChunk 10 = .ok (.aload_n 0, 1) := by decide +kernel
theorem dX2_growsChunk_11 : decode cX2_growsChunk 11 = .ok (.getfield 23, 3) := by decide +kernel
theorem dX2_growsChunk_14 : decode cX2_growsChunk 14 = .ok (.iconst 0, 1) := by decide +kernel
theorem dX2_growsChunk_15 : decode cX2_growsChunk 15 = .ok (.invokevirtual 26, 3) := by decide +kernel
theorem dX2_growsChunk_18 : decode cX2_growsChunk 18 = .ok (.aload_n 0, 1) := by decide +kernel
theorem dX2_growsChunk_19 : decode cX2_growsChunk 19 = .ok (.iload_n 1, 1) := by decide +kernel
theorem dX2_growsChunk_20 : decode cX2_growsChunk 20 = .ok (.invokevirtual 90, 3) := by decide +kernel
theorem dX2_growsChunk_23 : decode cX2_growsChunk 23 = .ok (.istore_n 3, 1) := by decide +kernel
theorem dX2_growsChunk_24 : decode cX2_growsChunk 24 = .ok (.aload_n 0, 1) := by decide +kernel
theorem dX2_growsChunk_25 : decode cX2_growsChunk 25 = .ok (.getfield 23, 3) := by decide +kernel
theorem dX2_growsChunk_28 : decode cX2_growsChunk 28 = .ok (.iload_n 3, 1) := by decide +kernel
theorem dX2_growsChunk_29 : decode cX2_growsChunk 29 = .ok (.invokevirtual 54, 3) := by decide +kernel
theorem dX2_growsChunk_32 : decode cX2_growsChunk 32 = .ok (.iload_n 2, 1) := by decide +kernel
theorem dX2_growsChunk_33 : decode cX2_growsChunk 33 = .ok (.iadd, 1) := by decide +kernel
theorem dX2_growsChunk_34 : decode cX2_growsChunk 34 = .ok (.istore 4, 2) := by decide +kernel
theorem dX2_growsChunk_36 : decode cX2_growsChunk 36 = .ok (.aload_n 0, 1) := by decide +kernel
theorem dX2_growsChunk_37 : decode cX2_growsChunk 37 = .ok (.getfield 23, 3) := by decide +kernel
theorem dX2_growsChunk_40 : decode cX2_growsChunk 40 = .ok (.iload_n 3, 1) := by decide +kernel
theorem dX2_growsChunk_41 : decode cX2_growsChunk 41 = .ok (.iload 4, 2) := by decide +kernel
theorem dX2_growsChunk_43 : decode cX2_growsChunk 43 = .ok (.invokevirtual 62, 3) := by decide +kernel
theorem dX2_growsChunk_46 : decode cX2_growsChunk 46 = .ok (.aload_n 0, 1) := by decide +kernel
theorem dX2_growsChunk_47 : decode cX2_growsChunk 47 = .ok (.iload_n 3, 1) := by decide +kernel
theorem dX2_growsChunk_48 : decode cX2_growsChunk 48 = .ok (.iload 4, 2) := by decide +kernel
theorem dX2_growsChunk_50 : decode cX2_growsChunk 50 = .ok (.invokevirtual 93, 3) := by decide +kernel
theorem dX2_growsChunk_53 : decode cX2_growsChunk 53 = .ok (.return_, 1) := by decide +kernel
theorem dX2_splitsChunk_0 : decode cX2_splitsChunk 0 = .ok (.iload_n 2, 1) := by decide +kernel
theorem dX2_splitsChunk_1 : decode cX2_splitsChunk 1 = .ok (.bipush 8, 2) := by decide +kernel
theorem dX2_splitsChunk_3 : decode cX2_splitsChunk 3 = .ok (.iadd, 1) := by decide +kernel
theorem dX2_splitsChunk_4 : decode cX2_splitsChunk 4 = .ok (.iconst 1, 1) := by decide +kernel
theorem dX2_splitsChunk_5 : decode cX2_splitsChunk 5 = .ok (.isub, 1) := by decide +kernel
theorem dX2_splitsChunk_6 : decode cX2_splitsChunk 6 = .ok (.bipush 8, 2) := by decide +kernel
theorem dX2_splitsChunk_8 : decode cX2_splitsChunk 8 = .ok (.idiv, 1) := by decide +kernel
theorem dX2_splitsChunk_9 : decode cX2_splitsChunk 9 = .ok (.istore_n 3, 1) := by decide +kernel
theorem dX2_splitsChunk_10 : decode cX2_splitsChunk 10 = .ok (.iload_n 3, 1) := by decide +kernel
theorem dX2_splitsChunk_11 : decode cX2_splitsChunk 11 = .ok (.iconst 2, 1) := by decide +kernel
theorem dX2_splitsChunk_12 : decode cX2_splitsChunk 12 = .ok (.if_icmp .ge 4, 3) := by decide +kernel
theorem dX2_splitsChunk_15 : decode cX2_splitsChunk 15 = .ok (.return_, 1) := by decide +kernel
theorem dX2_splitsChunk_16 : decode cX2_splitsChunk 16 = .ok (.iload_n 2, 1) := by decide +kernel
theorem dX2_splitsChunk_17 : decode cX2_splitsChunk 17 = .ok (.iload_n 3, 1) := by decide +kernel
theorem dX2_splitsChunk_18 : decode cX2_splitsChunk 18 = .ok (.idiv, 1) := by decide +kernel
theorem dX2_splitsChunk_19 : decode cX2_splitsChunk 19 = .ok (.istore 4, 2) := by decide +kernel
theorem dX2_splitsChunk_21 : decode cX2_splitsChunk 21 = .ok (.iload_n 2, 1) := by decide +kernel
theorem dX2_splitsChunk_22 : decode cX2_splitsChunk 22 = .ok (.iload_n 3, 1) := by decide +kernel
theorem dX2_splitsChunk_23 : decode cX2_splitsChunk 23 = .ok (.irem, 1) := by decide +kernel
theorem dX2_splitsChunk_24 : decode cX2_splitsChunk 24 = .ok (.istore 5, 2) := by decide +kernel
theorem dX2_splitsChunk_26 : decode cX2_splitsChunk 26 = .ok (.aload_n 0, 1) := by decide +kernel
theorem dX2_splitsChunk_27 : decode cX2_splitsChunk 27 = .ok (.getfield 23, 3) := by decide +kernel
theorem dX2_splitsChunk_30 : decode cX2_splitsChunk 30 = .ok (.iload_n 1, 1) := by decide +kernel
theorem dX2_splitsChunk_31 : decode cX2_splitsChunk 31 = .ok (.iload_n 3, 1) := by decide +kernel
theorem dX2_splitsChunk_32 : decode cX2_splitsChunk 32 = .ok (.iconst 1, 1) := by decide +kernel
theorem dX2_splitsChunk_33 : decode cX2_splitsChunk 33 = .ok (.isub, 1) := by decide +kernel
theorem dX2_splitsChunk_34 : decode cX2_splitsChunk 34 = .ok (.invokevirtual 69, 3) := by decide +kernel
theorem dX2_splitsChunk_37 : decode cX2_splitsChunk 37 = .ok (.iconst 0, 1) := by decide +kernel
theorem dX2_splitsChunk_38 : decode cX2_splitsChunk 38 = .ok (.istore 6, 2) := by decide +kernel
theorem dX2_splitsChunk_40 : decode cX2_splitsChunk 40 = .ok (.iload 6, 2) := by decide +kernel
theorem dX2_splitsChunk_42 : decode cX2_splitsChunk 42 = .ok (.iload_n 3, 1) := by decide +kernel
theorem dX2_splitsChunk_43 : decode cX2_splitsChunk 43 = .ok (.if_icmp .ge 36, 3) := by decide +kernel
theorem dX2_splitsChunk_46 : decode cX2_splitsChunk 46 = .ok (.aload_n 0, 1) := by decide +kernel
theorem dX2_splitsChunk_47 : decode cX2_splitsChunk 47 = .ok (.getfield 23, 3) := by decide +kernel
theorem dX2_splitsChunk_50 : decode cX2_splitsChunk 50 = .ok (.iload_n 1, 1) := by decide +kernel
theorem dX2_splitsChunk_51 : decode cX2_splitsChunk 51 = .ok (.iload 6, 2) := by decide +kernel
theorem dX2_splitsChunk_53 : decode cX2_splitsChunk 53 = .ok (.iadd, 1) := by decide +kernel
theorem dX2_splitsChunk_54 : decode cX2_splitsChunk 54 = .ok (.iload 6, 2) := by decide +kernel
theorem dX2_splitsChunk_56 : decode cX2_splitsChunk 56 = .ok (.iload 5, 2) := by decide +kernel
theorem dX2_splitsChunk_58 : decode cX2_splitsChunk 58 = .ok (.if_icmp .ge 10, 3) := by decide +kernel
theorem dX2_splitsChunk_61 : decode cX2_splitsChunk 61 = .ok (.iload 4, 2) := by decide +kernel
theorem dX2_splitsChunk_63 : decode cX2_splitsChunk 63 = .ok (.iconst 1, 1) := by decide +kernel
theorem dX2_splitsChunk_64 : decode cX2_splitsChunk 64 = .ok (.iadd, 1) := by decide +kernel
theorem dX2_splitsChunk_65 : decode cX2_splitsChunk 65 = .ok (.goto 5, 3) := by decide +kernel
theorem dX2_splitsChunk_68 : decode cX2_splitsChunk 68 = .ok (.iload 4, 2) := by decide +kernel
theorem dX2_splitsChunk_70 : decode cX2_splitsChunk 70 = .ok (.invokevirtual 62, 3) := by decide +kernel
theorem dX2_splitsChunk_73 : decode cX2_splitsChunk 73 = .ok (.iinc 6 1, 3) := by decide +kernel
theorem dX2_splitsChunk_76 : decode cX2_splitsChunk 76 = .ok (.goto (-36), 3) := by decide +kernel
theorem dX2_splitsChunk_79 : decode cX2_splitsChunk 79 = .ok (.return_, 1) := by decide +kernel
theorem dX2_chunkOfByteAhead_0 : decode cX2_chunkOfByteAhead 0 = .ok (.iconst 0, 1) := by decide +kernel
theorem dX2_chunkOfByteAhead_1 : decode cX2_chunkOfByteAhead 1 = .ok (.istore_n 2, 1) := by decide +kernel
theorem dX2_chunkOfByteAhead_2 : decode cX2_chunkOfByteAhead 2 = .ok (.iconst 0, 1) := by decide +kernel
theorem dX2_chunkOfByteAhead_3 : decode cX2_chunkOfByteAhead 3 = .ok (.istore_n 3, 1) := by decide +kernel
theorem dX2_chunkOfByteAhead_4 : decode cX2_chunkOfByteAhead 4 = .ok (.iload_n 3, 1) := by decide +kernel
theorem dX2_chunkOfByteAhead_5 : decode cX2_chunkOfByteAhead 5 = .ok (.aload_n 0, 1) := by decide +kernel
theorem dX2_chunkOfByteAhead_6 : decode cX2_chunkOfByteAhead 6 = .ok (.getfield 23, 3) := by decide +kernel
theorem dX2_chunkOfByteAhead_9 : decode cX2_chunkOfByteAhead 9 = .ok (.invokevirtual 65, 3) := by decide +kernel
theorem dX2_chunkOfByteAhead_12 : decode cX2_chunkOfByteAhead 12 = .ok (.if_icmp .ge 27, 3) := by decide +kernel
theorem dX2_chunkOfByteAhead_15 : decode cX2_chunkOfByteAhead 15 = .ok (.iload_n 2, 1) := by decide +kernel
theorem dX2_chunkOfByteAhead_16 : decode cX2_chunkOfByteAhead 16 = .ok (.aload_n 0, 1) := by decide +kernel
theorem dX2_chunkOfByteAhead_17 : decode cX2_chunkOfByteAhead 17 = .ok (.getfield 23, 3) := by decide +kernel
theorem dX2_chunkOfByteAhead_20 : decode cX2_chunkOfByteAhead 20 = .ok (.iload_n 3, 1) := by decide +kernel
theorem dX2_chunkOfByteAhead_21 : decode cX2_chunkOfByteAhead 21 = .ok (.invokevirtual 54, 3) := by decide +kernel
theorem dX2_chunkOfByteAhead_24 : decode cX2_chunkOfByteAhead 24 = .ok (.iadd, 1) := by decide +kernel
theorem dX2_chunkOfByteAhead_25 : decode cX2_chunkOfByteAhead 25 = .ok (.istore_n 2, 1) := by decide +kernel
theorem dX2_chunkOfByteAhead_26 : decode cX2_chunkOfByteAhead 26 = .ok (.iload_n 1, 1) := by decide +kernel
theorem dX2_chunkOfByteAhead_27 : decode cX2_chunkOfByteAhead 27 = .ok (.iload_n 2, 1) := by decide +kernel
theorem dX2_chunkOfByteAhead_28 : decode cX2_chunkOfByteAhead 28 = .ok (.if_icmp .gt 5, 3) := by decide +kernel
theorem dX2_chunkOfByteAhead_31 : decode cX2_chunkOfByteAhead 31 = .ok (.iload_n 3, 1) := by decide +kernel
theorem dX2_chunkOfByteAhead_32 : decode cX2_chunkOfByteAhead 32 = .ok (.ireturn, 1) := by decide +kernel
theorem dX2_chunkOfByteAhead_33 : decode cX2_chunkOfByteAhead 33 = .ok (.iinc 3 1, 3) := by decide +kernel
theorem dX2_chunkOfByteAhead_36 : decode cX2_chunkOfByteAhead 36 = .ok (.goto (-32), 3) := by decide +kernel
theorem dX2_chunkOfByteAhead_39 : decode cX2_chunkOfByteAhead 39 = .ok (.iconst 0, 1) := by decide +kernel
theorem dX2_chunkOfByteAhead_40 : decode cX2_chunkOfByteAhead 40 = .ok (.ireturn, 1) := by decide +kernel
theorem dX2_chunkBegin_0 : decode cX2_chunkBegin 0 = .ok (.iconst 0, 1) := by decide +kernel
theorem dX2_chunkBegin_1 : decode cX2_chunkBegin 1 = .ok (.istore_n 2, 1) := by decide +kernel
theorem dX2_chunkBegin_2 : decode cX2_chunkBegin 2 = .ok (.iconst 0, 1) := by decide +kernel
theorem dX2_chunkBegin_3 : decode cX2_chunkBegin 3 = .ok (.istore_n 3, 1) := by decide +kernel
theorem dX2_chunkBegin_4 : decode cX2_chunkBegin 4 = .ok (.iload_n 3, 1) := by decide +kernel
theorem dX2_chunkBegin_5 : decode cX2_chunkBegin 5 = .ok (.iload_n 1, 1) := by decide +kernel
theorem dX2_chunkBegin_6 : decode cX2_chunkBegin 6 = .ok (.if_icmp .ge 31, 3) := by decide +kernel
theorem dX2_chunkBegin_9 : decode cX2_chunkBegin 9 = .ok (.iload_n 3, 1) := by decide +kernel
theorem dX2_chunkBegin_10 : decode cX2_chunkBegin 10 = .ok (.aload_n 0, 1) := by decide +kernel
theorem dX2_chunkBegin_11 : decode cX2_chunkBegin 11 = .ok (.getfield 23, 3) := by decide +kernel
theorem dX2_chunkBegin_14 : decode cX2_chunkBegin 14 = .ok (.invokevirtual 65, 3) := by decide +kernel
theorem dX2_chunkBegin_17 : decode cX2_chunkBegin 17 = .ok (.if_icmp .ge 20, 3) := by decide +kernel
theorem dX2_chunkBegin_20 : decode cX2_chunkBegin 20 = .ok (.iload_n 2, 1) := by decide +kernel
theorem dX2_chunkBegin_21 : decode cX2_chunkBegin 21 = .ok (.aload_n 0, 1) := by decide +kernel
theorem dX2_chunkBegin_22 : decode cX2_chunkBegin 22 = .ok (.getfield 23, 3) := by decide +kernel
theorem dX2_chunkBegin_25 : decode cX2_chunkBegin 25 = .ok (.iload_n 3, 1) := by decide +kernel
theorem dX2_chunkBegin_26 : decode cX2_chunkBegin 26 = .ok (.invokevirtual 54, 3) := by decide +kernel
theorem dX2_chunkBegin_29 : decode cX2_chunkBegin 29 = .ok (.iadd, 1) := by decide +kernel
theorem dX2_chunkBegin_30 : decode cX2_chunkBegin 30 = .ok (.istore_n 2, 1) := by decide +kernel
theorem dX2_chunkBegin_31 : decode cX2_chunkBegin 31 = .ok (.iinc 3 1, 3) := by decide +kernel
theorem dX2_chunkBegin_34 : decode cX2_chunkBegin 34 = .ok (.goto (-30), 3) := by decide +kernel
theorem dX2_chunkBegin_37 : decode cX2_chunkBegin 37 = .ok (.iload_n 2, 1) := by decide +kernel
theorem dX2_chunkBegin_38 : decode cX2_chunkBegin 38 = .ok (.ireturn, 1) := by decide +kernel
theorem dX2_markPlace_0 : decode cX2_markPlace 0 = .ok (.aload_n 0, 1) := by decide +kernel
theorem dX2_markPlace_1 : decode cX2_markPlace 1 = .ok (.getfield 14, 3) := by decide +kernel
theorem dX2_markPlace_4 : decode cX2_markPlace 4 = .ok (.iload_n 1, 1) := by decide +kernel
theorem dX2_markPlace_5 : decode cX2_markPlace 5 = .ok (.bipush 97, 2) := by decide +kernel
theorem dX2_markPlace_7 : decode cX2_markPlace 7 = .ok (.isub, 1) := by decide +kernel
theorem dX2_markPlace_8 : decode cX2_markPlace 8 = .ok (.invokevirtual 54, 3) := by decide +kernel
theorem dX2_markPlace_11 : decode cX2_markPlace 11 = .ok (.ireturn, 1) := by decide +kernel
theorem dX2_putMark_0 : decode cX2_putMark 0 = .ok (.aload_n 0, 1) := by decide +kernel
theorem dX2_putMark_1 : decode cX2_putMark 1 = .ok (.getfield 14, 3) := by decide +kernel
theorem dX2_putMark_4 : decode cX2_putMark 4 = .ok (.iload_n 1, 1) := by decide +kernel
theorem dX2_putMark_5 : decode cX2_putMark 5 = .ok (.bipush 97, 2) := by decide +kernel
theorem dX2_putMark_7 : decode cX2_putMark 7 = .ok (.isub, 1) := by decide +kernel
theorem dX2_putMark_8 : decode cX2_putMark 8 = .ok (.iload_n 2, 1) := by decide +kernel
theorem dX2_putMark_9 : decode cX2_putMark 9 = .ok (.invokevirtual 62, 3) := by decide +kernel
theorem dX2_putMark_12 : decode cX2_putMark 12 = .ok (.return_, 1) := by decide +kernel
theorem dX2_marksSet_0 : decode cX2_marksSet 0 = .ok (.iconst 0, 1) := by decide +kernel
theorem dX2_marksSet_1 : decode cX2_marksSet 1 = .ok (.istore_n 1, 1) := by decide +kernel
theorem dX2_marksSet_2 : decode cX2_marksSet 2 = .ok (.iconst 0, 1) := by decide +kernel
theorem dX2_marksSet_3 : decode cX2_marksSet 3 = .ok (.istore_n 2, 1) := by decide +kernel
theorem dX2_marksSet_4 : decode cX2_marksSet 4 = .ok (.iload_n 2, 1) := by decide +kernel
theorem dX2_marksSet_5 : decode cX2_marksSet 5 = .ok (.bipush 26, 2) := by decide +kernel
theorem dX2_marksSet_7 : decode cX2_marksSet 7 = .ok (.if_icmp .ge 25, 3) := by decide +kernel
theorem dX2_marksSet_10 : decode cX2_marksSet 10 = .ok (.aload_n 0, 1) := by decide +kernel
theorem dX2_marksSet_11 : decode cX2_marksSet 11 = .ok (.getfield 14, 3) := by decide +kernel
theorem dX2_marksSet_14 : decode cX2_marksSet 14 = .ok (.iload_n 2, 1) := by decide +kernel
theorem dX2_marksSet_15 : decode cX2_marksSet 15 = .ok (.invokevirtual 54, 3) := by decide +kernel
theorem dX2_marksSet_18 : decode cX2_marksSet 18 = .ok (.bipush (-9), 2) := by decide +kernel
theorem dX2_marksSet_20 : decode cX2_marksSet 20 = .ok (.if_icmp .eq 6, 3) := by decide +kernel
theorem dX2_marksSet_23 : decode cX2_marksSet 23 = .ok (.iinc 1 1, 3) := by decide +kernel
theorem dX2_marksSet_26 : decode cX2_marksSet 26 = .ok (.iinc 2 1, 3) := by decide +kernel
theorem dX2_marksSet_29 : decode cX2_marksSet 29 = .ok (.goto (-25), 3) := by decide +kernel
theorem dX2_marksSet_32 : decode cX2_marksSet 32 = .ok (.iload_n 1, 1) := by decide +kernel
theorem dX2_marksSet_33 : decode cX2_marksSet 33 = .ok (.ireturn, 1) := by decide +kernel
theorem dX2_markFrom_0 : decode cX2_markFrom 0 = .ok (.bipush (-9), 2) := by decide +kernel
theorem dX2_markFrom_2 : decode cX2_markFrom 2 = .ok (.istore_n 2, 1) := by decide +kernel
theorem dX2_markFrom_3 : decode cX2_markFrom 3 = .ok (.iconst 0, 1) := by decide +kernel
theorem dX2_markFrom_4 : decode cX2_markFrom 4 = .ok (.istore_n 3, 1) := by decide +kernel
theorem dX2_markFrom_5 : decode cX2_markFrom 5 = .ok (.iconst 0, 1) := by decide +kernel
theorem dX2_markFrom_6 : decode cX2_markFrom 6 = .ok (.istore 4, 2) := by decide +kernel
theorem dX2_markFrom_8 : decode cX2_markFrom 8 = .ok (.iload 4, 2) := by decide +kernel
theorem dX2_markFrom_10 : decode cX2_markFrom 10 = .ok (.bipush 26, 2) := by decide +kernel
theorem dX2_markFrom_12 : decode cX2_markFrom 12 = .ok (.if_icmp .ge 47, 3) := by decide +kernel
theorem dX2_markFrom_15 : decode cX2_markFrom 15 = .ok (.aload_n 0, 1) := by decide +kernel
theorem dX2_markFrom_16 : decode cX2_markFrom 16 = .ok (.getfield 14, 3) := by decide +kernel
theorem dX2_markFrom_19 : decode cX2_markFrom 19 = .ok (.iload 4, 2) := by decide +kernel
theorem dX2_markFrom_21 : decode cX2_markFrom 21 = .ok (.invokevirtual 54, 3) := by decide +kernel
theorem dX2_markFrom_24 : decode cX2_markFrom 24 = .ok (.istore 5, 2) := by decide +kernel
theorem dX2_markFrom_26 : decode cX2_markFrom 26 = .ok (.iload 5, 2) := by decide +kernel
theorem dX2_markFrom_28 : decode cX2_markFrom 28 = .ok (.iload_n 1, 1) := by decide +kernel
theorem dX2_markFrom_29 : decode cX2_markFrom 29 = .ok (.if_icmp .lt 24, 3) := by decide +kernel
theorem dX2_markFrom_32 : decode cX2_markFrom 32 = .ok (.iload_n 2, 1) := by decide +kernel
theorem dX2_markFrom_33 : decode cX2_markFrom 33 = .ok (.bipush (-9), 2) := by decide +kernel
theorem dX2_markFrom_35 : decode cX2_markFrom 35 = .ok (.if_icmp .eq 9, 3) := by decide +kernel
theorem dX2_markFrom_38 : decode cX2_markFrom 38 = .ok (.iload 5, 2) := by decide +kernel
theorem dX2_markFrom_40 : decode cX2_markFrom 40 = .ok (.iload_n 3, 1) := by decide +kernel
theorem dX2_markFrom_41 : decode cX2_markFrom 41 = .ok (.if_icmp .ge 12, 3) := by decide +kernel
theorem dX2_markFrom_44 : decode cX2_markFrom 44 = .ok (.bipush 97, 2) := by decide +kernel
theorem dX2_markFrom_46 : decode cX2_markFrom 46 = .ok (.iload 4, 2) := by decide +kernel
theorem dX2_markFrom_48 : decode cX2_markFrom 48 = .ok (.iadd, 1) := by decide +kernel
theorem dX2_markFrom_49 : decode cX2_markFrom 49 = .ok (.istore_n 2, 1) := by decide +kernel
theorem dX2_markFrom_50 : decode cX2_markFrom 50 = .ok (.iload 5, 2) := by decide +kernel
theorem dX2_markFrom_52 : decode cX2_markFrom 52 = .ok (.istore_n 3, 1) := by decide +kernel
theorem dX2_markFrom_53 : decode cX2_markFrom 53 = .ok (.iinc 4 1, 3) := by decide +kernel
theorem dX2_markFrom_56 : decode cX2_markFrom 56 = .ok (.goto (-48), 3) := by decide +kernel
theorem dX2_markFrom_59 : decode cX2_markFrom 59 = .ok (.iload_n 2, 1) := by decide +kernel
theorem dX2_markFrom_60 : decode cX2_markFrom 60 = .ok (.ireturn, 1) := by decide +kernel
theorem dX2_readsLetter_0 : decode cX2_readsLetter 0 = .ok (.aload_n 0, 1) := by decide +kernel
theorem dX2_readsLetter_1 : decode cX2_readsLetter 1 = .ok (.getfield 20, 3) := by decide +kernel
theorem dX2_readsLetter_4 : decode cX2_readsLetter 4 = .ok (.aload_n 0, 1) := by decide +kernel
theorem dX2_readsLetter_5 : decode cX2_readsLetter 5 = .ok (.getfield 33, 3) := by decide +kernel
theorem dX2_readsLetter_8 : decode cX2_readsLetter 8 = .ok (.invokevirtual 54, 3) := by decide +kernel
theorem dX2_readsLetter_11 : decode cX2_readsLetter 11 = .ok (.istore_n 1, 1) := by decide +kernel
theorem dX2_readsLetter_12 : decode cX2_readsLetter 12 = .ok (.aload_n 0, 1) := by decide +kernel
theorem dX2_readsLetter_13 : decode cX2_readsLetter 13 = .ok (.getfield 33, 3) := by decide +kernel
theorem dX2_readsLetter_16 : decode cX2_readsLetter 16 = .ok (.iconst 1, 1) := by decide +kernel
theorem dX2_readsLetter_17 : decode cX2_readsLetter 17 = .ok (.iadd, 1) := by decide +kernel
theorem dX2_readsLetter_18 : decode cX2_readsLetter 18 = .ok (.istore_n 2, 1) := by decide +kernel
theorem dX2_readsLetter_19 : decode cX2_readsLetter 19 = .ok (.iload_n 2, 1) := by decide +kernel
theorem dX2_readsLetter_20 : decode cX2_readsLetter 20 = .ok (.aload_n 0, 1) := by decide +kernel
theorem dX2_readsLetter_21 : decode cX2_readsLetter 21 = .ok (.getfield 20, 3) := by decide +kernel
theorem dX2_readsLetter_24 : decode cX2_readsLetter 24 = .ok (.invokevirtual 65, 3) := by decide +kernel
theorem dX2_readsLetter_27 : decode cX2_readsLetter 27 = .ok (.if_icmp .ge 23, 3) := by decide +kernel
theorem dX2_readsLetter_30 : decode cX2_readsLetter 30 = .ok (.aload_n 0, 1) := by decide +kernel
theorem dX2_readsLetter_31 : decode cX2_readsLetter 31 = .ok (.getfield 20, 3) := by decide +kernel
theorem dX2_readsLetter_34 : decode cX2_readsLetter 34 = .ok (.iload_n 2, 1) := by decide +kernel
theorem dX2_readsLetter_35 : decode cX2_readsLetter 35 = .ok (.invokevirtual 54, 3) := by decide +kernel
theorem dX2_readsLetter_38 : decode cX2_readsLetter 38 = .ok (.invokestatic 96, 3) := by decide +kernel
theorem dX2_readsLetter_41 : decode cX2_readsLetter 41 = .ok (.ifCond .ne 9, 3) := by decide +kernel
theorem dX2_readsLetter_44 : decode cX2_readsLetter 44 = .ok (.iinc 2 1, 3) := by decide +kernel
theorem dX2_readsLetter_47 : decode cX2_readsLetter 47 = .ok (.goto (-28), 3) := by decide +kernel
theorem dX2_readsLetter_50 : decode cX2_readsLetter 50 = .ok (.aload_n 0, 1) := by decide +kernel
theorem dX2_readsLetter_51 : decode cX2_readsLetter 51 = .ok (.iload_n 2, 1) := by decide +kernel
theorem dX2_readsLetter_52 : decode cX2_readsLetter 52 = .ok (.putfield 33, 3) := by decide +kernel
theorem dX2_readsLetter_55 : decode cX2_readsLetter 55 = .ok (.iload_n 1, 1) := by decide +kernel
theorem dX2_readsLetter_56 : decode cX2_readsLetter 56 = .ok (.ireturn, 1) := by decide +kernel
theorem dX5_init_0 : decode cX5_init 0 = .ok (.aload_n 0, 1) := by decide +kernel
theorem dX5_init_1 : decode cX5_init 1 = .ok (.invokespecial 3, 3) := by decide +kernel
theorem dX5_init_4 : decode cX5_init 4 = .ok (.aload_n 0, 1) := by decide +kernel
theorem dX5_init_5 : decode cX5_init 5 = .ok (.new 9, 3) := by decide +kernel
theorem dX5_init_8 : decode cX5_init 8 = .ok (.dup, 1) := by decide +kernel
theorem dX5_init_9 : decode cX5_init 9 = .ok (.bipush 121, 2) := by decide +kernel
theorem dX5_init_11 : decode cX5_init 11 = .ok (.invokespecial 11, 3) := by decide +kernel
theorem dX5_init_14 : decode cX5_init 14 = .ok (.putfield 14, 3) := by decide +kernel
theorem dX5_init_17 : decode cX5_init 17 = .ok (.aload_n 0, 1) := by decide +kernel
theorem dX5_init_18 : decode cX5_init 18 = .ok (.new 9, 3) := by decide +kernel
theorem dX5_init_21 : decode cX5_init 21 = .ok (.dup, 1) := by decide +kernel
theorem dX5_init_22 : decode cX5_init 22 = .ok (.bipush 121, 2) := by decide +kernel
theorem dX5_init_24 : decode cX5_init 24 = .ok (.invokespecial 11, 3) := by decide +kernel
theorem dX5_init_27 : decode cX5_init 27 = .ok (.putfield 20, 3) := by decide +kernel
theorem dX5_init_30 : decode cX5_init 30 = .ok (.aload_n 0, 1) := by decide +kernel
theorem dX5_init_31 : decode cX5_init 31 = .ok (.new 9, 3) := by decide +kernel
theorem dX5_init_34 : decode cX5_init 34 = .ok (.dup, 1) := by decide +kernel
theorem dX5_init_35 : decode cX5_init 35 = .ok (.bipush 121, 2) := by decide +kernel
theorem dX5_init_37 : decode cX5_init 37 = .ok (.invokespecial 11, 3) := by decide +kernel
theorem dX5_init_40 : decode cX5_init 40 = .ok (.putfield 23, 3) := by decide +kernel
theorem dX5_init_43 : decode cX5_init 43 = .ok (.aload_n 0, 1) := by decide +kernel
theorem dX5_init_44 : decode cX5_init 44 = .ok (.new 9, 3) := by decide +kernel
theorem dX5_init_47 : decode cX5_init 47 = .ok (.dup, 1) := by decide +kernel
theorem dX5_init_48 : decode cX5_init 48 = .ok (.bipush 121, 2) := by decide +kernel
theorem dX5_init_50 : decode cX5_init 50 = .ok (.invokespecial 11, 3) := by decide +kernel
theorem dX5_init_53 : decode cX5_init 53 = .ok (.putfield 26, 3) := by decide +kernel
theorem dX5_init_56 : decode cX5_init 56 = .ok (.aload_n 0, 1) := by decide +kernel
theorem dX5_init_57 : decode cX5_init 57 = .ok (.new 9, 3) := by decide +kernel
theorem dX5_init_60 : decode cX5_init 60 = .ok (.dup, 1) := by decide +kernel
theorem dX5_init_61 : decode cX5_init 61 = .ok (.bipush 121, 2) := by decide +kernel
theorem dX5_init_63 : decode cX5_init 63 = .ok (.invokespecial 11, 3) := by decide +kernel
theorem dX5_init_66 : decode cX5_init 66 = .ok (.putfield 29, 3) := by decide +kernel
theorem dX5_init_69 : decode cX5_init 69 = .ok (.aload_n 0, 1) := by decide +kernel
theorem dX5_init_70 : decode cX5_init 70 = .ok (.new 9, 3) := by decide +kernel
theorem dX5_init_73 : decode cX5_init 73 = .ok (.dup, 1) := by decide +kernel
theorem dX5_init_74 : decode cX5_init 74 = .ok (.bipush 121, 2) := by decide +kernel
theorem dX5_init_76 : decode cX5_init 76 = .ok (.invokespecial 11, 3) := by decide +kernel
theorem dX5_init_79 : decode cX5_init 79 = .ok (.putfield 32, 3) := by decide +kernel
theorem dX5_init_82 : decode cX5_init 82 = .ok (.aload_n 0, 1) := by decide +kernel
theorem dX5_init_83 : decode cX5_init 83 = .ok (.invokevirtual 35, 3) := by decide +kernel
theorem dX5_init_86 : decode cX5_init 86 = .ok (.return_, 1) := by decide +kernel
theorem dX5_startsOver_0 : decode cX5_startsOver 0 = .ok (.aload_n 0, 1) := by decide +kernel
theorem dX5_startsOver_1 : decode cX5_startsOver 1 = .ok (.getfield 14, 3) := by decide +kernel
theorem dX5_startsOver_4 : decode cX5_startsOver 4 = .ok (.invokevirtual 38, 3) := by decide +kernel
theorem dX5_startsOver_7 : decode cX5_startsOver 7 = .ok (.aload_n 0, 1) := by decide +kernel
theorem dX5_startsOver_8 : decode cX5_startsOver 8 = .ok (.getfield 20, 3) := by decide +kernel
theorem dX5_startsOver_11 : decode cX5_startsOver 11 = .ok (.invokevirtual 38, 3) := by decide +kernel
theorem dX5_startsOver_14 : decode cX5_startsOver 14 = .ok (.aload_n 0, 1) := by decide +kernel
theorem dX5_startsOver_15 : decode cX5_startsOver 15 = .ok (.getfield 23, 3) := by decide +kernel
theorem dX5_startsOver_18 : decode cX5_startsOver 18 = .ok (.invokevirtual 38, 3) := by decide +kernel
theorem dX5_startsOver_21 : decode cX5_startsOver 21 = .ok (.aload_n 0, 1) := by decide +kernel
theorem dX5_startsOver_22 : decode cX5_startsOver 22 = .ok (.getfield 26, 3) := by decide +kernel
theorem dX5_startsOver_25 : decode cX5_startsOver 25 = .ok (.invokevirtual 38, 3) := by decide +kernel
theorem dX5_startsOver_28 : decode cX5_startsOver 28 = .ok (.aload_n 0, 1) := by decide +kernel
theorem dX5_startsOver_29 : decode cX5_startsOver 29 = .ok (.iconst 0, 1) := by decide +kernel
theorem dX5_startsOver_30 : decode cX5_startsOver 30 = .ok (.iconst 0, 1) := by decide +kernel
theorem dX5_startsOver_31 : decode cX5_startsOver 31 = .ok (.iconst 0, 1) := by decide +kernel
theorem dX5_startsOver_32 : decode cX5_startsOver 32 = .ok (.iconst 0, 1) := by decide +kernel
theorem dX5_startsOver_33 : decode cX5_startsOver 33 = .ok (.invokevirtual 41, 3) := by decide +kernel
theorem dX5_startsOver_36 : decode cX5_startsOver 36 = .ok (.aload_n 0, 1) := by decide +kernel
theorem dX5_startsOver_37 : decode cX5_startsOver 37 = .ok (.getfield 29, 3) := by decide +kernel
theorem dX5_startsOver_40 : decode cX5_startsOver 40 = .ok (.invokevirtual 38, 3) := by decide +kernel
theorem dX5_startsOver_43 : decode cX5_startsOver 43 = .ok (.aload_n 0, 1) := by decide +kernel
theorem dX5_startsOver_44 : decode cX5_startsOver 44 = .ok (.getfield 29, 3) := by decide +kernel
theorem dX5_startsOver_47 : decode cX5_startsOver 47 = .ok (.iconst 0, 1) := by decide +kernel
theorem dX5_startsOver_48 : decode cX5_startsOver 48 = .ok (.invokevirtual 45, 3) := by decide +kernel
theorem dX5_startsOver_51 : decode cX5_startsOver 51 = .ok (.aload_n 0, 1) := by decide +kernel
theorem dX5_startsOver_52 : decode cX5_startsOver 52 = .ok (.iconst 0, 1) := by decide +kernel
theorem dX5_startsOver_53 : decode cX5_startsOver 53 = .ok (.putfield 48, 3) := by decide +kernel
theorem dX5_startsOver_56 : decode cX5_startsOver 56 = .ok (.return_, 1) := by decide +kernel
theorem dX5_addsPlace_0 : decode cX5_addsPlace 0 = .ok (.aload_n 0, 1) := by decide +kernel
theorem dX5_addsPlace_1 : decode cX5_addsPlace 1 = .ok (.getfield 14, 3) := by decide +kernel
theorem dX5_addsPlace_4 : decode cX5_addsPlace 4 = .ok (.iload_n 1, 1) := by decide +kernel
theorem dX5_addsPlace_5 : decode cX5_addsPlace 5 = .ok (.invokevirtual 45, 3) := by decide +kernel
theorem dX5_addsPlace_8 : decode cX5_addsPlace 8 = .ok (.aload_n 0, 1) := by decide +kernel
theorem dX5_addsPlace_9 : decode cX5_addsPlace 9 = .ok (.getfield 20, 3) := by decide +kernel
theorem dX5_addsPlace_12 : decode cX5_addsPlace 12 = .ok (.iload_n 2, 1) := by decide +kernel
theorem dX5_addsPlace_13 : decode cX5_addsPlace 13 = .ok (.invokevirtual 45, 3) := by decide +kernel
theorem dX5_addsPlace_16 : decode cX5_addsPlace 16 = .ok (.aload_n 0, 1) := by decide +kernel
theorem dX5_addsPlace_17 : decode cX5_addsPlace 17 = .ok (.getfield 23, 3) := by decide +kernel
theorem dX5_addsPlace_20 : decode cX5_addsPlace 20 = .ok (.iload_n 3, 1) := by decide +kernel
theorem dX5_addsPlace_21 : decode cX5_addsPlace 21 = .ok (.invokevirtual 45, 3) := by decide +kernel
theorem dX5_addsPlace_24 : decode cX5_addsPlace 24 = .ok (.aload_n 0, 1) := by decide +kernel
theorem dX5_addsPlace_25 : decode cX5_addsPlace 25 = .ok (.getfield 26, 3) := by decide +kernel
theorem dX5_addsPlace_28 : decode cX5_addsPlace 28 = .ok (.iload 4, 2) := by decide +kernel
theorem dX5_addsPlace_30 : decode cX5_addsPlace 30 = .ok (.invokevirtual 45, 3) := by decide +kernel
theorem dX5_addsPlace_33 : decode cX5_addsPlace 33 = .ok (.return_, 1) := by decide +kernel
theorem dX5_measures_0 : decode cX5_measures 0 = .ok (.aload_n 0, 1) := by decide +kernel
theorem dX5_measures_1 : decode cX5_measures 1 = .ok (.invokevirtual 35, 3) := by decide +kernel
theorem dX5_measures_4 : decode cX5_measures 4 = .ok (.iconst 0, 1) := by decide +kernel
theorem dX5_measures_5 : decode cX5_measures 5 = .ok (.istore_n 2, 1) := by decide +kernel
theorem dX5_measures_6 : decode cX5_measures 6 = .ok (.iconst 0, 1) := by decide +kernel
theorem dX5_measures_7 : decode cX5_measures 7 = .ok (.istore_n 3, 1) := by decide +kernel
theorem dX5_measures_8 : decode cX5_measures 8 = .ok (.iconst 0, 1) := by decide +kernel
theorem dX5_measures_9 : decode cX5_measures 9 = .ok (.istore 4, 2) := by decide +kernel
theorem dX5_measures_11 : decode cX5_measures 11 = .ok (.iload 4, 2) := by decide +kernel
theorem dX5_measures_13 : decode cX5_measures 13 = .ok (.aload_n 1, 1) := by decide +kernel
theorem dX5_measures_14 : decode cX5_measures 14 = .ok (.invokevirtual 52, 3) := by decide +kernel
theorem dX5_measures_17 : decode cX5_measures 17 = .ok (.if_icmp .ge 78, 3) := by decide +kernel
theorem dX5_measures_20 : decode cX5_measures 20 = .ok (.aload_n 1, 1) := by decide +kernel
theorem dX5_measures_21 : decode cX5_measures 21 = .ok (.iload 4, 2) := by decide +kernel
theorem dX5_measures_23 : decode cX5_measures 23 = .ok (.invokevirtual 56, 3) := by decide +kernel
theorem dX5_measures_26 : decode cX5_measures 26 = .ok (.istore 5, 2) := by decide +kernel
theorem dX5_measures_28 : decode cX5_measures 28 = .ok (.iload_n 2, 1) := by decide +kernel
theorem dX5_measures_29 : decode cX5_measures 29 = .ok (.iload 5, 2) := by decide +kernel
theorem dX5_measures_31 : decode cX5_measures 31 = .ok (.invokestatic 60, 3) := by decide +kernel
theorem dX5_measures_34 : decode cX5_measures 34 = .ok (.ifCond .eq 7, 3) := by decide +kernel
theorem dX5_measures_37 : decode cX5_measures 37 = .ok (.iconst 1, 1) := by decide +kernel
theorem dX5_measures_38 : decode cX5_measures 38 = .ok (.goto 4, 3) := by decide +kernel
theorem dX5_measures_41 : decode cX5_measures 41 = .ok (.iconst 0, 1) := by decide +kernel
theorem dX5_measures_42 : decode cX5_measures 42 = .ok (.iadd, 1) := by decide +kernel
theorem dX5_measures_43 : decode cX5_measures 43 = .ok (.istore_n 2, 1) := by decide +kernel
theorem dX5_measures_44 : decode cX5_measures 44 = .ok (.iload_n 3, 1) := by decide +kernel
theorem dX5_measures_45 : decode cX5_measures 45 = .ok (.iload 5, 2) := by decide +kernel
theorem dX5_measures_47 : decode cX5_measures 47 = .ok (.invokestatic 64, 3) := by decide +kernel
theorem dX5_measures_50 : decode cX5_measures 50 = .ok (.iadd, 1) := by decide +kernel
theorem dX5_measures_51 : decode cX5_measures 51 = .ok (.istore_n 3, 1) := by decide +kernel
theorem dX5_measures_52 : decode cX5_measures 52 = .ok (.iload 5, 2) := by decide +kernel
theorem dX5_measures_54 : decode cX5_measures 54 = .ok (.bipush 10, 2) := by decide +kernel
theorem dX5_measures_56 : decode cX5_measures 56 = .ok (.if_icmp .ne 14, 3) := by decide +kernel
theorem dX5_measures_59 : decode cX5_measures 59 = .ok (.aload_n 0, 1) := by decide +kernel
theorem dX5_measures_60 : decode cX5_measures 60 = .ok (.getfield 29, 3) := by decide +kernel
theorem dX5_measures_63 : decode cX5_measures 63 = .ok (.iload 4, 2) := by decide +kernel
theorem dX5_measures_65 : decode cX5_measures 65 = .ok (.iconst 1, 1) := by decide +kernel
theorem dX5_measures_66 : decode cX5_measures 66 = .ok (.iadd, 1) := by decide +kernel
theorem dX5_measures_67 : decode cX5_measures 67 = .ok (.invokevirtual 45, 3) := by decide +kernel
theorem dX5_measures_70 : decode cX5_measures 70 = .ok (.aload_n 0, 1) := by decide +kernel
theorem dX5_measures_71 : decode cX5_measures 71 = .ok (.iload 4, 2) := by decide +kernel
theorem dX5_measures_73 : decode cX5_measures 73 = .ok (.iconst 1, 1) := by decide +kernel
theorem dX5_measures_74 : decode cX5_measures 74 = .ok (.iadd, 1) := by decide +kernel
theorem dX5_measures_75 : decode cX5_measures 75 = .ok (.iload_n 2, 1) := by decide +kernel
theorem dX5_measures_76 : decode cX5_measures 76 = .ok (.aload_n 0, 1) := by decide +kernel
theorem dX5_measures_77 : decode cX5_measures 77 = .ok (.getfield 29, 3) := by decide +kernel
theorem dX5_measures_80 : decode cX5_measures 80 = .ok (.invokevirtual 52, 3) := by decide +kernel
theorem dX5_measures_83 : decode cX5_measures 83 = .ok (.iconst 1, 1) := by decide +kernel
theorem dX5_measures_84 : decode cX5_measures 84 = .ok (.isub, 1) := by decide +kernel
theorem dX5_measures_85 : decode cX5_measures 85 = .ok (.iload_n 3, 1) := by decide +kernel
theorem dX5_measures_86 : decode cX5_measures 86 = .ok (.invokevirtual 41, 3) := by decide +kernel
theorem dX5_measures_89 : decode cX5_measures 89 = .ok (.iinc 4 1, 3) := by decide +kernel
theorem dX5_measures_92 : decode cX5_measures 92 = .ok (.goto (-81), 3) := by decide +kernel
theorem dX5_measures_95 : decode cX5_measures 95 = .ok (.return_, 1) := by decide +kernel
theorem dX5_rowOf_0 : decode cX5_rowOf 0 = .ok (.iload_n 1, 1) := by decide +kernel
theorem dX5_rowOf_1 : decode cX5_rowOf 1 = .ok (.tableswitch 42 1 3 #[27, 32, 37], 27) := by decide +kernel
theorem dX5_rowOf_28 : decode cX5_rowOf 28 = .ok (.aload_n 0, 1) := by decide +kernel
theorem dX5_rowOf_29 : decode cX5_rowOf 29 = .ok (.getfield 20, 3) := by decide +kernel
theorem dX5_rowOf_32 : decode cX5_rowOf 32 = .ok (.areturn, 1) := by decide +kernel
theorem dX5_rowOf_33 : decode cX5_rowOf 33 = .ok (.aload_n 0, 1) := by decide +kernel
theorem dX5_rowOf_34 : decode cX5_rowOf 34 = .ok (.getfield 23, 3) := by decide +kernel
theorem dX5_rowOf_37 : decode cX5_rowOf 37 = .ok (.areturn, 1) := by decide +kernel
theorem dX5_rowOf_38 : decode cX5_rowOf 38 = .ok (.aload_n 0, 1) := by decide +kernel
theorem dX5_rowOf_39 : decode cX5_rowOf 39 = .ok (.getfield 26, 3) := by decide +kernel
theorem dX5_rowOf_42 : decode cX5_rowOf 42 = .ok (.areturn, 1) := by decide +kernel
theorem dX5_rowOf_43 : decode cX5_rowOf 43 = .ok (.aload_n 0, 1) := by decide +kernel
theorem dX5_rowOf_44 : decode cX5_rowOf 44 = .ok (.getfield 14, 3) := by decide +kernel
theorem dX5_rowOf_47 : decode cX5_rowOf 47 = .ok (.areturn, 1) := by decide +kernel
theorem dX5_ahead_0 : decode cX5_ahead 0 = .ok (.aload_n 0, 1) := by decide +kernel
theorem dX5_ahead_1 : decode cX5_ahead 1 = .ok (.iload_n 1, 1) := by decide +kernel
theorem dX5_ahead_2 : decode cX5_ahead 2 = .ok (.invokevirtual 67, 3) := by decide +kernel
theorem dX5_ahead_5 : decode cX5_ahead 5 = .ok (.iload_n 2, 1) := by decide +kernel
theorem dX5_ahead_6 : decode cX5_ahead 6 = .ok (.invokevirtual 56, 3) := by decide +kernel
theorem dX5_ahead_9 : decode cX5_ahead 9 = .ok (.ireturn, 1) := by decide +kernel
theorem dX5_between_0 : decode cX5_between 0 = .ok (.aload_n 0, 1) := by decide +kernel
theorem dX5_between_1 : decode cX5_between 1 = .ok (.iload_n 1, 1) := by decide +kernel
theorem dX5_between_2 : decode cX5_between 2 = .ok (.iload_n 3, 1) := by decide +kernel
theorem dX5_between_3 : decode cX5_between 3 = .ok (.invokevirtual 71, 3) := by decide +kernel
theorem dX5_between_6 : decode cX5_between 6 = .ok (.aload_n 0, 1) := by decide +kernel
theorem dX5_between_7 : decode cX5_between 7 = .ok (.iload_n 1, 1) := by decide +kernel
theorem dX5_between_8 : decode cX5_between 8 = .ok (.iload_n 2, 1) := by decide +kernel
theorem dX5_between_9 : decode cX5_between 9 = .ok (.invokevirtual 71, 3) := by decide +kernel
theorem dX5_between_12 : decode cX5_between 12 = .ok (.isub, 1) := by decide +kernel
theorem dX5_between_13 : decode cX5_between 13 = .ok (.ireturn, 1) := by decide +kernel
theorem dX5_lastPlace_0 : decode cX5_lastPlace 0 = .ok (.aload_n 0, 1) := by decide +kernel
theorem dX5_lastPlace_1 : decode cX5_lastPlace 1 = .ok (.getfield 14, 3) := by decide +kernel
theorem dX5_lastPlace_4 : decode cX5_lastPlace 4 = .ok (.invokevirtual 52, 3) := by decide +kernel
theorem dX5_lastPlace_7 : decode cX5_lastPlace 7 = .ok (.iconst 1, 1) := by decide +kernel
theorem dX5_lastPlace_8 : decode cX5_lastPlace 8 = .ok (.isub, 1) := by decide +kernel
theorem dX5_lastPlace_9 : decode cX5_lastPlace 9 = .ok (.ireturn, 1) := by decide +kernel
theorem dX5_total_0 : decode cX5_total 0 = .ok (.aload_n 0, 1) := by decide +kernel
theorem dX5_total_1 : decode cX5_total 1 = .ok (.iload_n 1, 1) := by decide +kernel
theorem dX5_total_2 : decode cX5_total 2 = .ok (.aload_n 0, 1) := by decide +kernel
theorem dX5_total_3 : decode cX5_total 3 = .ok (.invokevirtual 75, 3) := by decide +kernel
theorem dX5_total_6 : decode cX5_total 6 = .ok (.invokevirtual 71, 3) := by decide +kernel
theorem dX5_total_9 : decode cX5_total 9 = .ok (.ireturn, 1) := by decide +kernel
theorem dX5_placeBy_0 : decode cX5_placeBy 0 = .ok (.iload_n 1, 1) := by decide +kernel
theorem dX5_placeBy_1 : decode cX5_placeBy 1 = .ok (.iconst 2, 1) := by decide +kernel
theorem dX5_placeBy_2 : decode cX5_placeBy 2 = .ok (.if_icmp .ne 9, 3) := by decide +kernel
theorem dX5_placeBy_5 : decode cX5_placeBy 5 = .ok (.aload_n 0, 1) := by decide +kernel
theorem dX5_placeBy_6 : decode cX5_placeBy 6 = .ok (.iload_n 2, 1) := by decide +kernel
theorem dX5_placeBy_7 : decode cX5_placeBy 7 = .ok (.invokevirtual 78, 3) := by decide +kernel
theorem dX5_placeBy_10 : decode cX5_placeBy 10 = .ok (.ireturn, 1) := by decide +kernel
theorem dX5_placeBy_11 : decode cX5_placeBy 11 = .ok (.aload_n 0, 1) := by decide +kernel
theorem dX5_placeBy_12 : decode cX5_placeBy 12 = .ok (.iload_n 1, 1) := by decide +kernel
theorem dX5_placeBy_13 : decode cX5_placeBy 13 = .ok (.iconst 0, 1) := by decide +kernel
theorem dX5_placeBy_14 : decode cX5_placeBy 14 = .ok (.aload_n 0, 1) := by decide +kernel
theorem dX5_placeBy_15 : decode cX5_placeBy 15 = .ok (.invokevirtual 75, 3) := by decide +kernel
theorem dX5_placeBy_18 : decode cX5_placeBy 18 = .ok (.iload_n 2, 1) := by decide +kernel
theorem dX5_placeBy_19 : decode cX5_placeBy 19 = .ok (.invokevirtual 81, 3) := by decide +kernel
theorem dX5_placeBy_22 : decode cX5_placeBy 22 = .ok (.ireturn, 1) := by decide +kernel
theorem dX5_farthest_0 : decode cX5_farthest 0 = .ok (.iload_n 2, 1) := by decide +kernel
theorem dX5_farthest_1 : decode cX5_farthest 1 = .ok (.istore 5, 2) := by decide +kernel
theorem dX5_farthest_3 : decode cX5_farthest 3 = .ok (.iload 5, 2) := by decide +kernel
theorem dX5_farthest_5 : decode cX5_farthest 5 = .ok (.iload_n 3, 1) := by decide +kernel
theorem dX5_farthest_6 : decode cX5_farthest 6 = .ok (.if_icmp .ge 24, 3) := by decide +kernel
theorem dX5_farthest_9 : decode cX5_farthest 9 = .ok (.aload_n 0, 1) := by decide +kernel
theorem dX5_farthest_10 : decode cX5_farthest 10 = .ok (.iload_n 1, 1) := by decide +kernel
theorem dX5_farthest_11 : decode cX5_farthest 11 = .ok (.iload_n 2, 1) := by decide +kernel
theorem dX5_farthest_12 : decode cX5_farthest 12 = .ok (.iload 5, 2) := by decide +kernel
theorem dX5_farthest_14 : decode cX5_farthest 14 = .ok (.iconst 1, 1) := by decide +kernel
theorem dX5_farthest_15 : decode cX5_farthest 15 = .ok (.iadd, 1) := by decide +kernel
theorem dX5_farthest_16 : decode cX5_farthest 16 = .ok (.invokevirtual 85, 3) := by decide +kernel
theorem dX5_farthest_19 : decode cX5_farthest 19 = .ok (.iload 4, 2) := by decide +kernel
theorem dX5_farthest_21 : decode cX5_farthest 21 = .ok (.if_icmp .gt 9, 3) := by decide +kernel
theorem dX5_farthest_24 : decode cX5_farthest 24 = .ok (.iinc 5 1, 3) := by decide +kernel
theorem dX5_farthest_27 : decode cX5_farthest 27 = .ok (.goto (-24), 3) := by decide +kernel
theorem dX5_farthest_30 : decode cX5_farthest 30 = .ok (.iload 5, 2) := by decide +kernel
theorem dX5_farthest_32 : decode cX5_farthest 32 = .ok (.ireturn, 1) := by decide +kernel
theorem dX5_lines_0 : decode cX5_lines 0 = .ok (.aload_n 0, 1) := by decide +kernel
theorem dX5_lines_1 : decode cX5_lines 1 = .ok (.getfield 29, 3) := by decide +kernel
theorem dX5_lines_4 : decode cX5_lines 4 = .ok (.invokevirtual 52, 3) := by decide +kernel
theorem dX5_lines_7 : decode cX5_lines 7 = .ok (.ireturn, 1) := by decide +kernel
theorem dX5_lineBegin_0 : decode cX5_lineBegin 0 = .ok (.aload_n 0, 1) := by decide +kernel
theorem dX5_lineBegin_1 : decode cX5_lineBegin 1 = .ok (.getfield 29, 3) := by decide +kernel
theorem dX5_lineBegin_4 : decode cX5_lineBegin 4 = .ok (.iload_n 1, 1) := by decide +kernel
theorem dX5_lineBegin_5 : decode cX5_lineBegin 5 = .ok (.invokevirtual 56, 3) := by decide +kernel
theorem dX5_lineBegin_8 : decode cX5_lineBegin 8 = .ok (.ireturn, 1) := by decide +kernel
theorem dX5_lineEnd_0 : decode cX5_lineEnd 0 = .ok (.iload_n 1, 1) := by decide +kernel
theorem dX5_lineEnd_1 : decode cX5_lineEnd 1 = .ok (.iconst 1, 1) := by decide +kernel
theorem dX5_lineEnd_2 : decode cX5_lineEnd 2 = .ok (.iadd, 1) := by decide +kernel
theorem dX5_lineEnd_3 : decode cX5_lineEnd 3 = .ok (.aload_n 0, 1) := by decide +kernel
theorem dX5_lineEnd_4 : decode cX5_lineEnd 4 = .ok (.invokevirtual 89, 3) := by decide +kernel
theorem dX5_lineEnd_7 : decode cX5_lineEnd 7 = .ok (.if_icmp .ge 15, 3) := by decide +kernel
theorem dX5_lineEnd_10 : decode cX5_lineEnd 10 = .ok (.aload_n 0, 1) := by decide +kernel
theorem dX5_lineEnd_11 : decode cX5_lineEnd 11 = .ok (.iload_n 1, 1) := by decide +kernel
theorem dX5_lineEnd_12 : decode cX5_lineEnd 12 = .ok (.iconst 1, 1) := by decide +kernel
theorem dX5_lineEnd_13 : decode cX5_lineEnd 13 = .ok (.iadd, 1) := by decide +kernel
theorem dX5_lineEnd_14 : decode cX5_lineEnd 14 = .ok (.invokevirtual 78, 3) := by decide +kernel
theorem dX5_lineEnd_17 : decode cX5_lineEnd 17 = .ok (.iconst 1, 1) := by decide +kernel
theorem dX5_lineEnd_18 : decode cX5_lineEnd 18 = .ok (.isub, 1) := by decide +kernel
theorem dX5_lineEnd_19 : decode cX5_lineEnd 19 = .ok (.goto 7, 3) := by decide +kernel
theorem dX5_lineEnd_22 : decode cX5_lineEnd 22 = .ok (.aload_n 0, 1) := by decide +kernel
theorem dX5_lineEnd_23 : decode cX5_lineEnd 23 = .ok (.invokevirtual 75, 3) := by decide +kernel
theorem dX5_lineEnd_26 : decode cX5_lineEnd 26 = .ok (.ireturn, 1) := by decide +kernel
theorem dX5_lineWidth_0 : decode cX5_lineWidth 0 = .ok (.aload_n 0, 1) := by decide +kernel
theorem dX5_lineWidth_1 : decode cX5_lineWidth 1 = .ok (.iconst 3, 1) := by decide +kernel
theorem dX5_lineWidth_2 : decode cX5_lineWidth 2 = .ok (.aload_n 0, 1) := by decide +kernel
theorem dX5_lineWidth_3 : decode cX5_lineWidth 3 = .ok (.iload_n 1, 1) := by decide +kernel
theorem dX5_lineWidth_4 : decode cX5_lineWidth 4 = .ok (.invokevirtual 78, 3) := by decide +kernel
theorem dX5_lineWidth_7 : decode cX5_lineWidth 7 = .ok (.aload_n 0, 1) := by decide +kernel
theorem dX5_lineWidth_8 : decode cX5_lineWidth 8 = .ok (.iload_n 1, 1) := by decide +kernel
theorem dX5_lineWidth_9 : decode cX5_lineWidth 9 = .ok (.invokevirtual 92, 3) := by decide +kernel
theorem dX5_lineWidth_12 : decode cX5_lineWidth 12 = .ok (.invokevirtual 85, 3) := by decide +kernel
theorem dX5_lineWidth_15 : decode cX5_lineWidth 15 = .ok (.ireturn, 1) := by decide +kernel
theorem dX5_lineByWidth_0 : decode cX5_lineByWidth 0 = .ok (.aload_n 0, 1) := by decide +kernel
theorem dX5_lineByWidth_1 : decode cX5_lineByWidth 1 = .ok (.getfield 48, 3) := by decide +kernel
theorem dX5_lineByWidth_4 : decode cX5_lineByWidth 4 = .ok (.ifCond .ne 12, 3) := by decide +kernel
theorem dX5_lineByWidth_7 : decode cX5_lineByWidth 7 = .ok (.aload_n 0, 1) := by decide +kernel
theorem dX5_lineByWidth_8 : decode cX5_lineByWidth 8 = .ok (.invokevirtual 95, 3) := by decide +kernel
theorem dX5_lineByWidth_11 : decode cX5_lineByWidth 11 = .ok (.aload_n 0, 1) := by decide +kernel
theorem dX5_lineByWidth_12 : decode cX5_lineByWidth 12 = .ok (.iconst 1, 1) := by decide +kernel
theorem dX5_lineByWidth_13 : decode cX5_lineByWidth 13 = .ok (.putfield 48, 3) := by decide +kernel
theorem dX5_lineByWidth_16 : decode cX5_lineByWidth 16 = .ok (.aload_n 0, 1) := by decide +kernel
theorem dX5_lineByWidth_17 : decode cX5_lineByWidth 17 = .ok (.getfield 32, 3) := by decide +kernel
theorem dX5_lineByWidth_20 : decode cX5_lineByWidth 20 = .ok (.iload_n 1, 1) := by decide +kernel
theorem dX5_lineByWidth_21 : decode cX5_lineByWidth 21 = .ok (.invokevirtual 56, 3) := by decide +kernel
theorem dX5_lineByWidth_24 : decode cX5_lineByWidth 24 = .ok (.ireturn, 1) := by decide +kernel
theorem dX5_sortsLines_0 : decode cX5_sortsLines 0 = .ok (.aload_n 0, 1) := by decide +kernel
theorem dX5_sortsLines_1 : decode cX5_sortsLines 1 = .ok (.getfield 32, 3) := by decide +kernel
theorem dX5_sortsLines_4 : decode cX5_sortsLines 4 = .ok (.invokevirtual 38, 3) := by decide +kernel
theorem dX5_sortsLines_7 : decode cX5_sortsLines 7 = .ok (.iconst 0, 1) := by decide +kernel
theorem dX5_sortsLines_8 : decode cX5_sortsLines 8 = .ok (.istore_n 1, 1) := by decide +kernel
theorem dX5_sortsLines_9 : decode cX5_sortsLines 9 = .ok (.iload_n 1, 1) := by decide +kernel
theorem dX5_sortsLines_10 : decode cX5_sortsLines 10 = .ok (.aload_n 0, 1) := by decide +kernel
theorem dX5_sortsLines_11 : decode cX5_sortsLines 11 = .ok (.invokevirtual 89, 3) := by decide +kernel
theorem dX5_sortsLines_14 : decode cX5_sortsLines 14 = .ok (.if_icmp .ge 80, 3) := by decide +kernel
theorem dX5_sortsLines_17 : decode cX5_sortsLines 17 = .ok (.aload_n 0, 1) := by decide +kernel
theorem dX5_sortsLines_18 : decode cX5_sortsLines 18 = .ok (.iload_n 1, 1) := by decide +kernel
theorem dX5_sortsLines_19 : decode cX5_sortsLines 19 = .ok (.invokevirtual 98, 3) := by decide +kernel
theorem dX5_sortsLines_22 : decode cX5_sortsLines 22 = .ok (.istore_n 2, 1) := by decide +kernel
theorem dX5_sortsLines_23 : decode cX5_sortsLines 23 = .ok (.aload_n 0, 1) := by decide +kernel
theorem dX5_sortsLines_24 : decode cX5_sortsLines 24 = .ok (.getfield 32, 3) := by decide +kernel
theorem dX5_sortsLines_27 : decode cX5_sortsLines 27 = .ok (.iload_n 1, 1) := by decide +kernel
theorem dX5_sortsLines_28 : decode cX5_sortsLines 28 = .ok (.invokevirtual 45, 3) := by decide +kernel
theorem dX5_sortsLines_31 : decode cX5_sortsLines 31 = .ok (.iload_n 1, 1) := by decide +kernel
theorem dX5_sortsLines_32 : decode cX5_sortsLines 32 = .ok (.istore_n 3, 1) := by decide +kernel
theorem dX5_sortsLines_33 : decode cX5_sortsLines 33 = .ok (.iload_n 3, 1) := by decide +kernel
theorem dX5_sortsLines_34 : decode cX5_sortsLines 34 = .ok (.ifCond .le 45, 3) := by decide +kernel
theorem dX5_sortsLines_37 : decode cX5_sortsLines 37 = .ok (.aload_n 0, 1) := by decide +kernel
theorem dX5_sortsLines_38 : decode cX5_sortsLines 38 = .ok (.aload_n 0, 1) := by decide +kernel
theorem dX5_sortsLines_39 : decode cX5_sortsLines 39 = .ok (.getfield 32, 3) := by decide +kernel
theorem dX5_sortsLines_42 : decode cX5_sortsLines 42 = .ok (.iload_n 3, 1) := by decide +kernel
theorem dX5_sortsLines_43 : decode cX5_sortsLines 43 = .ok (.iconst 1, 1) := by decide +kernel
theorem dX5_sortsLines_44 : decode cX5_sortsLines 44 = .ok (.isub, 1) := by decide +kernel
theorem dX5_sortsLines_45 : decode cX5_sortsLines 45 = .ok (.invokevirtual 56, 3) := by decide +kernel
theorem dX5_sortsLines_48 : decode cX5_sortsLines 48 = .ok (.invokevirtual 98, 3) := by decide +kernel
theorem dX5_sortsLines_51 : decode cX5_sortsLines 51 = .ok (.iload_n 2, 1) := by decide +kernel
theorem dX5_sortsLines_52 : decode cX5_sortsLines 52 = .ok (.if_icmp .ge 27, 3) := by decide +kernel
theorem dX5_sortsLines_55 : decode cX5_sortsLines 55 = .ok (.aload_n 0, 1) := by decide +kernel
theorem dX5_sortsLines_56 : decode cX5_sortsLines 56 = .ok (.getfield 32, 3) := by decide +kernel
theorem dX5_sortsLines_59 : decode cX5_sortsLines 59 = .ok (.iload_n 3, 1) := by decide +kernel
theorem dX5_sortsLines_60 : decode cX5_sortsLines 60 = .ok (.aload_n 0, 1) := by decide +kernel
theorem dX5_sortsLines_61 : decode cX5_sortsLines 61 = .ok (.getfield 32, 3) := by decide +kernel
theorem dX5_sortsLines_64 : decode cX5_sortsLines 64 = .ok (.iload_n 3, 1) := by decide +kernel
theorem dX5_sortsLines_65 : decode cX5_sortsLines 65 = .ok (.iconst 1, 1) := by decide +kernel
theorem dX5_sortsLines_66 : decode cX5_sortsLines 66 = .ok (.isub, 1) := by decide +kernel
theorem dX5_sortsLines_67 : decode cX5_sortsLines 67 = .ok (.invokevirtual 56, 3) := by decide +kernel
theorem dX5_sortsLines_70 : decode cX5_sortsLines 70 = .ok (.invokevirtual 101, 3) := by decide +kernel
theorem dX5_sortsLines_73 : decode cX5_sortsLines 73 = .ok (.iinc 3 (-1), 3) := by decide +kernel
theorem dX5_sortsLines_76 : decode cX5_sortsLines 76 = .ok (.goto (-43), 3) := by decide +kernel
theorem dX5_sortsLines_79 : decode cX5_sortsLines 79 = .ok (.aload_n 0, 1) := by decide +kernel
theorem dX5_sortsLines_80 : decode cX5_sortsLines 80 = .ok (.getfield 32, 3) := by decide +kernel
theorem dX5_sortsLines_83 : decode cX5_sortsLines 83 = .ok (.iload_n 3, 1) := by decide +kernel
theorem dX5_sortsLines_84 : decode cX5_sortsLines 84 = .ok (.iload_n 1, 1) := by decide +kernel
theorem dX5_sortsLines_85 : decode cX5_sortsLines 85 = .ok (.invokevirtual 101, 3) := by decide +kernel
theorem dX5_sortsLines_88 : decode cX5_sortsLines 88 = .ok (.iinc 1 1, 3) := by decide +kernel
theorem dX5_sortsLines_91 : decode cX5_sortsLines 91 = .ok (.goto (-82), 3) := by decide +kernel
theorem dX5_sortsLines_94 : decode cX5_sortsLines 94 = .ok (.return_, 1) := by decide +kernel
end
section
theorem dX6_init_0 : decode cX6_init 0 = .ok (.aload_n 0, 1) := by decide +kernel
theorem dX6_init_1 : decode cX6_init 1 = .ok (.invokespecial 3, 3) := by decide +kernel
theorem dX6_init_4 : decode cX6_init 4 = .ok (.aload_n 0, 1) := by decide +kernel
theorem dX6_init_5 : decode cX6_init 5 = .ok (.new 9, 3) := by decide +kernel
theorem dX6_init_8 : decode cX6_init 8 = .ok (.dup, 1) := by decide +kernel
theorem dX6_init_9 : decode cX6_init 9 = .ok (.sipush 216, 3) := by decide +kernel
theorem dX6_init_12 : decode cX6_init 12 = .ok (.invokespecial 11, 3) := by decide +kernel
theorem dX6_init_15 : decode cX6_init 15 = .ok (.putfield 14, 3) := by decide +kernel
theorem dX6_init_18 : decode cX6_init 18 = .ok (.aload_n 0, 1) := by decide +kernel
theorem dX6_init_19 : decode cX6_init 19 = .ok (.new 18, 3) := by decide +kernel
theorem dX6_init_22 : decode cX6_init 22 = .ok (.dup, 1) := by decide +kernel
theorem dX6_init_23 : decode cX6_init 23 = .ok (.invokespecial 20, 3) := by decide +kernel
theorem dX6_init_26 : decode cX6_init 26 = .ok (.putfield 21, 3) := by decide +kernel
theorem dX6_init_29 : decode cX6_init 29 = .ok (.aload_n 0, 1) := by decide +kernel
theorem dX6_init_30 : decode cX6_init 30 = .ok (.new 25, 3) := by decide +kernel
theorem dX6_init_33 : decode cX6_init 33 = .ok (.dup, 1) := by decide +kernel
theorem dX6_init_34 : decode cX6_init 34 = .ok (.bipush 24, 2) := by decide +kernel
theorem dX6_init_36 : decode cX6_init 36 = .ok (.invokespecial 27, 3) := by decide +kernel
theorem dX6_init_39 : decode cX6_init 39 = .ok (.putfield 28, 3) := by decide +kernel
theorem dX6_init_42 : decode cX6_init 42 = .ok (.aload_n 0, 1) := by decide +kernel
theorem dX6_init_43 : decode cX6_init 43 = .ok (.new 32, 3) := by decide +kernel
theorem dX6_init_46 : decode cX6_init 46 = .ok (.dup, 1) := by decide +kernel
theorem dX6_init_47 : decode cX6_init 47 = .ok (.invokespecial 34, 3) := by decide +kernel
theorem dX6_init_50 : decode cX6_init 50 = .ok (.putfield 35, 3) := by decide +kernel
theorem dX6_init_53 : decode cX6_init 53 = .ok (.aload_n 0, 1) := by decide +kernel
theorem dX6_init_54 : decode cX6_init 54 = .ok (.new 39, 3) := by decide +kernel
theorem dX6_init_57 : decode cX6_init 57 = .ok (.dup, 1) := by decide +kernel
theorem dX6_init_58 : decode cX6_init 58 = .ok (.invokespecial 41, 3) := by decide +kernel
theorem dX6_init_61 : decode cX6_init 61 = .ok (.putfield 42, 3) := by decide +kernel
theorem dX6_init_64 : decode cX6_init 64 = .ok (.aload_n 0, 1) := by decide +kernel
theorem dX6_init_65 : decode cX6_init 65 = .ok (.iconst 2, 1) := by decide +kernel
theorem dX6_init_66 : decode cX6_init 66 = .ok (.anewarray 9, 3) := by decide +kernel
theorem dX6_init_69 : decode cX6_init 69 = .ok (.putfield 46, 3) := by decide +kernel
theorem dX6_init_72 : decode cX6_init 72 = .ok (.return_, 1) := by decide +kernel
theorem dX6_type_0 : decode cX6_type 0 = .ok (.iload_n 1, 1) := by decide +kernel
theorem dX6_type_1 : decode cX6_type 1 = .ok (.ifCond .lt 10, 3) := by decide +kernel
theorem dX6_type_4 : decode cX6_type 4 = .ok (.iload_n 1, 1) := by decide +kernel
theorem dX6_type_5 : decode cX6_type 5 = .ok (.sipush 255, 3) := by decide +kernel
theorem dX6_type_8 : decode cX6_type 8 = .ok (.if_icmp .le 5, 3) := by decide +kernel
theorem dX6_type_11 : decode cX6_type 11 = .ok (.iconst (-1), 1) := by decide +kernel
theorem dX6_type_12 : decode cX6_type 12 = .ok (.ireturn, 1) := by decide +kernel
theorem dX6_type_13 : decode cX6_type 13 = .ok (.aload_n 0, 1) := by decide +kernel
theorem dX6_type_14 : decode cX6_type 14 = .ok (.getfield 28, 3) := by decide +kernel
theorem dX6_type_17 : decode cX6_type 17 = .ok (.invokevirtual 50, 3) := by decide +kernel
theorem dX6_type_20 : decode cX6_type 20 = .ok (.bipush 24, 2) := by decide +kernel
theorem dX6_type_22 : decode cX6_type 22 = .ok (.if_icmp .lt 6, 3) := by decide +kernel
theorem dX6_type_25 : decode cX6_type 25 = .ok (.bipush (-3), 2) := by decide +kernel
theorem dX6_type_27 : decode cX6_type 27 = .ok (.ireturn, 1) := by decide +kernel
theorem dX6_type_28 : decode cX6_type 28 = .ok (.aload_n 0, 1) := by decide +kernel
theorem dX6_type_29 : decode cX6_type 29 = .ok (.getfield 28, 3) := by decide +kernel
theorem dX6_type_32 : decode cX6_type 32 = .ok (.iload_n 1, 1) := by decide +kernel
theorem dX6_type_33 : decode cX6_type 33 = .ok (.invokevirtual 54, 3) := by decide +kernel
theorem dX6_type_36 : decode cX6_type 36 = .ok (.aload_n 0, 1) := by decide +kernel
theorem dX6_type_37 : decode cX6_type 37 = .ok (.getfield 28, 3) := by decide +kernel
theorem dX6_type_40 : decode cX6_type 40 = .ok (.invokevirtual 50, 3) := by decide +kernel
theorem dX6_type_43 : decode cX6_type 43 = .ok (.ireturn, 1) := by decide +kernel
theorem dX6_clear_0 : decode cX6_clear 0 = .ok (.aload_n 0, 1) := by decide +kernel
theorem dX6_clear_1 : decode cX6_clear 1 = .ok (.getfield 28, 3) := by decide +kernel
theorem dX6_clear_4 : decode cX6_clear 4 = .ok (.invokevirtual 50, 3) := by decide +kernel
theorem dX6_clear_7 : decode cX6_clear 7 = .ok (.istore_n 1, 1) := by decide +kernel
theorem dX6_clear_8 : decode cX6_clear 8 = .ok (.aload_n 0, 1) := by decide +kernel
theorem dX6_clear_9 : decode cX6_clear 9 = .ok (.getfield 28, 3) := by decide +kernel
theorem dX6_clear_12 : decode cX6_clear 12 = .ok (.invokevirtual 57, 3) := by decide +kernel
theorem dX6_clear_15 : decode cX6_clear 15 = .ok (.iload_n 1, 1) := by decide +kernel
theorem dX6_clear_16 : decode cX6_clear 16 = .ok (.ireturn, 1) := by decide +kernel
theorem dX6_edits_0 : decode cX6_edits 0 = .ok (.aload_n 0, 1) := by decide +kernel
theorem dX6_edits_1 : decode cX6_edits 1 = .ok (.iload_n 1, 1) := by decide +kernel
theorem dX6_edits_2 : decode cX6_edits 2 = .ok (.iload_n 2, 1) := by decide +kernel
theorem dX6_edits_3 : decode cX6_edits 3 = .ok (.invokevirtual 60, 3) := by decide +kernel
theorem dX6_edits_6 : decode cX6_edits 6 = .ok (.ifCond .ne 5, 3) := by decide +kernel
theorem dX6_edits_9 : decode cX6_edits 9 = .ok (.iconst (-1), 1) := by decide +kernel
theorem dX6_edits_10 : decode cX6_edits 10 = .ok (.ireturn, 1) := by decide +kernel
theorem dX6_edits_11 : decode cX6_edits 11 = .ok (.aload_n 0, 1) := by decide +kernel
theorem dX6_edits_12 : decode cX6_edits 12 = .ok (.getfield 35, 3) := by decide +kernel
theorem dX6_edits_15 : decode cX6_edits 15 = .ok (.invokevirtual 64, 3) := by decide +kernel
theorem dX6_edits_18 : decode cX6_edits 18 = .ok (.ifCond .le 6, 3) := by decide +kernel
theorem dX6_edits_21 : decode cX6_edits 21 = .ok (.bipush (-2), 2) := by decide +kernel
theorem dX6_edits_23 : decode cX6_edits 23 = .ok (.ireturn, 1) := by decide +kernel
theorem dX6_edits_24 : decode cX6_edits 24 = .ok (.aload_n 0, 1) := by decide +kernel
theorem dX6_edits_25 : decode cX6_edits 25 = .ok (.getfield 14, 3) := by decide +kernel
theorem dX6_edits_28 : decode cX6_edits 28 = .ok (.getfield 65, 3) := by decide +kernel
theorem dX6_edits_31 : decode cX6_edits 31 = .ok (.invokevirtual 50, 3) := by decide +kernel
theorem dX6_edits_34 : decode cX6_edits 34 = .ok (.iload_n 2, 1) := by decide +kernel
theorem dX6_edits_35 : decode cX6_edits 35 = .ok (.isub, 1) := by decide +kernel
theorem dX6_edits_36 : decode cX6_edits 36 = .ok (.aload_n 0, 1) := by decide +kernel
theorem dX6_edits_37 : decode cX6_edits 37 = .ok (.getfield 28, 3) := by decide +kernel
theorem dX6_edits_40 : decode cX6_edits 40 = .ok (.invokevirtual 50, 3) := by decide +kernel
theorem dX6_edits_43 : decode cX6_edits 43 = .ok (.iadd, 1) := by decide +kernel
theorem dX6_edits_44 : decode cX6_edits 44 = .ok (.bipush 120, 2) := by decide +kernel
theorem dX6_edits_46 : decode cX6_edits 46 = .ok (.if_icmp .le 6, 3) := by decide +kernel
theorem dX6_edits_49 : decode cX6_edits 49 = .ok (.bipush (-3), 2) := by decide +kernel
theorem dX6_edits_51 : decode cX6_edits 51 = .ok (.ireturn, 1) := by decide +kernel
theorem dX6_edits_52 : decode cX6_edits 52 = .ok (.aload_n 0, 1) := by decide +kernel
theorem dX6_edits_53 : decode cX6_edits 53 = .ok (.getfield 42, 3) := by decide +kernel
theorem dX6_edits_56 : decode cX6_edits 56 = .ok (.aload_n 0, 1) := by decide +kernel
theorem dX6_edits_57 : decode cX6_edits 57 = .ok (.getfield 14, 3) := by decide +kernel
theorem dX6_edits_60 : decode cX6_edits 60 = .ok (.invokevirtual 68, 3) := by decide +kernel
theorem dX6_edits_63 : decode cX6_edits 63 = .ok (.aload_n 0, 1) := by decide +kernel
theorem dX6_edits_64 : decode cX6_edits 64 = .ok (.getfield 14, 3) := by decide +kernel
theorem dX6_edits_67 : decode cX6_edits 67 = .ok (.iload_n 1, 1) := by decide +kernel
theorem dX6_edits_68 : decode cX6_edits 68 = .ok (.iload_n 2, 1) := by decide +kernel
theorem dX6_edits_69 : decode cX6_edits 69 = .ok (.aload_n 0, 1) := by decide +kernel
theorem dX6_edits_70 : decode cX6_edits 70 = .ok (.getfield 28, 3) := by decide +kernel
theorem dX6_edits_73 : decode cX6_edits 73 = .ok (.invokevirtual 72, 3) := by decide +kernel
theorem dX6_edits_76 : decode cX6_edits 76 = .ok (.aload_n 0, 1) := by decide +kernel
theorem dX6_edits_77 : decode cX6_edits 77 = .ok (.getfield 28, 3) := by decide +kernel
theorem dX6_edits_80 : decode cX6_edits 80 = .ok (.invokevirtual 57, 3) := by decide +kernel
theorem dX6_edits_83 : decode cX6_edits 83 = .ok (.aload_n 0, 1) := by decide +kernel
theorem dX6_edits_84 : decode cX6_edits 84 = .ok (.getfield 21, 3) := by decide +kernel
theorem dX6_edits_87 : decode cX6_edits 87 = .ok (.aload_n 0, 1) := by decide +kernel
theorem dX6_edits_88 : decode cX6_edits 88 = .ok (.getfield 14, 3) := by decide +kernel
theorem dX6_edits_91 : decode cX6_edits 91 = .ok (.getfield 65, 3) := by decide +kernel
theorem dX6_edits_94 : decode cX6_edits 94 = .ok (.invokevirtual 76, 3) := by decide +kernel
theorem dX6_edits_97 : decode cX6_edits 97 = .ok (.aload_n 0, 1) := by decide +kernel
theorem dX6_edits_98 : decode cX6_edits 98 = .ok (.getfield 14, 3) := by decide +kernel
theorem dX6_edits_101 : decode cX6_edits 101 = .ok (.getfield 65, 3) := by decide +kernel
theorem dX6_edits_104 : decode cX6_edits 104 = .ok (.invokevirtual 50, 3) := by decide +kernel
theorem dX6_edits_107 : decode cX6_edits 107 = .ok (.ireturn, 1) := by decide +kernel
theorem dX6_stages_0 : decode cX6_stages 0 = .ok (.aload_n 0, 1) := by decide +kernel
theorem dX6_stages_1 : decode cX6_stages 1 = .ok (.iload_n 1, 1) := by decide +kernel
theorem dX6_stages_2 : decode cX6_stages 2 = .ok (.iload_n 2, 1) := by decide +kernel
theorem dX6_stages_3 : decode cX6_stages 3 = .ok (.invokevirtual 60, 3) := by decide +kernel
theorem dX6_stages_6 : decode cX6_stages 6 = .ok (.ifCond .ne 5, 3) := by decide +kernel
theorem dX6_stages_9 : decode cX6_stages 9 = .ok (.iconst (-1), 1) := by decide +kernel
theorem dX6_stages_10 : decode cX6_stages 10 = .ok (.ireturn, 1) := by decide +kernel
theorem dX6_stages_11 : decode cX6_stages 11 = .ok (.aload_n 0, 1) := by decide +kernel
theorem dX6_stages_12 : decode cX6_stages 12 = .ok (.getfield 35, 3) := by decide +kernel
theorem dX6_stages_15 : decode cX6_stages 15 = .ok (.iload_n 1, 1) := by decide +kernel
theorem dX6_stages_16 : decode cX6_stages 16 = .ok (.iload_n 2, 1) := by decide +kernel
theorem dX6_stages_17 : decode cX6_stages 17 = .ok (.invokevirtual 80, 3) := by decide +kernel
theorem dX6_stages_20 : decode cX6_stages 20 = .ok (.ifCond .eq 6, 3) := by decide +kernel
theorem dX6_stages_23 : decode cX6_stages 23 = .ok (.bipush (-2), 2) := by decide +kernel
theorem dX6_stages_25 : decode cX6_stages 25 = .ok (.ireturn, 1) := by decide +kernel
theorem dX6_stages_26 : decode cX6_stages 26 = .ok (.aload_n 0, 1) := by decide +kernel
theorem dX6_stages_27 : decode cX6_stages 27 = .ok (.getfield 35, 3) := by decide +kernel
theorem dX6_stages_30 : decode cX6_stages 30 = .ok (.invokevirtual 64, 3) := by decide +kernel
theorem dX6_stages_33 : decode cX6_stages 33 = .ok (.iconst 4, 1) := by decide +kernel
theorem dX6_stages_34 : decode cX6_stages 34 = .ok (.if_icmp .lt 6, 3) := by decide +kernel
theorem dX6_stages_37 : decode cX6_stages 37 = .ok (.bipush (-3), 2) := by decide +kernel
theorem dX6_stages_39 : decode cX6_stages 39 = .ok (.ireturn, 1) := by decide +kernel
theorem dX6_stages_40 : decode cX6_stages 40 = .ok (.aload_n 0, 1) := by decide +kernel
theorem dX6_stages_41 : decode cX6_stages 41 = .ok (.getfield 35, 3) := by decide +kernel
theorem dX6_stages_44 : decode cX6_stages 44 = .ok (.iload_n 1, 1) := by decide +kernel
theorem dX6_stages_45 : decode cX6_stages 45 = .ok (.iload_n 2, 1) := by decide +kernel
theorem dX6_stages_46 : decode cX6_stages 46 = .ok (.aload_n 0, 1) := by decide +kernel
theorem dX6_stages_47 : decode cX6_stages 47 = .ok (.getfield 28, 3) := by decide +kernel
theorem dX6_stages_50 : decode cX6_stages 50 = .ok (.invokevirtual 83, 3) := by decide +kernel
theorem dX6_stages_53 : decode cX6_stages 53 = .ok (.aload_n 0, 1) := by decide +kernel
theorem dX6_stages_54 : decode cX6_stages 54 = .ok (.getfield 28, 3) := by decide +kernel
theorem dX6_stages_57 : decode cX6_stages 57 = .ok (.invokevirtual 57, 3) := by decide +kernel
theorem dX6_stages_60 : decode cX6_stages 60 = .ok (.aload_n 0, 1) := by decide +kernel
theorem dX6_stages_61 : decode cX6_stages 61 = .ok (.getfield 35, 3) := by decide +kernel
theorem dX6_stages_64 : decode cX6_stages 64 = .ok (.invokevirtual 64, 3) := by decide +kernel
theorem dX6_stages_67 : decode cX6_stages 67 = .ok (.ireturn, 1) := by decide +kernel
theorem dX6_does_0 : decode cX6_does 0 = .ok (.aload_n 0, 1) := by decide +kernel
theorem dX6_does_1 : decode cX6_does 1 = .ok (.getfield 35, 3) := by decide +kernel
theorem dX6_does_4 : decode cX6_does 4 = .ok (.invokevirtual 64, 3) := by decide +kernel
theorem dX6_does_7 : decode cX6_does 7 = .ok (.ifCond .ne 6, 3) := by decide +kernel
theorem dX6_does_10 : decode cX6_does 10 = .ok (.bipush (-2), 2) := by decide +kernel
theorem dX6_does_12 : decode cX6_does 12 = .ok (.ireturn, 1) := by decide +kernel
theorem dX6_does_13 : decode cX6_does 13 = .ok (.aload_n 0, 1) := by decide +kernel
theorem dX6_does_14 : decode cX6_does 14 = .ok (.getfield 14, 3) := by decide +kernel
theorem dX6_does_17 : decode cX6_does 17 = .ok (.getfield 65, 3) := by decide +kernel
theorem dX6_does_20 : decode cX6_does 20 = .ok (.invokevirtual 50, 3) := by decide +kernel
theorem dX6_does_23 : decode cX6_does 23 = .ok (.aload_n 0, 1) := by decide +kernel
theorem dX6_does_24 : decode cX6_does 24 = .ok (.getfield 35, 3) := by decide +kernel
theorem dX6_does_27 : decode cX6_does 27 = .ok (.invokevirtual 86, 3) := by decide +kernel
theorem dX6_does_30 : decode cX6_does 30 = .ok (.iadd, 1) := by decide +kernel
theorem dX6_does_31 : decode cX6_does 31 = .ok (.bipush 120, 2) := by decide +kernel
theorem dX6_does_33 : decode cX6_does 33 = .ok (.if_icmp .le 6, 3) := by decide +kernel
theorem dX6_does_36 : decode cX6_does 36 = .ok (.bipush (-3), 2) := by decide +kernel
theorem dX6_does_38 : decode cX6_does 38 = .ok (.ireturn, 1) := by decide +kernel
theorem dX6_does_39 : decode cX6_does 39 = .ok (.aload_n 0, 1) := by decide +kernel
theorem dX6_does_40 : decode cX6_does 40 = .ok (.getfield 42, 3) := by decide +kernel
theorem dX6_does_43 : decode cX6_does 43 = .ok (.aload_n 0, 1) := by decide +kernel
theorem dX6_does_44 : decode cX6_does 44 = .ok (.getfield 14, 3) := by decide +kernel
theorem dX6_does_47 : decode cX6_does 47 = .ok (.invokevirtual 68, 3) := by decide +kernel
theorem dX6_does_50 : decode cX6_does 50 = .ok (.aload_n 0, 1) := by decide +kernel
theorem dX6_does_51 : decode cX6_does 51 = .ok (.getfield 35, 3) := by decide +kernel
theorem dX6_does_54 : decode cX6_does 54 = .ok (.aload_n 0, 1) := by decide +kernel
theorem dX6_does_55 : decode cX6_does 55 = .ok (.getfield 14, 3) := by decide +kernel
theorem dX6_does_58 : decode cX6_does 58 = .ok (.invokevirtual 89, 3) := by decide +kernel
theorem dX6_does_61 : decode cX6_does 61 = .ok (.aload_n 0, 1) := by decide +kernel
theorem dX6_does_62 : decode cX6_does 62 = .ok (.getfield 35, 3) := by decide +kernel
theorem dX6_does_65 : decode cX6_does 65 = .ok (.invokevirtual 92, 3) := by decide +kernel
theorem dX6_does_68 : decode cX6_does 68 = .ok (.aload_n 0, 1) := by decide +kernel
theorem dX6_does_69 : decode cX6_does 69 = .ok (.getfield 21, 3) := by decide +kernel
theorem dX6_does_72 : decode cX6_does 72 = .ok (.aload_n 0, 1) := by decide +kernel
theorem dX6_does_73 : decode cX6_does 73 = .ok (.getfield 14, 3) := by decide +kernel
theorem dX6_does_76 : decode cX6_does 76 = .ok (.getfield 65, 3) := by decide +kernel
theorem dX6_does_79 : decode cX6_does 79 = .ok (.invokevirtual 76, 3) := by decide +kernel
theorem dX6_does_82 : decode cX6_does 82 = .ok (.aload_n 0, 1) := by decide +kernel
theorem dX6_does_83 : decode cX6_does 83 = .ok (.getfield 14, 3) := by decide +kernel
theorem dX6_does_86 : decode cX6_does 86 = .ok (.getfield 65, 3) := by decide +kernel
theorem dX6_does_89 : decode cX6_does 89 = .ok (.invokevirtual 50, 3) := by decide +kernel
theorem dX6_does_92 : decode cX6_does 92 = .ok (.ireturn, 1) := by decide +kernel
theorem dX6_drops_0 : decode cX6_drops 0 = .ok (.aload_n 0, 1) := by decide +kernel
theorem dX6_drops_1 : decode cX6_drops 1 = .ok (.getfield 35, 3) := by decide +kernel
theorem dX6_drops_4 : decode cX6_drops 4 = .ok (.invokevirtual 64, 3) := by decide +kernel
theorem dX6_drops_7 : decode cX6_drops 7 = .ok (.istore_n 1, 1) := by decide +kernel
theorem dX6_drops_8 : decode cX6_drops 8 = .ok (.aload_n 0, 1) := by decide +kernel
theorem dX6_drops_9 : decode cX6_drops 9 = .ok (.getfield 35, 3) := by decide +kernel
theorem dX6_drops_12 : decode cX6_drops 12 = .ok (.invokevirtual 92, 3) := by decide +kernel
theorem dX6_drops_15 : decode cX6_drops 15 = .ok (.iload_n 1, 1) := by decide +kernel
theorem dX6_drops_16 : decode cX6_drops 16 = .ok (.ireturn, 1) := by decide +kernel
theorem dX6_undo_0 : decode cX6_undo 0 = .ok (.aload_n 0, 1) := by decide +kernel
theorem dX6_undo_1 : decode cX6_undo 1 = .ok (.getfield 42, 3) := by decide +kernel
theorem dX6_undo_4 : decode cX6_undo 4 = .ok (.invokevirtual 93, 3) := by decide +kernel
theorem dX6_undo_7 : decode cX6_undo 7 = .ok (.ifCond .eq 13, 3) := by decide +kernel
theorem dX6_undo_10 : decode cX6_undo 10 = .ok (.aload_n 0, 1) := by decide +kernel
theorem dX6_undo_11 : decode cX6_undo 11 = .ok (.getfield 35, 3) := by decide +kernel
theorem dX6_undo_14 : decode cX6_undo 14 = .ok (.invokevirtual 64, 3) := by decide +kernel
theorem dX6_undo_17 : decode cX6_undo 17 = .ok (.ifCond .le 6, 3) := by decide +kernel
theorem dX6_undo_20 : decode cX6_undo 20 = .ok (.bipush (-2), 2) := by decide +kernel
theorem dX6_undo_22 : decode cX6_undo 22 = .ok (.ireturn, 1) := by decide +kernel
theorem dX6_undo_23 : decode cX6_undo 23 = .ok (.aload_n 0, 1) := by decide +kernel
theorem dX6_undo_24 : decode cX6_undo 24 = .ok (.getfield 42, 3) := by decide +kernel
theorem dX6_undo_27 : decode cX6_undo 27 = .ok (.aload_n 0, 1) := by decide +kernel
theorem dX6_undo_28 : decode cX6_undo 28 = .ok (.getfield 14, 3) := by decide +kernel
theorem dX6_undo_31 : decode cX6_undo 31 = .ok (.invokevirtual 94, 3) := by decide +kernel
theorem dX6_undo_34 : decode cX6_undo 34 = .ok (.aload_n 0, 1) := by decide +kernel
theorem dX6_undo_35 : decode cX6_undo 35 = .ok (.getfield 21, 3) := by decide +kernel
theorem dX6_undo_38 : decode cX6_undo 38 = .ok (.aload_n 0, 1) := by decide +kernel
theorem dX6_undo_39 : decode cX6_undo 39 = .ok (.getfield 14, 3) := by decide +kernel
theorem dX6_undo_42 : decode cX6_undo 42 = .ok (.getfield 65, 3) := by decide +kernel
theorem dX6_undo_45 : decode cX6_undo 45 = .ok (.invokevirtual 76, 3) := by decide +kernel
theorem dX6_undo_48 : decode cX6_undo 48 = .ok (.aload_n 0, 1) := by decide +kernel
theorem dX6_undo_49 : decode cX6_undo 49 = .ok (.getfield 42, 3) := by decide +kernel
theorem dX6_undo_52 : decode cX6_undo 52 = .ok (.invokevirtual 93, 3) := by decide +kernel
theorem dX6_undo_55 : decode cX6_undo 55 = .ok (.ireturn, 1) := by decide +kernel
theorem dX6_at_0 : decode cX6_at 0 = .ok (.iload_n 1, 1) := by decide +kernel
theorem dX6_at_1 : decode cX6_at 1 = .ok (.ifCond .lt 17, 3) := by decide +kernel
theorem dX6_at_4 : decode cX6_at 4 = .ok (.iload_n 1, 1) := by decide +kernel
theorem dX6_at_5 : decode cX6_at 5 = .ok (.aload_n 0, 1) := by decide +kernel
theorem dX6_at_6 : decode cX6_at 6 = .ok (.getfield 14, 3) := by decide +kernel
theorem dX6_at_9 : decode cX6_at 9 = .ok (.getfield 65, 3) := by decide +kernel
theorem dX6_at_12 : decode cX6_at 12 = .ok (.invokevirtual 50, 3) := by decide +kernel
theorem dX6_at_15 : decode cX6_at 15 = .ok (.if_icmp .lt 5, 3) := by decide +kernel
theorem dX6_at_18 : decode cX6_at 18 = .ok (.iconst (-1), 1) := by decide +kernel
theorem dX6_at_19 : decode cX6_at 19 = .ok (.ireturn, 1) := by decide +kernel
theorem dX6_at_20 : decode cX6_at 20 = .ok (.aload_n 0, 1) := by decide +kernel
theorem dX6_at_21 : decode cX6_at 21 = .ok (.getfield 14, 3) := by decide +kernel
theorem dX6_at_24 : decode cX6_at 24 = .ok (.getfield 65, 3) := by decide +kernel
theorem dX6_at_27 : decode cX6_at 27 = .ok (.iload_n 1, 1) := by decide +kernel
theorem dX6_at_28 : decode cX6_at 28 = .ok (.invokevirtual 97, 3) := by decide +kernel
theorem dX6_at_31 : decode cX6_at 31 = .ok (.ireturn, 1) := by decide +kernel
theorem dX6_tells_0 : decode cX6_tells 0 = .ok (.iload_n 1, 1) := by decide +kernel
theorem dX6_tells_1 : decode cX6_tells 1 = .ok (.invokestatic 101, 3) := by decide +kernel
theorem dX6_tells_4 : decode cX6_tells 4 = .ok (.ifCond .eq 26, 3) := by decide +kernel
theorem dX6_tells_7 : decode cX6_tells 7 = .ok (.iload_n 3, 1) := by decide +kernel
theorem dX6_tells_8 : decode cX6_tells 8 = .ok (.invokestatic 101, 3) := by decide +kernel
theorem dX6_tells_11 : decode cX6_tells 11 = .ok (.ifCond .eq 19, 3) := by decide +kernel
theorem dX6_tells_14 : decode cX6_tells 14 = .ok (.iload_n 2, 1) := by decide +kernel
theorem dX6_tells_15 : decode cX6_tells 15 = .ok (.ifCond .lt 15, 3) := by decide +kernel
theorem dX6_tells_18 : decode cX6_tells 18 = .ok (.iload_n 2, 1) := by decide +kernel
theorem dX6_tells_19 : decode cX6_tells 19 = .ok (.aload_n 0, 1) := by decide +kernel
theorem dX6_tells_20 : decode cX6_tells 20 = .ok (.getfield 21, 3) := by decide +kernel
theorem dX6_tells_23 : decode cX6_tells 23 = .ok (.iload_n 1, 1) := by decide +kernel
theorem dX6_tells_24 : decode cX6_tells 24 = .ok (.invokevirtual 105, 3) := by decide +kernel
theorem dX6_tells_27 : decode cX6_tells 27 = .ok (.if_icmp .le 5, 3) := by decide +kernel
theorem dX6_tells_30 : decode cX6_tells 30 = .ok (.iconst (-1), 1) := by decide +kernel
theorem dX6_tells_31 : decode cX6_tells 31 = .ok (.ireturn, 1) := by decide +kernel
theorem dX6_tells_32 : decode cX6_tells 32 = .ok (.aload_n 0, 1) := by decide +kernel
theorem dX6_tells_33 : decode cX6_tells 33 = .ok (.getfield 21, 3) := by decide +kernel
theorem dX6_tells_36 : decode cX6_tells 36 = .ok (.iload_n 3, 1) := by decide +kernel
theorem dX6_tells_37 : decode cX6_tells 37 = .ok (.aload_n 0, 1) := by decide +kernel
theorem dX6_tells_38 : decode cX6_tells 38 = .ok (.getfield 21, 3) := by decide +kernel
theorem dX6_tells_41 : decode cX6_tells 41 = .ok (.iload_n 1, 1) := by decide +kernel
theorem dX6_tells_42 : decode cX6_tells 42 = .ok (.iload_n 2, 1) := by decide +kernel
theorem dX6_tells_43 : decode cX6_tells 43 = .ok (.invokevirtual 108, 3) := by decide +kernel
theorem dX6_tells_46 : decode cX6_tells 46 = .ok (.invokevirtual 112, 3) := by decide +kernel
theorem dX6_tells_49 : decode cX6_tells 49 = .ok (.ireturn, 1) := by decide +kernel
theorem dX6_spot_0 : decode cX6_spot 0 = .ok (.aload_n 0, 1) := by decide +kernel
theorem dX6_spot_1 : decode cX6_spot 1 = .ok (.iload_n 1, 1) := by decide +kernel
theorem dX6_spot_2 : decode cX6_spot 2 = .ok (.invokevirtual 115, 3) := by decide +kernel
theorem dX6_spot_5 : decode cX6_spot 5 = .ok (.ifCond .eq 12, 3) := by decide +kernel
theorem dX6_spot_8 : decode cX6_spot 8 = .ok (.iload_n 2, 1) := by decide +kernel
theorem dX6_spot_9 : decode cX6_spot 9 = .ok (.ifCond .lt 8, 3) := by decide +kernel
theorem dX6_spot_12 : decode cX6_spot 12 = .ok (.iload_n 2, 1) := by decide +kernel
theorem dX6_spot_13 : decode cX6_spot 13 = .ok (.iconst 3, 1) := by decide +kernel
theorem dX6_spot_14 : decode cX6_spot 14 = .ok (.if_icmp .le 5, 3) := by decide +kernel
theorem dX6_spot_17 : decode cX6_spot 17 = .ok (.iconst (-1), 1) := by decide +kernel
theorem dX6_spot_18 : decode cX6_spot 18 = .ok (.ireturn, 1) := by decide +kernel
theorem dX6_spot_19 : decode cX6_spot 19 = .ok (.aload_n 0, 1) := by decide +kernel
theorem dX6_spot_20 : decode cX6_spot 20 = .ok (.getfield 21, 3) := by decide +kernel
theorem dX6_spot_23 : decode cX6_spot 23 = .ok (.iconst 2, 1) := by decide +kernel
theorem dX6_spot_24 : decode cX6_spot 24 = .ok (.iload_n 1, 1) := by decide +kernel
theorem dX6_spot_25 : decode cX6_spot 25 = .ok (.invokevirtual 112, 3) := by decide +kernel
theorem dX6_spot_28 : decode cX6_spot 28 = .ok (.istore_n 3, 1) := by decide +kernel
theorem dX6_spot_29 : decode cX6_spot 29 = .ok (.iload_n 2, 1) := by decide +kernel
theorem dX6_spot_30 : decode cX6_spot 30 = .ok (.ifCond .ne 5, 3) := by decide +kernel
theorem dX6_spot_33 : decode cX6_spot 33 = .ok (.iload_n 3, 1) := by decide +kernel
theorem dX6_spot_34 : decode cX6_spot 34 = .ok (.ireturn, 1) := by decide +kernel
theorem dX6_spot_35 : decode cX6_spot 35 = .ok (.aload_n 0, 1) := by decide +kernel
theorem dX6_spot_36 : decode cX6_spot 36 = .ok (.getfield 21, 3) := by decide +kernel
theorem dX6_spot_39 : decode cX6_spot 39 = .ok (.iload_n 2, 1) := by decide +kernel
theorem dX6_spot_40 : decode cX6_spot 40 = .ok (.invokestatic 118, 3) := by decide +kernel
theorem dX6_spot_43 : decode cX6_spot 43 = .ok (.aload_n 0, 1) := by decide +kernel
theorem dX6_spot_44 : decode cX6_spot 44 = .ok (.getfield 21, 3) := by decide +kernel
theorem dX6_spot_47 : decode cX6_spot 47 = .ok (.iload_n 3, 1) := by decide +kernel
theorem dX6_spot_48 : decode cX6_spot 48 = .ok (.invokevirtual 121, 3) := by decide +kernel
theorem dX6_spot_51 : decode cX6_spot 51 = .ok (.iload_n 1, 1) := by decide +kernel
theorem dX6_spot_52 : decode cX6_spot 52 = .ok (.invokevirtual 124, 3) := by decide +kernel
theorem dX6_spot_55 : decode cX6_spot 55 = .ok (.ireturn, 1) := by decide +kernel
theorem dX6_column_0 : decode cX6_column 0 = .ok (.aload_n 0, 1) := by decide +kernel
theorem dX6_column_1 : decode cX6_column 1 = .ok (.iload_n 1, 1) := by decide +kernel
theorem dX6_column_2 : decode cX6_column 2 = .ok (.invokevirtual 128, 3) := by decide +kernel
theorem dX6_column_5 : decode cX6_column 5 = .ok (.ifCond .eq 7, 3) := by decide +kernel
theorem dX6_column_8 : decode cX6_column 8 = .ok (.iload_n 2, 1) := by decide +kernel
theorem dX6_column_9 : decode cX6_column 9 = .ok (.ifCond .ge 5, 3) := by decide +kernel
theorem dX6_column_12 : decode cX6_column 12 = .ok (.iconst (-1), 1) := by decide +kernel
theorem dX6_column_13 : decode cX6_column 13 = .ok (.ireturn, 1) := by decide +kernel
theorem dX6_column_14 : decode cX6_column 14 = .ok (.aload_n 0, 1) := by decide +kernel
theorem dX6_column_15 : decode cX6_column 15 = .ok (.getfield 21, 3) := by decide +kernel
theorem dX6_column_18 : decode cX6_column 18 = .ok (.iconst 3, 1) := by decide +kernel
theorem dX6_column_19 : decode cX6_column 19 = .ok (.aload_n 0, 1) := by decide +kernel
theorem dX6_column_20 : decode cX6_column 20 = .ok (.getfield 21, 3) := by decide +kernel
theorem dX6_column_23 : decode cX6_column 23 = .ok (.iload_n 1, 1) := by decide +kernel
theorem dX6_column_24 : decode cX6_column 24 = .ok (.invokevirtual 121, 3) := by decide +kernel
theorem dX6_column_27 : decode cX6_column 27 = .ok (.aload_n 0, 1) := by decide +kernel
theorem dX6_column_28 : decode cX6_column 28 = .ok (.getfield 21, 3) := by decide +kernel
theorem dX6_column_31 : decode cX6_column 31 = .ok (.iload_n 1, 1) := by decide +kernel
theorem dX6_column_32 : decode cX6_column 32 = .ok (.invokevirtual 131, 3) := by decide +kernel
theorem dX6_column_35 : decode cX6_column 35 = .ok (.iload_n 2, 1) := by decide +kernel
theorem dX6_column_36 : decode cX6_column 36 = .ok (.invokevirtual 134, 3) := by decide +kernel
theorem dX6_column_39 : decode cX6_column 39 = .ok (.ireturn, 1) := by decide +kernel
theorem dX6_line_0 : decode cX6_line 0 = .ok (.aload_n 0, 1) := by decide +kernel
theorem dX6_line_1 : decode cX6_line 1 = .ok (.iload_n 1, 1) := by decide +kernel
theorem dX6_line_2 : decode cX6_line 2 = .ok (.invokevirtual 128, 3) := by decide +kernel
theorem dX6_line_5 : decode cX6_line 5 = .ok (.ifCond .eq 12, 3) := by decide +kernel
theorem dX6_line_8 : decode cX6_line 8 = .ok (.iload_n 2, 1) := by decide +kernel
theorem dX6_line_9 : decode cX6_line 9 = .ok (.ifCond .lt 8, 3) := by decide +kernel
theorem dX6_line_12 : decode cX6_line 12 = .ok (.iload_n 2, 1) := by decide +kernel
theorem dX6_line_13 : decode cX6_line 13 = .ok (.iconst 3, 1) := by decide +kernel
theorem dX6_line_14 : decode cX6_line 14 = .ok (.if_icmp .le 5, 3) := by decide +kernel
theorem dX6_line_17 : decode cX6_line 17 = .ok (.iconst (-1), 1) := by decide +kernel
theorem dX6_line_18 : decode cX6_line 18 = .ok (.ireturn, 1) := by decide +kernel
theorem dX6_line_19 : decode cX6_line 19 = .ok (.aload_n 0, 1) := by decide +kernel
theorem dX6_line_20 : decode cX6_line 20 = .ok (.getfield 21, 3) := by decide +kernel
theorem dX6_line_23 : decode cX6_line 23 = .ok (.iload_n 1, 1) := by decide +kernel
theorem dX6_line_24 : decode cX6_line 24 = .ok (.invokevirtual 121, 3) := by decide +kernel
theorem dX6_line_27 : decode cX6_line 27 = .ok (.istore_n 3, 1) := by decide +kernel
theorem dX6_line_28 : decode cX6_line 28 = .ok (.iload_n 2, 1) := by decide +kernel
theorem dX6_line_29 : decode cX6_line 29 = .ok (.ifCond .ne 5, 3) := by decide +kernel
theorem dX6_line_32 : decode cX6_line 32 = .ok (.iload_n 3, 1) := by decide +kernel
theorem dX6_line_33 : decode cX6_line 33 = .ok (.ireturn, 1) := by decide +kernel
theorem dX6_line_34 : decode cX6_line 34 = .ok (.aload_n 0, 1) := by decide +kernel
theorem dX6_line_35 : decode cX6_line 35 = .ok (.getfield 21, 3) := by decide +kernel
theorem dX6_line_38 : decode cX6_line 38 = .ok (.iload_n 2, 1) := by decide +kernel
theorem dX6_line_39 : decode cX6_line 39 = .ok (.invokestatic 118, 3) := by decide +kernel
theorem dX6_line_42 : decode cX6_line 42 = .ok (.iload_n 3, 1) := by decide +kernel
theorem dX6_line_43 : decode cX6_line 43 = .ok (.aload_n 0, 1) := by decide +kernel
theorem dX6_line_44 : decode cX6_line 44 = .ok (.getfield 21, 3) := by decide +kernel
theorem dX6_line_47 : decode cX6_line 47 = .ok (.iload_n 1, 1) := by decide +kernel
theorem dX6_line_48 : decode cX6_line 48 = .ok (.invokevirtual 131, 3) := by decide +kernel
theorem dX6_line_51 : decode cX6_line 51 = .ok (.invokevirtual 124, 3) := by decide +kernel
theorem dX6_line_54 : decode cX6_line 54 = .ok (.ireturn, 1) := by decide +kernel
theorem dX6_wide_0 : decode cX6_wide 0 = .ok (.aload_n 0, 1) := by decide +kernel
theorem dX6_wide_1 : decode cX6_wide 1 = .ok (.iload_n 1, 1) := by decide +kernel
theorem dX6_wide_2 : decode cX6_wide 2 = .ok (.invokevirtual 128, 3) := by decide +kernel
theorem dX6_wide_5 : decode cX6_wide 5 = .ok (.ifCond .ne 5, 3) := by decide +kernel
theorem dX6_wide_8 : decode cX6_wide 8 = .ok (.iconst (-1), 1) := by decide +kernel
theorem dX6_wide_9 : decode cX6_wide 9 = .ok (.ireturn, 1) := by decide +kernel
theorem dX6_wide_10 : decode cX6_wide 10 = .ok (.aload_n 0, 1) := by decide +kernel
theorem dX6_wide_11 : decode cX6_wide 11 = .ok (.getfield 21, 3) := by decide +kernel
theorem dX6_wide_14 : decode cX6_wide 14 = .ok (.iload_n 1, 1) := by decide +kernel
theorem dX6_wide_15 : decode cX6_wide 15 = .ok (.invokevirtual 138, 3) := by decide +kernel
theorem dX6_wide_18 : decode cX6_wide 18 = .ok (.ireturn, 1) := by decide +kernel
theorem dX6_chunk_0 : decode cX6_chunk 0 = .ok (.iload_n 1, 1) := by decide +kernel
theorem dX6_chunk_1 : decode cX6_chunk 1 = .ok (.ifCond .lt 26, 3) := by decide +kernel
theorem dX6_chunk_4 : decode cX6_chunk 4 = .ok (.iload_n 1, 1) := by decide +kernel
theorem dX6_chunk_5 : decode cX6_chunk 5 = .ok (.aload_n 0, 1) := by decide +kernel
theorem dX6_chunk_6 : decode cX6_chunk 6 = .ok (.getfield 14, 3) := by decide +kernel
theorem dX6_chunk_9 : decode cX6_chunk 9 = .ok (.getfield 141, 3) := by decide +kernel
theorem dX6_chunk_12 : decode cX6_chunk 12 = .ok (.invokevirtual 50, 3) := by decide +kernel
theorem dX6_chunk_15 : decode cX6_chunk 15 = .ok (.if_icmp .ge 12, 3) := by decide +kernel
theorem dX6_chunk_18 : decode cX6_chunk 18 = .ok (.iload_n 2, 1) := by decide +kernel
theorem dX6_chunk_19 : decode cX6_chunk 19 = .ok (.ifCond .lt 8, 3) := by decide +kernel
theorem dX6_chunk_22 : decode cX6_chunk 22 = .ok (.iload_n 2, 1) := by decide +kernel
theorem dX6_chunk_23 : decode cX6_chunk 23 = .ok (.iconst 4, 1) := by decide +kernel
theorem dX6_chunk_24 : decode cX6_chunk 24 = .ok (.if_icmp .le 5, 3) := by decide +kernel
theorem dX6_chunk_27 : decode cX6_chunk 27 = .ok (.iconst (-1), 1) := by decide +kernel
theorem dX6_chunk_28 : decode cX6_chunk 28 = .ok (.ireturn, 1) := by decide +kernel
theorem dX6_chunk_29 : decode cX6_chunk 29 = .ok (.aload_n 0, 1) := by decide +kernel
theorem dX6_chunk_30 : decode cX6_chunk 30 = .ok (.getfield 14, 3) := by decide +kernel
theorem dX6_chunk_33 : decode cX6_chunk 33 = .ok (.iload_n 1, 1) := by decide +kernel
theorem dX6_chunk_34 : decode cX6_chunk 34 = .ok (.invokevirtual 144, 3) := by decide +kernel
theorem dX6_chunk_37 : decode cX6_chunk 37 = .ok (.istore_n 3, 1) := by decide +kernel
theorem dX6_chunk_38 : decode cX6_chunk 38 = .ok (.iload_n 3, 1) := by decide +kernel
theorem dX6_chunk_39 : decode cX6_chunk 39 = .ok (.aload_n 0, 1) := by decide +kernel
theorem dX6_chunk_40 : decode cX6_chunk 40 = .ok (.getfield 14, 3) := by decide +kernel
theorem dX6_chunk_43 : decode cX6_chunk 43 = .ok (.getfield 141, 3) := by decide +kernel
theorem dX6_chunk_46 : decode cX6_chunk 46 = .ok (.iload_n 1, 1) := by decide +kernel
theorem dX6_chunk_47 : decode cX6_chunk 47 = .ok (.invokevirtual 97, 3) := by decide +kernel
theorem dX6_chunk_50 : decode cX6_chunk 50 = .ok (.iadd, 1) := by decide +kernel
theorem dX6_chunk_51 : decode cX6_chunk 51 = .ok (.istore 4, 2) := by decide +kernel
theorem dX6_chunk_53 : decode cX6_chunk 53 = .ok (.iload_n 2, 1) := by decide +kernel
theorem dX6_chunk_54 : decode cX6_chunk 54 = .ok (.iconst 4, 1) := by decide +kernel
theorem dX6_chunk_55 : decode cX6_chunk 55 = .ok (.if_icmp .ne 11, 3) := by decide +kernel
theorem dX6_chunk_58 : decode cX6_chunk 58 = .ok (.aload_n 0, 1) := by decide +kernel
theorem dX6_chunk_59 : decode cX6_chunk 59 = .ok (.iload_n 3, 1) := by decide +kernel
theorem dX6_chunk_60 : decode cX6_chunk 60 = .ok (.iload 4, 2) := by decide +kernel
theorem dX6_chunk_62 : decode cX6_chunk 62 = .ok (.invokevirtual 147, 3) := by decide +kernel
theorem dX6_chunk_65 : decode cX6_chunk 65 = .ok (.ireturn, 1) := by decide +kernel
theorem dX6_chunk_66 : decode cX6_chunk 66 = .ok (.aload_n 0, 1) := by decide +kernel
theorem dX6_chunk_67 : decode cX6_chunk 67 = .ok (.getfield 21, 3) := by decide +kernel
theorem dX6_chunk_70 : decode cX6_chunk 70 = .ok (.iload_n 2, 1) := by decide +kernel
theorem dX6_chunk_71 : decode cX6_chunk 71 = .ok (.iload_n 3, 1) := by decide +kernel
theorem dX6_chunk_72 : decode cX6_chunk 72 = .ok (.iload 4, 2) := by decide +kernel
theorem dX6_chunk_74 : decode cX6_chunk 74 = .ok (.invokevirtual 124, 3) := by decide +kernel
theorem dX6_chunk_77 : decode cX6_chunk 77 = .ok (.ireturn, 1) := by decide +kernel
theorem dX6_marks_0 : decode cX6_marks 0 = .ok (.iload_n 1, 1) := by decide +kernel
theorem dX6_marks_1 : decode cX6_marks 1 = .ok (.invokestatic 150, 3) := by decide +kernel
theorem dX6_marks_4 : decode cX6_marks 4 = .ok (.ifCond .eq 11, 3) := by decide +kernel
theorem dX6_marks_7 : decode cX6_marks 7 = .ok (.aload_n 0, 1) := by decide +kernel
theorem dX6_marks_8 : decode cX6_marks 8 = .ok (.iload_n 2, 1) := by decide +kernel
theorem dX6_marks_9 : decode cX6_marks 9 = .ok (.invokevirtual 115, 3) := by decide +kernel
theorem dX6_marks_12 : decode cX6_marks 12 = .ok (.ifCond .ne 5, 3) := by decide +kernel
theorem dX6_marks_15 : decode cX6_marks 15 = .ok (.iconst (-1), 1) := by decide +kernel
theorem dX6_marks_16 : decode cX6_marks 16 = .ok (.ireturn, 1) := by decide +kernel
theorem dX6_marks_17 : decode cX6_marks 17 = .ok (.aload_n 0, 1) := by decide +kernel
theorem dX6_marks_18 : decode cX6_marks 18 = .ok (.getfield 14, 3) := by decide +kernel
theorem dX6_marks_21 : decode cX6_marks 21 = .ok (.iload_n 1, 1) := by decide +kernel
theorem dX6_marks_22 : decode cX6_marks 22 = .ok (.invokevirtual 153, 3) := by decide +kernel
theorem dX6_marks_25 : decode cX6_marks 25 = .ok (.istore_n 3, 1) := by decide +kernel
theorem dX6_marks_26 : decode cX6_marks 26 = .ok (.iload_n 3, 1) := by decide +kernel
theorem dX6_marks_27 : decode cX6_marks 27 = .ok (.bipush (-9), 2) := by decide +kernel
theorem dX6_marks_29 : decode cX6_marks 29 = .ok (.if_icmp .ne 18, 3) := by decide +kernel
theorem dX6_marks_32 : decode cX6_marks 32 = .ok (.aload_n 0, 1) := by decide +kernel
theorem dX6_marks_33 : decode cX6_marks 33 = .ok (.getfield 14, 3) := by decide +kernel
theorem dX6_marks_36 : decode cX6_marks 36 = .ok (.invokevirtual 156, 3) := by decide +kernel
theorem dX6_marks_39 : decode cX6_marks 39 = .ok (.bipush 8, 2) := by decide +kernel
theorem dX6_marks_41 : decode cX6_marks 41 = .ok (.if_icmp .lt 6, 3) := by decide +kernel
theorem dX6_marks_44 : decode cX6_marks 44 = .ok (.bipush (-3), 2) := by decide +kernel
theorem dX6_marks_46 : decode cX6_marks 46 = .ok (.ireturn, 1) := by decide +kernel
theorem dX6_marks_47 : decode cX6_marks 47 = .ok (.aload_n 0, 1) := by decide +kernel
theorem dX6_marks_48 : decode cX6_marks 48 = .ok (.getfield 14, 3) := by decide +kernel
theorem dX6_marks_51 : decode cX6_marks 51 = .ok (.iload_n 1, 1) := by decide +kernel
theorem dX6_marks_52 : decode cX6_marks 52 = .ok (.iload_n 2, 1) := by decide +kernel
theorem dX6_marks_53 : decode cX6_marks 53 = .ok (.invokevirtual 159, 3) := by decide +kernel
theorem dX6_marks_56 : decode cX6_marks 56 = .ok (.iload_n 3, 1) := by decide +kernel
theorem dX6_marks_57 : decode cX6_marks 57 = .ok (.ireturn, 1) := by decide +kernel
theorem dX6_lifts_0 : decode cX6_lifts 0 = .ok (.iload_n 1, 1) := by decide +kernel
theorem dX6_lifts_1 : decode cX6_lifts 1 = .ok (.invokestatic 150, 3) := by decide +kernel
theorem dX6_lifts_4 : decode cX6_lifts 4 = .ok (.ifCond .ne 5, 3) := by decide +kernel
theorem dX6_lifts_7 : decode cX6_lifts 7 = .ok (.iconst (-1), 1) := by decide +kernel
theorem dX6_lifts_8 : decode cX6_lifts 8 = .ok (.ireturn, 1) := by decide +kernel
theorem dX6_lifts_9 : decode cX6_lifts 9 = .ok (.aload_n 0, 1) := by decide +kernel
theorem dX6_lifts_10 : decode cX6_lifts 10 = .ok (.getfield 14, 3) := by decide +kernel
theorem dX6_lifts_13 : decode cX6_lifts 13 = .ok (.iload_n 1, 1) := by decide +kernel
theorem dX6_lifts_14 : decode cX6_lifts 14 = .ok (.invokevirtual 153, 3) := by decide +kernel
theorem dX6_lifts_17 : decode cX6_lifts 17 = .ok (.istore_n 2, 1) := by decide +kernel
theorem dX6_lifts_18 : decode cX6_lifts 18 = .ok (.iload_n 2, 1) := by decide +kernel
theorem dX6_lifts_19 : decode cX6_lifts 19 = .ok (.bipush (-9), 2) := by decide +kernel
theorem dX6_lifts_21 : decode cX6_lifts 21 = .ok (.if_icmp .ne 6, 3) := by decide +kernel
theorem dX6_lifts_24 : decode cX6_lifts 24 = .ok (.bipush (-2), 2) := by decide +kernel
theorem dX6_lifts_26 : decode cX6_lifts 26 = .ok (.ireturn, 1) := by decide +kernel
theorem dX6_lifts_27 : decode cX6_lifts 27 = .ok (.aload_n 0, 1) := by decide +kernel
theorem dX6_lifts_28 : decode cX6_lifts 28 = .ok (.getfield 14, 3) := by decide +kernel
theorem dX6_lifts_31 : decode cX6_lifts 31 = .ok (.iload_n 1, 1) := by decide +kernel
theorem dX6_lifts_32 : decode cX6_lifts 32 = .ok (.bipush (-9), 2) := by decide +kernel
theorem dX6_lifts_34 : decode cX6_lifts 34 = .ok (.invokevirtual 159, 3) := by decide +kernel
theorem dX6_lifts_37 : decode cX6_lifts 37 = .ok (.iload_n 2, 1) := by decide +kernel
theorem dX6_lifts_38 : decode cX6_lifts 38 = .ok (.ireturn, 1) := by decide +kernel
theorem dX6_mark_0 : decode cX6_mark 0 = .ok (.iload_n 1, 1) := by decide +kernel
theorem dX6_mark_1 : decode cX6_mark 1 = .ok (.invokestatic 150, 3) := by decide +kernel
theorem dX6_mark_4 : decode cX6_mark 4 = .ok (.ifCond .ne 5, 3) := by decide +kernel
theorem dX6_mark_7 : decode cX6_mark 7 = .ok (.iconst (-1), 1) := by decide +kernel
theorem dX6_mark_8 : decode cX6_mark 8 = .ok (.ireturn, 1) := by decide +kernel
theorem dX6_mark_9 : decode cX6_mark 9 = .ok (.aload_n 0, 1) := by decide +kernel
theorem dX6_mark_10 : decode cX6_mark 10 = .ok (.getfield 14, 3) := by decide +kernel
theorem dX6_mark_13 : decode cX6_mark 13 = .ok (.iload_n 1, 1) := by decide +kernel
theorem dX6_mark_14 : decode cX6_mark 14 = .ok (.invokevirtual 153, 3) := by decide +kernel
theorem dX6_mark_17 : decode cX6_mark 17 = .ok (.ireturn, 1) := by decide +kernel
theorem dX6_next_0 : decode cX6_next 0 = .ok (.aload_n 0, 1) := by decide +kernel
theorem dX6_next_1 : decode cX6_next 1 = .ok (.iload_n 1, 1) := by decide +kernel
theorem dX6_next_2 : decode cX6_next 2 = .ok (.invokevirtual 115, 3) := by decide +kernel
theorem dX6_next_5 : decode cX6_next 5 = .ok (.ifCond .ne 5, 3) := by decide +kernel
theorem dX6_next_8 : decode cX6_next 8 = .ok (.iconst (-1), 1) := by decide +kernel
theorem dX6_next_9 : decode cX6_next 9 = .ok (.ireturn, 1) := by decide +kernel
theorem dX6_next_10 : decode cX6_next 10 = .ok (.aload_n 0, 1) := by decide +kernel
theorem dX6_next_11 : decode cX6_next 11 = .ok (.getfield 14, 3) := by decide +kernel
theorem dX6_next_14 : decode cX6_next 14 = .ok (.iload_n 1, 1) := by decide +kernel
theorem dX6_next_15 : decode cX6_next 15 = .ok (.invokevirtual 163, 3) := by decide +kernel
theorem dX6_next_18 : decode cX6_next 18 = .ok (.ireturn, 1) := by decide +kernel
theorem dX6_seeks_0 : decode cX6_seeks 0 = .ok (.aload_n 0, 1) := by decide +kernel
theorem dX6_seeks_1 : decode cX6_seeks 1 = .ok (.iload_n 1, 1) := by decide +kernel
theorem dX6_seeks_2 : decode cX6_seeks 2 = .ok (.invokevirtual 115, 3) := by decide +kernel
theorem dX6_seeks_5 : decode cX6_seeks 5 = .ok (.ifCond .ne 5, 3) := by decide +kernel
theorem dX6_seeks_8 : decode cX6_seeks 8 = .ok (.iconst (-1), 1) := by decide +kernel
theorem dX6_seeks_9 : decode cX6_seeks 9 = .ok (.ireturn, 1) := by decide +kernel
theorem dX6_seeks_10 : decode cX6_seeks 10 = .ok (.aload_n 0, 1) := by decide +kernel
theorem dX6_seeks_11 : decode cX6_seeks 11 = .ok (.getfield 14, 3) := by decide +kernel
theorem dX6_seeks_14 : decode cX6_seeks 14 = .ok (.getfield 166, 3) := by decide +kernel
theorem dX6_seeks_17 : decode cX6_seeks 17 = .ok (.istore_n 2, 1) := by decide +kernel
theorem dX6_seeks_18 : decode cX6_seeks 18 = .ok (.aload_n 0, 1) := by decide +kernel
theorem dX6_seeks_19 : decode cX6_seeks 19 = .ok (.getfield 14, 3) := by decide +kernel
theorem dX6_seeks_22 : decode cX6_seeks 22 = .ok (.iload_n 1, 1) := by decide +kernel
theorem dX6_seeks_23 : decode cX6_seeks 23 = .ok (.putfield 166, 3) := by decide +kernel
theorem dX6_seeks_26 : decode cX6_seeks 26 = .ok (.iload_n 2, 1) := by decide +kernel
theorem dX6_seeks_27 : decode cX6_seeks 27 = .ok (.ireturn, 1) := by decide +kernel
theorem dX6_reads_0 : decode cX6_reads 0 = .ok (.aload_n 0, 1) := by decide +kernel
theorem dX6_reads_1 : decode cX6_reads 1 = .ok (.getfield 14, 3) := by decide +kernel
theorem dX6_reads_4 : decode cX6_reads 4 = .ok (.getfield 166, 3) := by decide +kernel
theorem dX6_reads_7 : decode cX6_reads 7 = .ok (.aload_n 0, 1) := by decide +kernel
theorem dX6_reads_8 : decode cX6_reads 8 = .ok (.getfield 14, 3) := by decide +kernel
theorem dX6_reads_11 : decode cX6_reads 11 = .ok (.getfield 65, 3) := by decide +kernel
theorem dX6_reads_14 : decode cX6_reads 14 = .ok (.invokevirtual 50, 3) := by decide +kernel
theorem dX6_reads_17 : decode cX6_reads 17 = .ok (.if_icmp .lt 6, 3) := by decide +kernel
theorem dX6_reads_20 : decode cX6_reads 20 = .ok (.bipush (-9), 2) := by decide +kernel
theorem dX6_reads_22 : decode cX6_reads 22 = .ok (.ireturn, 1) := by decide +kernel
theorem dX6_reads_23 : decode cX6_reads 23 = .ok (.aload_n 0, 1) := by decide +kernel
theorem dX6_reads_24 : decode cX6_reads 24 = .ok (.getfield 14, 3) := by decide +kernel
theorem dX6_reads_27 : decode cX6_reads 27 = .ok (.invokevirtual 170, 3) := by decide +kernel
theorem dX6_reads_30 : decode cX6_reads 30 = .ok (.ireturn, 1) := by decide +kernel
theorem dX6_keep_0 : decode cX6_keep 0 = .ok (.iload_n 1, 1) := by decide +kernel
theorem dX6_keep_1 : decode cX6_keep 1 = .ok (.ifCond .lt 12, 3) := by decide +kernel
theorem dX6_keep_4 : decode cX6_keep 4 = .ok (.iload_n 1, 1) := by decide +kernel
theorem dX6_keep_5 : decode cX6_keep 5 = .ok (.aload_n 0, 1) := by decide +kernel
theorem dX6_keep_6 : decode cX6_keep 6 = .ok (.getfield 46, 3) := by decide +kernel
theorem dX6_keep_9 : decode cX6_keep 9 = .ok (.arraylength, 1) := by decide +kernel
theorem dX6_keep_10 : decode cX6_keep 10 = .ok (.if_icmp .lt 5, 3) := by decide +kernel
theorem dX6_keep_13 : decode cX6_keep 13 = .ok (.iconst (-1), 1) := by decide +kernel
theorem dX6_keep_14 : decode cX6_keep 14 = .ok (.ireturn, 1) := by decide +kernel
theorem dX6_keep_15 : decode cX6_keep 15 = .ok (.aload_n 0, 1) := by decide +kernel
theorem dX6_keep_16 : decode cX6_keep 16 = .ok (.getfield 46, 3) := by decide +kernel
theorem dX6_keep_19 : decode cX6_keep 19 = .ok (.iload_n 1, 1) := by decide +kernel
theorem dX6_keep_20 : decode cX6_keep 20 = .ok (.aaload, 1) := by decide +kernel
theorem dX6_keep_21 : decode cX6_keep 21 = .ok (.astore_n 2, 1) := by decide +kernel
theorem dX6_keep_22 : decode cX6_keep 22 = .ok (.aload_n 2, 1) := by decide +kernel
theorem dX6_keep_23 : decode cX6_keep 23 = .ok (.ifnonnull 20, 3) := by decide +kernel
theorem dX6_keep_26 : decode cX6_keep 26 = .ok (.new 9, 3) := by decide +kernel
theorem dX6_keep_29 : decode cX6_keep 29 = .ok (.dup, 1) := by decide +kernel
theorem dX6_keep_30 : decode cX6_keep 30 = .ok (.bipush 120, 2) := by decide +kernel
theorem dX6_keep_32 : decode cX6_keep 32 = .ok (.invokespecial 11, 3) := by decide +kernel
theorem dX6_keep_35 : decode cX6_keep 35 = .ok (.astore_n 2, 1) := by decide +kernel
theorem dX6_keep_36 : decode cX6_keep 36 = .ok (.aload_n 0, 1) := by decide +kernel
theorem dX6_keep_37 : decode cX6_keep 37 = .ok (.getfield 46, 3) := by decide +kernel
theorem dX6_keep_40 : decode cX6_keep 40 = .ok (.iload_n 1, 1) := by decide +kernel
theorem dX6_keep_41 : decode cX6_keep 41 = .ok (.aload_n 2, 1) := by decide +kernel
theorem dX6_keep_42 : decode cX6_keep 42 = .ok (.aastore, 1) := by decide +kernel
theorem dX6_keep_43 : decode cX6_keep 43 = .ok (.aload_n 2, 1) := by decide +kernel
theorem dX6_keep_44 : decode cX6_keep 44 = .ok (.aload_n 0, 1) := by decide +kernel
theorem dX6_keep_45 : decode cX6_keep 45 = .ok (.getfield 14, 3) := by decide +kernel
theorem dX6_keep_48 : decode cX6_keep 48 = .ok (.invokevirtual 173, 3) := by decide +kernel
theorem dX6_keep_51 : decode cX6_keep 51 = .ok (.aload_n 0, 1) := by decide +kernel
theorem dX6_keep_52 : decode cX6_keep 52 = .ok (.getfield 14, 3) := by decide +kernel
theorem dX6_keep_55 : decode cX6_keep 55 = .ok (.getfield 65, 3) := by decide +kernel
theorem dX6_keep_58 : decode cX6_keep 58 = .ok (.invokevirtual 50, 3) := by decide +kernel
theorem dX6_keep_61 : decode cX6_keep 61 = .ok (.ireturn, 1) := by decide +kernel
theorem dX6_back_0 : decode cX6_back 0 = .ok (.iload_n 1, 1) := by decide +kernel
theorem dX6_back_1 : decode cX6_back 1 = .ok (.ifCond .lt 12, 3) := by decide +kernel
theorem dX6_back_4 : decode cX6_back 4 = .ok (.iload_n 1, 1) := by decide +kernel
theorem dX6_back_5 : decode cX6_back 5 = .ok (.aload_n 0, 1) := by decide +kernel
theorem dX6_back_6 : decode cX6_back 6 = .ok (.getfield 46, 3) := by decide +kernel
theorem dX6_back_9 : decode cX6_back 9 = .ok (.arraylength, 1) := by decide +kernel
theorem dX6_back_10 : decode cX6_back 10 = .ok (.if_icmp .lt 5, 3) := by decide +kernel
theorem dX6_back_13 : decode cX6_back 13 = .ok (.iconst (-1), 1) := by decide +kernel
theorem dX6_back_14 : decode cX6_back 14 = .ok (.ireturn, 1) := by decide +kernel
theorem dX6_back_15 : decode cX6_back 15 = .ok (.aload_n 0, 1) := by decide +kernel
theorem dX6_back_16 : decode cX6_back 16 = .ok (.getfield 46, 3) := by decide +kernel
theorem dX6_back_19 : decode cX6_back 19 = .ok (.iload_n 1, 1) := by decide +kernel
theorem dX6_back_20 : decode cX6_back 20 = .ok (.aaload, 1) := by decide +kernel
theorem dX6_back_21 : decode cX6_back 21 = .ok (.astore_n 2, 1) := by decide +kernel
theorem dX6_back_22 : decode cX6_back 22 = .ok (.aload_n 2, 1) := by decide +kernel
theorem dX6_back_23 : decode cX6_back 23 = .ok (.ifnonnull 6, 3) := by decide +kernel
theorem dX6_back_26 : decode cX6_back 26 = .ok (.bipush (-2), 2) := by decide +kernel
theorem dX6_back_28 : decode cX6_back 28 = .ok (.ireturn, 1) := by decide +kernel
theorem dX6_back_29 : decode cX6_back 29 = .ok (.aload_n 0, 1) := by decide +kernel
theorem dX6_back_30 : decode cX6_back 30 = .ok (.getfield 14, 3) := by decide +kernel
theorem dX6_back_33 : decode cX6_back 33 = .ok (.aload_n 2, 1) := by decide +kernel
theorem dX6_back_34 : decode cX6_back 34 = .ok (.invokevirtual 173, 3) := by decide +kernel
theorem dX6_back_37 : decode cX6_back 37 = .ok (.aload_n 0, 1) := by decide +kernel
theorem dX6_back_38 : decode cX6_back 38 = .ok (.getfield 42, 3) := by decide +kernel
theorem dX6_back_41 : decode cX6_back 41 = .ok (.invokevirtual 176, 3) := by decide +kernel
theorem dX6_back_44 : decode cX6_back 44 = .ok (.aload_n 0, 1) := by decide +kernel
theorem dX6_back_45 : decode cX6_back 45 = .ok (.getfield 35, 3) := by decide +kernel
theorem dX6_back_48 : decode cX6_back 48 = .ok (.invokevirtual 92, 3) := by decide +kernel
theorem dX6_back_51 : decode cX6_back 51 = .ok (.aload_n 0, 1) := by decide +kernel
theorem dX6_back_52 : decode cX6_back 52 = .ok (.getfield 21, 3) := by decide +kernel
theorem dX6_back_55 : decode cX6_back 55 = .ok (.aload_n 0, 1) := by decide +kernel
theorem dX6_back_56 : decode cX6_back 56 = .ok (.getfield 14, 3) := by decide +kernel
theorem dX6_back_59 : decode cX6_back 59 = .ok (.getfield 65, 3) := by decide +kernel
theorem dX6_back_62 : decode cX6_back 62 = .ok (.invokevirtual 76, 3) := by decide +kernel
theorem dX6_back_65 : decode cX6_back 65 = .ok (.aload_n 0, 1) := by decide +kernel
theorem dX6_back_66 : decode cX6_back 66 = .ok (.getfield 14, 3) := by decide +kernel
theorem dX6_back_69 : decode cX6_back 69 = .ok (.getfield 65, 3) := by decide +kernel
theorem dX6_back_72 : decode cX6_back 72 = .ok (.invokevirtual 50, 3) := by decide +kernel
theorem dX6_back_75 : decode cX6_back 75 = .ok (.ireturn, 1) := by decide +kernel
theorem dX6_count_0 : decode cX6_count 0 = .ok (.iload_n 1, 1) := by decide +kernel
theorem dX6_count_1 : decode cX6_count 1 = .ok (.tableswitch 147 0 11 #[63, 63, 63, 63, 72, 80, 96, 107, 115, 123, 131, 139], 63) := by decide +kernel
theorem dX6_count_64 : decode cX6_count 64 = .ok (.aload_n 0, 1) := by decide +kernel
theorem dX6_count_65 : decode cX6_count 65 = .ok (.getfield 21, 3) := by decide +kernel
theorem dX6_count_68 : decode cX6_count 68 = .ok (.iload_n 1, 1) := by decide +kernel
theorem dX6_count_69 : decode cX6_count 69 = .ok (.invokevirtual 105, 3) := by decide +kernel
theorem dX6_count_72 : decode cX6_count 72 = .ok (.ireturn, 1) := by decide +kernel
theorem dX6_count_73 : decode cX6_count 73 = .ok (.aload_n 0, 1) := by decide +kernel
theorem dX6_count_74 : decode cX6_count 74 = .ok (.getfield 21, 3) := by decide +kernel
theorem dX6_count_77 : decode cX6_count 77 = .ok (.invokevirtual 179, 3) := by decide +kernel
theorem dX6_count_80 : decode cX6_count 80 = .ok (.ireturn, 1) := by decide +kernel
theorem dX6_count_81 : decode cX6_count 81 = .ok (.aload_n 0, 1) := by decide +kernel
theorem dX6_count_82 : decode cX6_count 82 = .ok (.getfield 21, 3) := by decide +kernel
theorem dX6_count_85 : decode cX6_count 85 = .ok (.aload_n 0, 1) := by decide +kernel
theorem dX6_count_86 : decode cX6_count 86 = .ok (.getfield 21, 3) := by decide +kernel
theorem dX6_count_89 : decode cX6_count 89 = .ok (.iconst 0, 1) := by decide +kernel
theorem dX6_count_90 : decode cX6_count 90 = .ok (.invokevirtual 138, 3) := by decide +kernel
theorem dX6_count_93 : decode cX6_count 93 = .ok (.invokevirtual 182, 3) := by decide +kernel
theorem dX6_count_96 : decode cX6_count 96 = .ok (.ireturn, 1) := by decide +kernel
theorem dX6_count_97 : decode cX6_count 97 = .ok (.aload_n 0, 1) := by decide +kernel
theorem dX6_count_98 : decode cX6_count 98 = .ok (.getfield 14, 3) := by decide +kernel
theorem dX6_count_101 : decode cX6_count 101 = .ok (.getfield 141, 3) := by decide +kernel
theorem dX6_count_104 : decode cX6_count 104 = .ok (.invokevirtual 50, 3) := by decide +kernel
theorem dX6_count_107 : decode cX6_count 107 = .ok (.ireturn, 1) := by decide +kernel
theorem dX6_count_108 : decode cX6_count 108 = .ok (.aload_n 0, 1) := by decide +kernel
theorem dX6_count_109 : decode cX6_count 109 = .ok (.getfield 14, 3) := by decide +kernel
theorem dX6_count_112 : decode cX6_count 112 = .ok (.invokevirtual 156, 3) := by decide +kernel
theorem dX6_count_115 : decode cX6_count 115 = .ok (.ireturn, 1) := by decide +kernel
theorem dX6_count_116 : decode cX6_count 116 = .ok (.aload_n 0, 1) := by decide +kernel
theorem dX6_count_117 : decode cX6_count 117 = .ok (.getfield 14, 3) := by decide +kernel
theorem dX6_count_120 : decode cX6_count 120 = .ok (.getfield 166, 3) := by decide +kernel
theorem dX6_count_123 : decode cX6_count 123 = .ok (.ireturn, 1) := by decide +kernel
theorem dX6_count_124 : decode cX6_count 124 = .ok (.aload_n 0, 1) := by decide +kernel
theorem dX6_count_125 : decode cX6_count 125 = .ok (.getfield 28, 3) := by decide +kernel
theorem dX6_count_128 : decode cX6_count 128 = .ok (.invokevirtual 50, 3) := by decide +kernel
theorem dX6_count_131 : decode cX6_count 131 = .ok (.ireturn, 1) := by decide +kernel
theorem dX6_count_132 : decode cX6_count 132 = .ok (.aload_n 0, 1) := by decide +kernel
theorem dX6_count_133 : decode cX6_count 133 = .ok (.getfield 35, 3) := by decide +kernel
theorem dX6_count_136 : decode cX6_count 136 = .ok (.invokevirtual 64, 3) := by decide +kernel
theorem dX6_count_139 : decode cX6_count 139 = .ok (.ireturn, 1) := by decide +kernel
theorem dX6_count_140 : decode cX6_count 140 = .ok (.aload_n 0, 1) := by decide +kernel
theorem dX6_count_141 : decode cX6_count 141 = .ok (.getfield 42, 3) := by decide +kernel
theorem dX6_count_144 : decode cX6_count 144 = .ok (.invokevirtual 93, 3) := by decide +kernel
theorem dX6_count_147 : decode cX6_count 147 = .ok (.ireturn, 1) := by decide +kernel
theorem dX6_count_148 : decode cX6_count 148 = .ok (.iconst (-1), 1) := by decide +kernel
theorem dX6_count_149 : decode cX6_count 149 = .ok (.ireturn, 1) := by decide +kernel
theorem dX6_digest_0 : decode cX6_digest 0 = .ok (.aload_n 0, 1) := by decide +kernel
theorem dX6_digest_1 : decode cX6_digest 1 = .ok (.getfield 14, 3) := by decide +kernel
theorem dX6_digest_4 : decode cX6_digest 4 = .ok (.getfield 141, 3) := by decide +kernel
theorem dX6_digest_7 : decode cX6_digest 7 = .ok (.aload_n 0, 1) := by decide +kernel
theorem dX6_digest_8 : decode cX6_digest 8 = .ok (.getfield 14, 3) := by decide +kernel
theorem dX6_digest_11 : decode cX6_digest 11 = .ok (.getfield 65, 3) := by decide +kernel
theorem dX6_digest_14 : decode cX6_digest 14 = .ok (.ldc2_w 185, 3) := by decide +kernel
theorem dX6_digest_17 : decode cX6_digest 17 = .ok (.invokevirtual 187, 3) := by decide +kernel
theorem dX6_digest_20 : decode cX6_digest 20 = .ok (.invokevirtual 187, 3) := by decide +kernel
theorem dX6_digest_23 : decode cX6_digest 23 = .ok (.lstore_n 1, 1) := by decide +kernel
theorem dX6_digest_24 : decode cX6_digest 24 = .ok (.bipush 97, 2) := by decide +kernel
theorem dX6_digest_26 : decode cX6_digest 26 = .ok (.istore_n 3, 1) := by decide +kernel
theorem dX6_digest_27 : decode cX6_digest 27 = .ok (.iload_n 3, 1) := by decide +kernel
theorem dX6_digest_28 : decode cX6_digest 28 = .ok (.bipush 123, 2) := by decide +kernel
theorem dX6_digest_30 : decode cX6_digest 30 = .ok (.if_icmp .ge 45, 3) := by decide +kernel
theorem dX6_digest_33 : decode cX6_digest 33 = .ok (.aload_n 0, 1) := by decide +kernel
theorem dX6_digest_34 : decode cX6_digest 34 = .ok (.getfield 14, 3) := by decide +kernel
theorem dX6_digest_37 : decode cX6_digest 37 = .ok (.iload_n 3, 1) := by decide +kernel
theorem dX6_digest_38 : decode cX6_digest 38 = .ok (.invokevirtual 153, 3) := by decide +kernel
theorem dX6_digest_41 : decode cX6_digest 41 = .ok (.istore 4, 2) := by decide +kernel
theorem dX6_digest_43 : decode cX6_digest 43 = .ok (.iload 4, 2) := by decide +kernel
theorem dX6_digest_45 : decode cX6_digest 45 = .ok (.bipush (-9), 2) := by decide +kernel
theorem dX6_digest_47 : decode cX6_digest 47 = .ok (.if_icmp .eq 22, 3) := by decide +kernel
theorem dX6_digest_50 : decode cX6_digest 50 = .ok (.ldc2_w 191, 3) := by decide +kernel
theorem dX6_digest_53 : decode cX6_digest 53 = .ok (.lload_n 1, 1) := by decide +kernel
theorem dX6_digest_54 : decode cX6_digest 54 = .ok (.lmul, 1) := by decide +kernel
theorem dX6_digest_55 : decode cX6_digest 55 = .ok (.iload_n 3, 1) := by decide +kernel
theorem dX6_digest_56 : decode cX6_digest 56 = .ok (.i2l, 1) := by decide +kernel
theorem dX6_digest_57 : decode cX6_digest 57 = .ok (.ladd, 1) := by decide +kernel
theorem dX6_digest_58 : decode cX6_digest 58 = .ok (.lstore_n 1, 1) := by decide +kernel
theorem dX6_digest_59 : decode cX6_digest 59 = .ok (.ldc2_w 191, 3) := by decide +kernel
theorem dX6_digest_62 : decode cX6_digest 62 = .ok (.lload_n 1, 1) := by decide +kernel
theorem dX6_digest_63 : decode cX6_digest 63 = .ok (.lmul, 1) := by decide +kernel
theorem dX6_digest_64 : decode cX6_digest 64 = .ok (.iload 4, 2) := by decide +kernel
theorem dX6_digest_66 : decode cX6_digest 66 = .ok (.i2l, 1) := by decide +kernel
theorem dX6_digest_67 : decode cX6_digest 67 = .ok (.ladd, 1) := by decide +kernel
theorem dX6_digest_68 : decode cX6_digest 68 = .ok (.lstore_n 1, 1) := by decide +kernel
theorem dX6_digest_69 : decode cX6_digest 69 = .ok (.iinc 3 1, 3) := by decide +kernel
theorem dX6_digest_72 : decode cX6_digest 72 = .ok (.goto (-45), 3) := by decide +kernel
theorem dX6_digest_75 : decode cX6_digest 75 = .ok (.lload_n 1, 1) := by decide +kernel
theorem dX6_digest_76 : decode cX6_digest 76 = .ok (.lreturn, 1) := by decide +kernel
theorem dX6_isPlace_0 : decode cX6_isPlace 0 = .ok (.iload_n 1, 1) := by decide +kernel
theorem dX6_isPlace_1 : decode cX6_isPlace 1 = .ok (.ifCond .lt 21, 3) := by decide +kernel
theorem dX6_isPlace_4 : decode cX6_isPlace 4 = .ok (.iload_n 1, 1) := by decide +kernel
theorem dX6_isPlace_5 : decode cX6_isPlace 5 = .ok (.aload_n 0, 1) := by decide +kernel
theorem dX6_isPlace_6 : decode cX6_isPlace 6 = .ok (.getfield 14, 3) := by decide +kernel
theorem dX6_isPlace_9 : decode cX6_isPlace 9 = .ok (.getfield 65, 3) := by decide +kernel
theorem dX6_isPlace_12 : decode cX6_isPlace 12 = .ok (.invokevirtual 50, 3) := by decide +kernel
theorem dX6_isPlace_15 : decode cX6_isPlace 15 = .ok (.if_icmp .gt 7, 3) := by decide +kernel
theorem dX6_isPlace_18 : decode cX6_isPlace 18 = .ok (.iconst 1, 1) := by decide +kernel
theorem dX6_isPlace_19 : decode cX6_isPlace 19 = .ok (.goto 4, 3) := by decide +kernel
theorem dX6_isPlace_22 : decode cX6_isPlace 22 = .ok (.iconst 0, 1) := by decide +kernel
theorem dX6_isPlace_23 : decode cX6_isPlace 23 = .ok (.ireturn, 1) := by decide +kernel
theorem dX6_isStretch_0 : decode cX6_isStretch 0 = .ok (.aload_n 0, 1) := by decide +kernel
theorem dX6_isStretch_1 : decode cX6_isStretch 1 = .ok (.iload_n 1, 1) := by decide +kernel
theorem dX6_isStretch_2 : decode cX6_isStretch 2 = .ok (.invokevirtual 115, 3) := by decide +kernel
theorem dX6_isStretch_5 : decode cX6_isStretch 5 = .ok (.ifCond .eq 27, 3) := by decide +kernel
theorem dX6_isStretch_8 : decode cX6_isStretch 8 = .ok (.iload_n 2, 1) := by decide +kernel
theorem dX6_isStretch_9 : decode cX6_isStretch 9 = .ok (.ifCond .lt 23, 3) := by decide +kernel
theorem dX6_isStretch_12 : decode cX6_isStretch 12 = .ok (.iload_n 2, 1) := by decide +kernel
theorem dX6_isStretch_13 : decode cX6_isStretch 13 = .ok (.aload_n 0, 1) := by decide +kernel
theorem dX6_isStretch_14 : decode cX6_isStretch 14 = .ok (.getfield 14, 3) := by decide +kernel
theorem dX6_isStretch_17 : decode cX6_isStretch 17 = .ok (.getfield 65, 3) := by decide +kernel
theorem dX6_isStretch_20 : decode cX6_isStretch 20 = .ok (.invokevirtual 50, 3) := by decide +kernel
theorem dX6_isStretch_23 : decode cX6_isStretch 23 = .ok (.iload_n 1, 1) := by decide +kernel
theorem dX6_isStretch_24 : decode cX6_isStretch 24 = .ok (.isub, 1) := by decide +kernel
theorem dX6_isStretch_25 : decode cX6_isStretch 25 = .ok (.if_icmp .gt 7, 3) := by decide +kernel
theorem dX6_isStretch_28 : decode cX6_isStretch 28 = .ok (.iconst 1, 1) := by decide +kernel
theorem dX6_isStretch_29 : decode cX6_isStretch 29 = .ok (.goto 4, 3) := by decide +kernel
theorem dX6_isStretch_32 : decode cX6_isStretch 32 = .ok (.iconst 0, 1) := by decide +kernel
theorem dX6_isStretch_33 : decode cX6_isStretch 33 = .ok (.ireturn, 1) := by decide +kernel
theorem dX6_isLine_0 : decode cX6_isLine 0 = .ok (.iload_n 1, 1) := by decide +kernel
theorem dX6_isLine_1 : decode cX6_isLine 1 = .ok (.ifCond .lt 18, 3) := by decide +kernel
theorem dX6_isLine_4 : decode cX6_isLine 4 = .ok (.iload_n 1, 1) := by decide +kernel
theorem dX6_isLine_5 : decode cX6_isLine 5 = .ok (.aload_n 0, 1) := by decide +kernel
theorem dX6_isLine_6 : decode cX6_isLine 6 = .ok (.getfield 21, 3) := by decide +kernel
theorem dX6_isLine_9 : decode cX6_isLine 9 = .ok (.invokevirtual 179, 3) := by decide +kernel
theorem dX6_isLine_12 : decode cX6_isLine 12 = .ok (.if_icmp .ge 7, 3) := by decide +kernel
theorem dX6_isLine_15 : decode cX6_isLine 15 = .ok (.iconst 1, 1) := by decide +kernel
theorem dX6_isLine_16 : decode cX6_isLine 16 = .ok (.goto 4, 3) := by decide +kernel
theorem dX6_isLine_19 : decode cX6_isLine 19 = .ok (.iconst 0, 1) := by decide +kernel
theorem dX6_isLine_20 : decode cX6_isLine 20 = .ok (.ireturn, 1) := by decide +kernel
theorem dX6_isMeasure_0 : decode cX6_isMeasure 0 = .ok (.iload_n 0, 1) := by decide +kernel
theorem dX6_isMeasure_1 : decode cX6_isMeasure 1 = .ok (.ifCond .lt 12, 3) := by decide +kernel
theorem dX6_isMeasure_4 : decode cX6_isMeasure 4 = .ok (.iload_n 0, 1) := by decide +kernel
theorem dX6_isMeasure_5 : decode cX6_isMeasure 5 = .ok (.iconst 3, 1) := by decide +kernel
theorem dX6_isMeasure_6 : decode cX6_isMeasure 6 = .ok (.if_icmp .gt 7, 3) := by decide +kernel
theorem dX6_isMeasure_9 : decode cX6_isMeasure 9 = .ok (.iconst 1, 1) := by decide +kernel
theorem dX6_isMeasure_10 : decode cX6_isMeasure 10 = .ok (.goto 4, 3) := by decide +kernel
theorem dX6_isMeasure_13 : decode cX6_isMeasure 13 = .ok (.iconst 0, 1) := by decide +kernel
theorem dX6_isMeasure_14 : decode cX6_isMeasure 14 = .ok (.ireturn, 1) := by decide +kernel
theorem dX6_isName_0 : decode cX6_isName 0 = .ok (.iload_n 0, 1) := by decide +kernel
theorem dX6_isName_1 : decode cX6_isName 1 = .ok (.bipush 97, 2) := by decide +kernel
theorem dX6_isName_3 : decode cX6_isName 3 = .ok (.if_icmp .lt 13, 3) := by decide +kernel
theorem dX6_isName_6 : decode cX6_isName 6 = .ok (.iload_n 0, 1) := by decide +kernel
theorem dX6_isName_7 : decode cX6_isName 7 = .ok (.bipush 123, 2) := by decide +kernel
theorem dX6_isName_9 : decode cX6_isName 9 = .ok (.if_icmp .ge 7, 3) := by decide +kernel
theorem dX6_isName_12 : decode cX6_isName 12 = .ok (.iconst 1, 1) := by decide +kernel
theorem dX6_isName_13 : decode cX6_isName 13 = .ok (.goto 4, 3) := by decide +kernel
theorem dX6_isName_16 : decode cX6_isName 16 = .ok (.iconst 0, 1) := by decide +kernel
theorem dX6_isName_17 : decode cX6_isName 17 = .ok (.ireturn, 1) := by decide +kernel
theorem dX6_measureInLine_0 : decode cX6_measureInLine 0 = .ok (.iload_n 0, 1) := by decide +kernel
theorem dX6_measureInLine_1 : decode cX6_measureInLine 1 = .ok (.iconst 1, 1) := by decide +kernel
theorem dX6_measureInLine_2 : decode cX6_measureInLine 2 = .ok (.if_icmp .ne 7, 3) := by decide +kernel
theorem dX6_measureInLine_5 : decode cX6_measureInLine 5 = .ok (.iconst 0, 1) := by decide +kernel
theorem dX6_measureInLine_6 : decode cX6_measureInLine 6 = .ok (.goto 13, 3) := by decide +kernel
theorem dX6_measureInLine_9 : decode cX6_measureInLine 9 = .ok (.iload_n 0, 1) := by decide +kernel
theorem dX6_measureInLine_10 : decode cX6_measureInLine 10 = .ok (.iconst 2, 1) := by decide +kernel
theorem dX6_measureInLine_11 : decode cX6_measureInLine 11 = .ok (.if_icmp .ne 7, 3) := by decide +kernel
theorem dX6_measureInLine_14 : decode cX6_measureInLine 14 = .ok (.iconst 1, 1) := by decide +kernel
theorem dX6_measureInLine_15 : decode cX6_measureInLine 15 = .ok (.goto 4, 3) := by decide +kernel
theorem dX6_measureInLine_18 : decode cX6_measureInLine 18 = .ok (.iconst 3, 1) := by decide +kernel
theorem dX6_measureInLine_19 : decode cX6_measureInLine 19 = .ok (.ireturn, 1) := by decide +kernel
theorem dX6_widestPart_0 : decode cX6_widestPart 0 = .ok (.iconst 0, 1) := by decide +kernel
theorem dX6_widestPart_1 : decode cX6_widestPart 1 = .ok (.istore_n 3, 1) := by decide +kernel
theorem dX6_widestPart_2 : decode cX6_widestPart 2 = .ok (.iload_n 1, 1) := by decide +kernel
theorem dX6_widestPart_3 : decode cX6_widestPart 3 = .ok (.istore 4, 2) := by decide +kernel
theorem dX6_widestPart_5 : decode cX6_widestPart 5 = .ok (.iload_n 1, 1) := by decide +kernel
theorem dX6_widestPart_6 : decode cX6_widestPart 6 = .ok (.istore 5, 2) := by decide +kernel
theorem dX6_widestPart_8 : decode cX6_widestPart 8 = .ok (.iload 5, 2) := by decide +kernel
theorem dX6_widestPart_10 : decode cX6_widestPart 10 = .ok (.iload_n 2, 1) := by decide +kernel
theorem dX6_widestPart_11 : decode cX6_widestPart 11 = .ok (.if_icmp .gt 55, 3) := by decide +kernel
theorem dX6_widestPart_14 : decode cX6_widestPart 14 = .ok (.iload 5, 2) := by decide +kernel
theorem dX6_widestPart_16 : decode cX6_widestPart 16 = .ok (.iload_n 2, 1) := by decide +kernel
theorem dX6_widestPart_17 : decode cX6_widestPart 17 = .ok (.if_icmp .eq 20, 3) := by decide +kernel
theorem dX6_widestPart_20 : decode cX6_widestPart 20 = .ok (.aload_n 0, 1) := by decide +kernel
theorem dX6_widestPart_21 : decode cX6_widestPart 21 = .ok (.getfield 14, 3) := by decide +kernel
theorem dX6_widestPart_24 : decode cX6_widestPart 24 = .ok (.getfield 65, 3) := by decide +kernel
theorem dX6_widestPart_27 : decode cX6_widestPart 27 = .ok (.iload 5, 2) := by decide +kernel
theorem dX6_widestPart_29 : decode cX6_widestPart 29 = .ok (.invokevirtual 97, 3) := by decide +kernel
theorem dX6_widestPart_32 : decode cX6_widestPart 32 = .ok (.bipush 10, 2) := by decide +kernel
theorem dX6_widestPart_34 : decode cX6_widestPart 34 = .ok (.if_icmp .ne 26, 3) := by decide +kernel
theorem dX6_widestPart_37 : decode cX6_widestPart 37 = .ok (.iload_n 3, 1) := by decide +kernel
theorem dX6_widestPart_38 : decode cX6_widestPart 38 = .ok (.aload_n 0, 1) := by decide +kernel
theorem dX6_widestPart_39 : decode cX6_widestPart 39 = .ok (.getfield 21, 3) := by decide +kernel
theorem dX6_widestPart_42 : decode cX6_widestPart 42 = .ok (.iconst 3, 1) := by decide +kernel
theorem dX6_widestPart_43 : decode cX6_widestPart 43 = .ok (.iload 4, 2) := by decide +kernel
theorem dX6_widestPart_45 : decode cX6_widestPart 45 = .ok (.iload 5, 2) := by decide +kernel
theorem dX6_widestPart_47 : decode cX6_widestPart 47 = .ok (.invokevirtual 124, 3) := by decide +kernel
theorem dX6_widestPart_50 : decode cX6_widestPart 50 = .ok (.invokestatic 193, 3) := by decide +kernel
theorem dX6_widestPart_53 : decode cX6_widestPart 53 = .ok (.istore_n 3, 1) := by decide +kernel
theorem dX6_widestPart_54 : decode cX6_widestPart 54 = .ok (.iload 5, 2) := by decide +kernel
theorem dX6_widestPart_56 : decode cX6_widestPart 56 = .ok (.iconst 1, 1) := by decide +kernel
theorem dX6_widestPart_57 : decode cX6_widestPart 57 = .ok (.iadd, 1) := by decide +kernel
theorem dX6_widestPart_58 : decode cX6_widestPart 58 = .ok (.istore 4, 2) := by decide +kernel
theorem dX6_widestPart_60 : decode cX6_widestPart 60 = .ok (.iinc 5 1, 3) := by decide +kernel
theorem dX6_widestPart_63 : decode cX6_widestPart 63 = .ok (.goto (-55), 3) := by decide +kernel
theorem dX6_widestPart_66 : decode cX6_widestPart 66 = .ok (.iload_n 3, 1) := by decide +kernel
theorem dX6_widestPart_67 : decode cX6_widestPart 67 = .ok (.ireturn, 1) := by decide +kernel
theorem dX6_beginsLetter_0 : decode cX6_beginsLetter 0 = .ok (.iload_n 0, 1) := by decide +kernel
theorem dX6_beginsLetter_1 : decode cX6_beginsLetter 1 = .ok (.sipush 128, 3) := by decide +kernel
theorem dX6_beginsLetter_4 : decode cX6_beginsLetter 4 = .ok (.if_icmp .lt 10, 3) := by decide +kernel
theorem dX6_beginsLetter_7 : decode cX6_beginsLetter 7 = .ok (.iload_n 0, 1) := by decide +kernel
theorem dX6_beginsLetter_8 : decode cX6_beginsLetter 8 = .ok (.sipush 191, 3) := by decide +kernel
theorem dX6_beginsLetter_11 : decode cX6_beginsLetter 11 = .ok (.if_icmp .le 7, 3) := by decide +kernel
theorem dX6_beginsLetter_14 : decode cX6_beginsLetter 14 = .ok (.iconst 1, 1) := by decide +kernel
theorem dX6_beginsLetter_15 : decode cX6_beginsLetter 15 = .ok (.goto 4, 3) := by decide +kernel
theorem dX6_beginsLetter_18 : decode cX6_beginsLetter 18 = .ok (.iconst 0, 1) := by decide +kernel
theorem dX6_beginsLetter_19 : decode cX6_beginsLetter 19 = .ok (.ireturn, 1) := by decide +kernel
theorem dX6_cellsOf_0 : decode cX6_cellsOf 0 = .ok (.iload_n 0, 1) := by decide +kernel
theorem dX6_cellsOf_1 : decode cX6_cellsOf 1 = .ok (.invokestatic 198, 3) := by decide +kernel
theorem dX6_cellsOf_4 : decode cX6_cellsOf 4 = .ok (.ifCond .eq 9, 3) := by decide +kernel
theorem dX6_cellsOf_7 : decode cX6_cellsOf 7 = .ok (.iload_n 0, 1) := by decide +kernel
theorem dX6_cellsOf_8 : decode cX6_cellsOf 8 = .ok (.bipush 32, 2) := by decide +kernel
theorem dX6_cellsOf_10 : decode cX6_cellsOf 10 = .ok (.if_icmp .ge 5, 3) := by decide +kernel
theorem dX6_cellsOf_13 : decode cX6_cellsOf 13 = .ok (.iconst 0, 1) := by decide +kernel
theorem dX6_cellsOf_14 : decode cX6_cellsOf 14 = .ok (.ireturn, 1) := by decide +kernel
theorem dX6_cellsOf_15 : decode cX6_cellsOf 15 = .ok (.iload_n 0, 1) := by decide +kernel
theorem dX6_cellsOf_16 : decode cX6_cellsOf 16 = .ok (.sipush 223, 3) := by decide +kernel
theorem dX6_cellsOf_19 : decode cX6_cellsOf 19 = .ok (.if_icmp .le 7, 3) := by decide +kernel
theorem dX6_cellsOf_22 : decode cX6_cellsOf 22 = .ok (.iconst 2, 1) := by decide +kernel
theorem dX6_cellsOf_23 : decode cX6_cellsOf 23 = .ok (.goto 4, 3) := by decide +kernel
theorem dX6_cellsOf_26 : decode cX6_cellsOf 26 = .ok (.iconst 1, 1) := by decide +kernel
theorem dX6_cellsOf_27 : decode cX6_cellsOf 27 = .ok (.ireturn, 1) := by decide +kernel
end
section
theorem dX7_init_0 : decode cX7_init 0 = .ok (.aload_n 0, 1) := by decide +kernel
theorem dX7_init_1 : decode cX7_init 1 = .ok (.invokespecial 1, 3) := by decide +kernel
theorem dX7_init_4 : decode cX7_init 4 = .ok (.aload_n 0, 1) := by decide +kernel
theorem dX7_init_5 : decode cX7_init 5 = .ok (.sipush 541, 3) := by decide +kernel
theorem dX7_init_8 : decode cX7_init 8 = .ok (.newarray .int, 2) := by decide +kernel
theorem dX7_init_10 : decode cX7_init 10 = .ok (.putfield 7, 3) := by decide +kernel
theorem dX7_init_13 : decode cX7_init 13 = .ok (.aload_n 0, 1) := by decide +kernel
theorem dX7_init_14 : decode cX7_init 14 = .ok (.sipush 4328, 3) := by decide +kernel
theorem dX7_init_17 : decode cX7_init 17 = .ok (.newarray .int, 2) := by decide +kernel
theorem dX7_init_19 : decode cX7_init 19 = .ok (.putfield 13, 3) := by decide +kernel
theorem dX7_init_22 : decode cX7_init 22 = .ok (.aload_n 0, 1) := by decide +kernel
theorem dX7_init_23 : decode cX7_init 23 = .ok (.sipush 1082, 3) := by decide +kernel
theorem dX7_init_26 : decode cX7_init 26 = .ok (.newarray .int, 2) := by decide +kernel
theorem dX7_init_28 : decode cX7_init 28 = .ok (.putfield 16, 3) := by decide +kernel
theorem dX7_init_31 : decode cX7_init 31 = .ok (.aload_n 0, 1) := by decide +kernel
theorem dX7_init_32 : decode cX7_init 32 = .ok (.iconst 2, 1) := by decide +kernel
theorem dX7_init_33 : decode cX7_init 33 = .ok (.newarray .boolean, 2) := by decide +kernel
theorem dX7_init_35 : decode cX7_init 35 = .ok (.putfield 19, 3) := by decide +kernel
theorem dX7_init_38 : decode cX7_init 38 = .ok (.aload_n 0, 1) := by decide +kernel
theorem dX7_init_39 : decode cX7_init 39 = .ok (.bipush 24, 2) := by decide +kernel
theorem dX7_init_41 : decode cX7_init 41 = .ok (.newarray .int, 2) := by decide +kernel
theorem dX7_init_43 : decode cX7_init 43 = .ok (.putfield 23, 3) := by decide +kernel
theorem dX7_init_46 : decode cX7_init 46 = .ok (.aload_n 0, 1) := by decide +kernel
theorem dX7_init_47 : decode cX7_init 47 = .ok (.iconst 4, 1) := by decide +kernel
theorem dX7_init_48 : decode cX7_init 48 = .ok (.newarray .int, 2) := by decide +kernel
theorem dX7_init_50 : decode cX7_init 50 = .ok (.putfield 26, 3) := by decide +kernel
theorem dX7_init_53 : decode cX7_init 53 = .ok (.aload_n 0, 1) := by decide +kernel
theorem dX7_init_54 : decode cX7_init 54 = .ok (.iconst 4, 1) := by decide +kernel
theorem dX7_init_55 : decode cX7_init 55 = .ok (.newarray .int, 2) := by decide +kernel
theorem dX7_init_57 : decode cX7_init 57 = .ok (.putfield 29, 3) := by decide +kernel
theorem dX7_init_60 : decode cX7_init 60 = .ok (.aload_n 0, 1) := by decide +kernel
theorem dX7_init_61 : decode cX7_init 61 = .ok (.bipush 96, 2) := by decide +kernel
theorem dX7_init_63 : decode cX7_init 63 = .ok (.newarray .int, 2) := by decide +kernel
theorem dX7_init_65 : decode cX7_init 65 = .ok (.putfield 32, 3) := by decide +kernel
theorem dX7_init_68 : decode cX7_init 68 = .ok (.aload_n 0, 1) := by decide +kernel
theorem dX7_init_69 : decode cX7_init 69 = .ok (.iconst 4, 1) := by decide +kernel
theorem dX7_init_70 : decode cX7_init 70 = .ok (.newarray .int, 2) := by decide +kernel
theorem dX7_init_72 : decode cX7_init 72 = .ok (.putfield 35, 3) := by decide +kernel
theorem dX7_init_75 : decode cX7_init 75 = .ok (.iconst 0, 1) := by decide +kernel
theorem dX7_init_76 : decode cX7_init 76 = .ok (.istore_n 1, 1) := by decide +kernel
theorem dX7_init_77 : decode cX7_init 77 = .ok (.iload_n 1, 1) := by decide +kernel
theorem dX7_init_78 : decode cX7_init 78 = .ok (.bipush 26, 2) := by decide +kernel
theorem dX7_init_80 : decode cX7_init 80 = .ok (.if_icmp .ge 20, 3) := by decide +kernel
theorem dX7_init_83 : decode cX7_init 83 = .ok (.aload_n 0, 1) := by decide +kernel
theorem dX7_init_84 : decode cX7_init 84 = .ok (.getfield 7, 3) := by decide +kernel
theorem dX7_init_87 : decode cX7_init 87 = .ok (.sipush 515, 3) := by decide +kernel
theorem dX7_init_90 : decode cX7_init 90 = .ok (.iload_n 1, 1) := by decide +kernel
theorem dX7_init_91 : decode cX7_init 91 = .ok (.iadd, 1) := by decide +kernel
theorem dX7_init_92 : decode cX7_init 92 = .ok (.iconst (-1), 1) := by decide +kernel
theorem dX7_init_93 : decode cX7_init 93 = .ok (.iastore, 1) := by decide +kernel
theorem dX7_init_94 : decode cX7_init 94 = .ok (.iinc 1 1, 3) := by decide +kernel
theorem dX7_init_97 : decode cX7_init 97 = .ok (.goto (-20), 3) := by decide +kernel
theorem dX7_init_100 : decode cX7_init 100 = .ok (.return_, 1) := by decide +kernel
theorem dX7_in_0 : decode cX7_in 0 = .ok (.iload_n 0, 1) := by decide +kernel
theorem dX7_in_1 : decode cX7_in 1 = .ok (.iload_n 1, 1) := by decide +kernel
theorem dX7_in_2 : decode cX7_in 2 = .ok (.if_icmp .lt 12, 3) := by decide +kernel
theorem dX7_in_5 : decode cX7_in 5 = .ok (.iload_n 0, 1) := by decide +kernel
theorem dX7_in_6 : decode cX7_in 6 = .ok (.iload_n 2, 1) := by decide +kernel
theorem dX7_in_7 : decode cX7_in 7 = .ok (.if_icmp .gt 7, 3) := by decide +kernel
theorem dX7_in_10 : decode cX7_in 10 = .ok (.iconst 1, 1) := by decide +kernel
theorem dX7_in_11 : decode cX7_in 11 = .ok (.goto 4, 3) := by decide +kernel
theorem dX7_in_14 : decode cX7_in 14 = .ok (.iconst 0, 1) := by decide +kernel
theorem dX7_in_15 : decode cX7_in 15 = .ok (.ireturn, 1) := by decide +kernel
theorem dX7_isPlace_0 : decode cX7_isPlace 0 = .ok (.iload_n 1, 1) := by decide +kernel
theorem dX7_isPlace_1 : decode cX7_isPlace 1 = .ok (.iconst 0, 1) := by decide +kernel
theorem dX7_isPlace_2 : decode cX7_isPlace 2 = .ok (.aload_n 0, 1) := by decide +kernel
theorem dX7_isPlace_3 : decode cX7_isPlace 3 = .ok (.getfield 7, 3) := by decide +kernel
theorem dX7_isPlace_6 : decode cX7_isPlace 6 = .ok (.iconst 0, 1) := by decide +kernel
theorem dX7_isPlace_7 : decode cX7_isPlace 7 = .ok (.iaload, 1) := by decide +kernel
theorem dX7_isPlace_8 : decode cX7_isPlace 8 = .ok (.invokestatic 38, 3) := by decide +kernel
theorem dX7_isPlace_11 : decode cX7_isPlace 11 = .ok (.ireturn, 1) := by decide +kernel
theorem dX7_byteAt_0 : decode cX7_byteAt 0 = .ok (.aload_n 0, 1) := by decide +kernel
theorem dX7_byteAt_1 : decode cX7_byteAt 1 = .ok (.getfield 7, 3) := by decide +kernel
theorem dX7_byteAt_4 : decode cX7_byteAt 4 = .ok (.iconst 3, 1) := by decide +kernel
theorem dX7_byteAt_5 : decode cX7_byteAt 5 = .ok (.iload_n 1, 1) := by decide +kernel
theorem dX7_byteAt_6 : decode cX7_byteAt 6 = .ok (.iadd, 1) := by decide +kernel
theorem dX7_byteAt_7 : decode cX7_byteAt 7 = .ok (.iaload, 1) := by decide +kernel
theorem dX7_byteAt_8 : decode cX7_byteAt 8 = .ok (.ireturn, 1) := by decide +kernel
theorem dX7_chunkAt_0 : decode cX7_chunkAt 0 = .ok (.iconst 0, 1) := by decide +kernel
theorem dX7_chunkAt_1 : decode cX7_chunkAt 1 = .ok (.istore_n 2, 1) := by decide +kernel
theorem dX7_chunkAt_2 : decode cX7_chunkAt 2 = .ok (.aload_n 0, 1) := by decide +kernel
theorem dX7_chunkAt_3 : decode cX7_chunkAt 3 = .ok (.getfield 7, 3) := by decide +kernel
theorem dX7_chunkAt_6 : decode cX7_chunkAt 6 = .ok (.sipush 259, 3) := by decide +kernel
theorem dX7_chunkAt_9 : decode cX7_chunkAt 9 = .ok (.iaload, 1) := by decide +kernel
theorem dX7_chunkAt_10 : decode cX7_chunkAt 10 = .ok (.istore_n 3, 1) := by decide +kernel
theorem dX7_chunkAt_11 : decode cX7_chunkAt 11 = .ok (.iload_n 3, 1) := by decide +kernel
theorem dX7_chunkAt_12 : decode cX7_chunkAt 12 = .ok (.iload_n 1, 1) := by decide +kernel
theorem dX7_chunkAt_13 : decode cX7_chunkAt 13 = .ok (.if_icmp .ge 22, 3) := by decide +kernel
theorem dX7_chunkAt_16 : decode cX7_chunkAt 16 = .ok (.iinc 2 1, 3) := by decide +kernel
theorem dX7_chunkAt_19 : decode cX7_chunkAt 19 = .ok (.iload_n 3, 1) := by decide +kernel
theorem dX7_chunkAt_20 : decode cX7_chunkAt 20 = .ok (.aload_n 0, 1) := by decide +kernel
theorem dX7_chunkAt_21 : decode cX7_chunkAt 21 = .ok (.getfield 7, 3) := by decide +kernel
theorem dX7_chunkAt_24 : decode cX7_chunkAt 24 = .ok (.sipush 259, 3) := by decide +kernel
theorem dX7_chunkAt_27 : decode cX7_chunkAt 27 = .ok (.iload_n 2, 1) := by decide +kernel
theorem dX7_chunkAt_28 : decode cX7_chunkAt 28 = .ok (.iadd, 1) := by decide +kernel
theorem dX7_chunkAt_29 : decode cX7_chunkAt 29 = .ok (.iaload, 1) := by decide +kernel
theorem dX7_chunkAt_30 : decode cX7_chunkAt 30 = .ok (.iadd, 1) := by decide +kernel
theorem dX7_chunkAt_31 : decode cX7_chunkAt 31 = .ok (.istore_n 3, 1) := by decide +kernel
theorem dX7_chunkAt_32 : decode cX7_chunkAt 32 = .ok (.goto (-21), 3) := by decide +kernel
theorem dX7_chunkAt_35 : decode cX7_chunkAt 35 = .ok (.iload_n 2, 1) := by decide +kernel
theorem dX7_chunkAt_36 : decode cX7_chunkAt 36 = .ok (.ireturn, 1) := by decide +kernel
theorem dX7_opens_0 : decode cX7_opens 0 = .ok (.iload_n 2, 1) := by decide +kernel
theorem dX7_opens_1 : decode cX7_opens 1 = .ok (.ifCond .le 48, 3) := by decide +kernel
theorem dX7_opens_4 : decode cX7_opens 4 = .ok (.aload_n 0, 1) := by decide +kernel
theorem dX7_opens_5 : decode cX7_opens 5 = .ok (.getfield 7, 3) := by decide +kernel
theorem dX7_opens_8 : decode cX7_opens 8 = .ok (.iconst 1, 1) := by decide +kernel
theorem dX7_opens_9 : decode cX7_opens 9 = .ok (.iaload, 1) := by decide +kernel
theorem dX7_opens_10 : decode cX7_opens 10 = .ok (.iconst 1, 1) := by decide +kernel
theorem dX7_opens_11 : decode cX7_opens 11 = .ok (.isub, 1) := by decide +kernel
theorem dX7_opens_12 : decode cX7_opens 12 = .ok (.istore_n 3, 1) := by decide +kernel
theorem dX7_opens_13 : decode cX7_opens 13 = .ok (.iload_n 3, 1) := by decide +kernel
theorem dX7_opens_14 : decode cX7_opens 14 = .ok (.iload_n 1, 1) := by decide +kernel
theorem dX7_opens_15 : decode cX7_opens 15 = .ok (.if_icmp .le 31, 3) := by decide +kernel
theorem dX7_opens_18 : decode cX7_opens 18 = .ok (.aload_n 0, 1) := by decide +kernel
theorem dX7_opens_19 : decode cX7_opens 19 = .ok (.getfield 7, 3) := by decide +kernel
theorem dX7_opens_22 : decode cX7_opens 22 = .ok (.sipush 259, 3) := by decide +kernel
theorem dX7_opens_25 : decode cX7_opens 25 = .ok (.iload_n 3, 1) := by decide +kernel
theorem dX7_opens_26 : decode cX7_opens 26 = .ok (.iadd, 1) := by decide +kernel
theorem dX7_opens_27 : decode cX7_opens 27 = .ok (.iload_n 2, 1) := by decide +kernel
theorem dX7_opens_28 : decode cX7_opens 28 = .ok (.iadd, 1) := by decide +kernel
theorem dX7_opens_29 : decode cX7_opens 29 = .ok (.aload_n 0, 1) := by decide +kernel
theorem dX7_opens_30 : decode cX7_opens 30 = .ok (.getfield 7, 3) := by decide +kernel
theorem dX7_opens_33 : decode cX7_opens 33 = .ok (.sipush 259, 3) := by decide +kernel
theorem dX7_opens_36 : decode cX7_opens 36 = .ok (.iload_n 3, 1) := by decide +kernel
theorem dX7_opens_37 : decode cX7_opens 37 = .ok (.iadd, 1) := by decide +kernel
theorem dX7_opens_38 : decode cX7_opens 38 = .ok (.iaload, 1) := by decide +kernel
theorem dX7_opens_39 : decode cX7_opens 39 = .ok (.iastore, 1) := by decide +kernel
theorem dX7_opens_40 : decode cX7_opens 40 = .ok (.iinc 3 (-1), 3) := by decide +kernel
theorem dX7_opens_43 : decode cX7_opens 43 = .ok (.goto (-30), 3) := by decide +kernel
theorem dX7_opens_46 : decode cX7_opens 46 = .ok (.goto 47, 3) := by decide +kernel
theorem dX7_opens_49 : decode cX7_opens 49 = .ok (.iload_n 1, 1) := by decide +kernel
theorem dX7_opens_50 : decode cX7_opens 50 = .ok (.iconst 1, 1) := by decide +kernel
theorem dX7_opens_51 : decode cX7_opens 51 = .ok (.iadd, 1) := by decide +kernel
theorem dX7_opens_52 : decode cX7_opens 52 = .ok (.istore_n 3, 1) := by decide +kernel
theorem dX7_opens_53 : decode cX7_opens 53 = .ok (.iload_n 3, 1) := by decide +kernel
theorem dX7_opens_54 : decode cX7_opens 54 = .ok (.iload_n 2, 1) := by decide +kernel
theorem dX7_opens_55 : decode cX7_opens 55 = .ok (.isub, 1) := by decide +kernel
theorem dX7_opens_56 : decode cX7_opens 56 = .ok (.aload_n 0, 1) := by decide +kernel
theorem dX7_opens_57 : decode cX7_opens 57 = .ok (.getfield 7, 3) := by decide +kernel
theorem dX7_opens_60 : decode cX7_opens 60 = .ok (.iconst 1, 1) := by decide +kernel
theorem dX7_opens_61 : decode cX7_opens 61 = .ok (.iaload, 1) := by decide +kernel
theorem dX7_opens_62 : decode cX7_opens 62 = .ok (.if_icmp .ge 31, 3) := by decide +kernel
theorem dX7_opens_65 : decode cX7_opens 65 = .ok (.aload_n 0, 1) := by decide +kernel
theorem dX7_opens_66 : decode cX7_opens 66 = .ok (.getfield 7, 3) := by decide +kernel
theorem dX7_opens_69 : decode cX7_opens 69 = .ok (.sipush 259, 3) := by decide +kernel
theorem dX7_opens_72 : decode cX7_opens 72 = .ok (.iload_n 3, 1) := by decide +kernel
theorem dX7_opens_73 : decode cX7_opens 73 = .ok (.iadd, 1) := by decide +kernel
theorem dX7_opens_74 : decode cX7_opens 74 = .ok (.aload_n 0, 1) := by decide +kernel
theorem dX7_opens_75 : decode cX7_opens 75 = .ok (.getfield 7, 3) := by decide +kernel
theorem dX7_opens_78 : decode cX7_opens 78 = .ok (.sipush 259, 3) := by decide +kernel
theorem dX7_opens_81 : decode cX7_opens 81 = .ok (.iload_n 3, 1) := by decide +kernel
theorem dX7_opens_82 : decode cX7_opens 82 = .ok (.iadd, 1) := by decide +kernel
theorem dX7_opens_83 : decode cX7_opens 83 = .ok (.iload_n 2, 1) := by decide +kernel
theorem dX7_opens_84 : decode cX7_opens 84 = .ok (.isub, 1) := by decide +kernel
theorem dX7_opens_85 : decode cX7_opens 85 = .ok (.iaload, 1) := by decide +kernel
theorem dX7_opens_86 : decode cX7_opens 86 = .ok (.iastore, 1) := by decide +kernel
theorem dX7_opens_87 : decode cX7_opens 87 = .ok (.iinc 3 1, 3) := by decide +kernel
theorem dX7_opens_90 : decode cX7_opens 90 = .ok (.goto (-37), 3) := by decide +kernel
theorem dX7_opens_93 : decode cX7_opens 93 = .ok (.aload_n 0, 1) := by decide +kernel
theorem dX7_opens_94 : decode cX7_opens 94 = .ok (.getfield 7, 3) := by decide +kernel
theorem dX7_opens_97 : decode cX7_opens 97 = .ok (.iconst 1, 1) := by decide +kernel
theorem dX7_opens_98 : decode cX7_opens 98 = .ok (.dup2, 1) := by decide +kernel
theorem dX7_opens_99 : decode cX7_opens 99 = .ok (.iaload, 1) := by decide +kernel
theorem dX7_opens_100 : decode cX7_opens 100 = .ok (.iload_n 2, 1) := by decide +kernel
theorem dX7_opens_101 : decode cX7_opens 101 = .ok (.iadd, 1) := by decide +kernel
theorem dX7_opens_102 : decode cX7_opens 102 = .ok (.iastore, 1) := by decide +kernel
theorem dX7_opens_103 : decode cX7_opens 103 = .ok (.return_, 1) := by decide +kernel
theorem dX7_putting_0 : decode cX7_putting 0 = .ok (.aload_n 0, 1) := by decide +kernel
theorem dX7_putting_1 : decode cX7_putting 1 = .ok (.getfield 7, 3) := by decide +kernel
theorem dX7_putting_4 : decode cX7_putting 4 = .ok (.iconst 0, 1) := by decide +kernel
theorem dX7_putting_5 : decode cX7_putting 5 = .ok (.iaload, 1) := by decide +kernel
theorem dX7_putting_6 : decode cX7_putting 6 = .ok (.iconst 1, 1) := by decide +kernel
theorem dX7_putting_7 : decode cX7_putting 7 = .ok (.isub, 1) := by decide +kernel
theorem dX7_putting_8 : decode cX7_putting 8 = .ok (.istore 5, 2) := by decide +kernel
theorem dX7_putting_10 : decode cX7_putting 10 = .ok (.iload 5, 2) := by decide +kernel
theorem dX7_putting_12 : decode cX7_putting 12 = .ok (.iload_n 1, 1) := by decide +kernel
theorem dX7_putting_13 : decode cX7_putting 13 = .ok (.if_icmp .lt 30, 3) := by decide +kernel
theorem dX7_putting_16 : decode cX7_putting 16 = .ok (.aload_n 0, 1) := by decide +kernel
theorem dX7_putting_17 : decode cX7_putting 17 = .ok (.getfield 7, 3) := by decide +kernel
theorem dX7_putting_20 : decode cX7_putting 20 = .ok (.iconst 3, 1) := by decide +kernel
theorem dX7_putting_21 : decode cX7_putting 21 = .ok (.iload 5, 2) := by decide +kernel
theorem dX7_putting_23 : decode cX7_putting 23 = .ok (.iadd, 1) := by decide +kernel
theorem dX7_putting_24 : decode cX7_putting 24 = .ok (.iload 4, 2) := by decide +kernel
theorem dX7_putting_26 : decode cX7_putting 26 = .ok (.iadd, 1) := by decide +kernel
theorem dX7_putting_27 : decode cX7_putting 27 = .ok (.aload_n 0, 1) := by decide +kernel
theorem dX7_putting_28 : decode cX7_putting 28 = .ok (.getfield 7, 3) := by decide +kernel
theorem dX7_putting_31 : decode cX7_putting 31 = .ok (.iconst 3, 1) := by decide +kernel
theorem dX7_putting_32 : decode cX7_putting 32 = .ok (.iload 5, 2) := by decide +kernel
theorem dX7_putting_34 : decode cX7_putting 34 = .ok (.iadd, 1) := by decide +kernel
theorem dX7_putting_35 : decode cX7_putting 35 = .ok (.iaload, 1) := by decide +kernel
theorem dX7_putting_36 : decode cX7_putting 36 = .ok (.iastore, 1) := by decide +kernel
theorem dX7_putting_37 : decode cX7_putting 37 = .ok (.iinc 5 (-1), 3) := by decide +kernel
theorem dX7_putting_40 : decode cX7_putting 40 = .ok (.goto (-30), 3) := by decide +kernel
theorem dX7_putting_43 : decode cX7_putting 43 = .ok (.iconst 0, 1) := by decide +kernel
theorem dX7_putting_44 : decode cX7_putting 44 = .ok (.istore 5, 2) := by decide +kernel
theorem dX7_putting_46 : decode cX7_putting 46 = .ok (.iload 5, 2) := by decide +kernel
theorem dX7_putting_48 : decode cX7_putting 48 = .ok (.iload 4, 2) := by decide +kernel
theorem dX7_putting_50 : decode cX7_putting 50 = .ok (.if_icmp .ge 26, 3) := by decide +kernel
theorem dX7_putting_53 : decode cX7_putting 53 = .ok (.aload_n 0, 1) := by decide +kernel
theorem dX7_putting_54 : decode cX7_putting 54 = .ok (.getfield 7, 3) := by decide +kernel
theorem dX7_putting_57 : decode cX7_putting 57 = .ok (.iconst 3, 1) := by decide +kernel
theorem dX7_putting_58 : decode cX7_putting 58 = .ok (.iload_n 1, 1) := by decide +kernel
theorem dX7_putting_59 : decode cX7_putting 59 = .ok (.iadd, 1) := by decide +kernel
theorem dX7_putting_60 : decode cX7_putting 60 = .ok (.iload 5, 2) := by decide +kernel
theorem dX7_putting_62 : decode cX7_putting 62 = .ok (.iadd, 1) := by decide +kernel
theorem dX7_putting_63 : decode cX7_putting 63 = .ok (.aload_n 2, 1) := by decide +kernel
theorem dX7_putting_64 : decode cX7_putting 64 = .ok (.iload_n 3, 1) := by decide +kernel
theorem dX7_putting_65 : decode cX7_putting 65 = .ok (.iload 5, 2) := by decide +kernel
theorem dX7_putting_67 : decode cX7_putting 67 = .ok (.iadd, 1) := by decide +kernel
theorem dX7_putting_68 : decode cX7_putting 68 = .ok (.iaload, 1) := by decide +kernel
theorem dX7_putting_69 : decode cX7_putting 69 = .ok (.iastore, 1) := by decide +kernel
theorem dX7_putting_70 : decode cX7_putting 70 = .ok (.iinc 5 1, 3) := by decide +kernel
theorem dX7_putting_73 : decode cX7_putting 73 = .ok (.goto (-27), 3) := by decide +kernel
theorem dX7_putting_76 : decode cX7_putting 76 = .ok (.aload_n 0, 1) := by decide +kernel
theorem dX7_putting_77 : decode cX7_putting 77 = .ok (.getfield 7, 3) := by decide +kernel
theorem dX7_putting_80 : decode cX7_putting 80 = .ok (.iconst 1, 1) := by decide +kernel
theorem dX7_putting_81 : decode cX7_putting 81 = .ok (.iaload, 1) := by decide +kernel
theorem dX7_putting_82 : decode cX7_putting 82 = .ok (.ifCond .ne 19, 3) := by decide +kernel
theorem dX7_putting_85 : decode cX7_putting 85 = .ok (.aload_n 0, 1) := by decide +kernel
theorem dX7_putting_86 : decode cX7_putting 86 = .ok (.getfield 7, 3) := by decide +kernel
theorem dX7_putting_89 : decode cX7_putting 89 = .ok (.iconst 1, 1) := by decide +kernel
theorem dX7_putting_90 : decode cX7_putting 90 = .ok (.iconst 1, 1) := by decide +kernel
theorem dX7_putting_91 : decode cX7_putting 91 = .ok (.iastore, 1) := by decide +kernel
theorem dX7_putting_92 : decode cX7_putting 92 = .ok (.aload_n 0, 1) := by decide +kernel
theorem dX7_putting_93 : decode cX7_putting 93 = .ok (.getfield 7, 3) := by decide +kernel
theorem dX7_putting_96 : decode cX7_putting 96 = .ok (.sipush 259, 3) := by decide +kernel
theorem dX7_putting_99 : decode cX7_putting 99 = .ok (.iconst 0, 1) := by decide +kernel
theorem dX7_putting_100 : decode cX7_putting 100 = .ok (.iastore, 1) := by decide +kernel
theorem dX7_putting_101 : decode cX7_putting 101 = .ok (.aload_n 0, 1) := by decide +kernel
theorem dX7_putting_102 : decode cX7_putting 102 = .ok (.iload_n 1, 1) := by decide +kernel
theorem dX7_putting_103 : decode cX7_putting 103 = .ok (.invokevirtual 42, 3) := by decide +kernel
theorem dX7_putting_106 : decode cX7_putting 106 = .ok (.istore 5, 2) := by decide +kernel
theorem dX7_putting_108 : decode cX7_putting 108 = .ok (.aload_n 0, 1) := by decide +kernel
theorem dX7_putting_109 : decode cX7_putting 109 = .ok (.getfield 7, 3) := by decide +kernel
theorem dX7_putting_112 : decode cX7_putting 112 = .ok (.sipush 259, 3) := by decide +kernel
theorem dX7_putting_115 : decode cX7_putting 115 = .ok (.iload 5, 2) := by decide +kernel
theorem dX7_putting_117 : decode cX7_putting 117 = .ok (.iadd, 1) := by decide +kernel
theorem dX7_putting_118 : decode cX7_putting 118 = .ok (.iaload, 1) := by decide +kernel
theorem dX7_putting_119 : decode cX7_putting 119 = .ok (.iload 4, 2) := by decide +kernel
theorem dX7_putting_121 : decode cX7_putting 121 = .ok (.iadd, 1) := by decide +kernel
theorem dX7_putting_122 : decode cX7_putting 122 = .ok (.istore 6, 2) := by decide +kernel
theorem dX7_putting_124 : decode cX7_putting 124 = .ok (.iload 6, 2) := by decide +kernel
theorem dX7_putting_126 : decode cX7_putting 126 = .ok (.bipush 8, 2) := by decide +kernel
theorem dX7_putting_128 : decode cX7_putting 128 = .ok (.iadd, 1) := by decide +kernel
theorem dX7_putting_129 : decode cX7_putting 129 = .ok (.iconst 1, 1) := by decide +kernel
theorem dX7_putting_130 : decode cX7_putting 130 = .ok (.isub, 1) := by decide +kernel
theorem dX7_putting_131 : decode cX7_putting 131 = .ok (.bipush 8, 2) := by decide +kernel
theorem dX7_putting_133 : decode cX7_putting 133 = .ok (.idiv, 1) := by decide +kernel
theorem dX7_putting_134 : decode cX7_putting 134 = .ok (.istore 7, 2) := by decide +kernel
theorem dX7_putting_136 : decode cX7_putting 136 = .ok (.aload_n 0, 1) := by decide +kernel
theorem dX7_putting_137 : decode cX7_putting 137 = .ok (.iload 5, 2) := by decide +kernel
theorem dX7_putting_139 : decode cX7_putting 139 = .ok (.iload 7, 2) := by decide +kernel
theorem dX7_putting_141 : decode cX7_putting 141 = .ok (.iconst 1, 1) := by decide +kernel
theorem dX7_putting_142 : decode cX7_putting 142 = .ok (.isub, 1) := by decide +kernel
theorem dX7_putting_143 : decode cX7_putting 143 = .ok (.invokevirtual 46, 3) := by decide +kernel
theorem dX7_putting_146 : decode cX7_putting 146 = .ok (.iconst 0, 1) := by decide +kernel
theorem dX7_putting_147 : decode cX7_putting 147 = .ok (.istore 8, 2) := by decide +kernel
theorem dX7_putting_149 : decode cX7_putting 149 = .ok (.iload 8, 2) := by decide +kernel
theorem dX7_putting_151 : decode cX7_putting 151 = .ok (.iload 7, 2) := by decide +kernel
theorem dX7_putting_153 : decode cX7_putting 153 = .ok (.if_icmp .ge 44, 3) := by decide +kernel
theorem dX7_putting_156 : decode cX7_putting 156 = .ok (.aload_n 0, 1) := by decide +kernel
theorem dX7_putting_157 : decode cX7_putting 157 = .ok (.getfield 7, 3) := by decide +kernel
theorem dX7_putting_160 : decode cX7_putting 160 = .ok (.sipush 259, 3) := by decide +kernel
theorem dX7_putting_163 : decode cX7_putting 163 = .ok (.iload 5, 2) := by decide +kernel
theorem dX7_putting_165 : decode cX7_putting 165 = .ok (.iadd, 1) := by decide +kernel
theorem dX7_putting_166 : decode cX7_putting 166 = .ok (.iload 8, 2) := by decide +kernel
theorem dX7_putting_168 : decode cX7_putting 168 = .ok (.iadd, 1) := by decide +kernel
theorem dX7_putting_169 : decode cX7_putting 169 = .ok (.iload 6, 2) := by decide +kernel
theorem dX7_putting_171 : decode cX7_putting 171 = .ok (.iload 7, 2) := by decide +kernel
theorem dX7_putting_173 : decode cX7_putting 173 = .ok (.idiv, 1) := by decide +kernel
theorem dX7_putting_174 : decode cX7_putting 174 = .ok (.iload 8, 2) := by decide +kernel
theorem dX7_putting_176 : decode cX7_putting 176 = .ok (.iload 6, 2) := by decide +kernel
theorem dX7_putting_178 : decode cX7_putting 178 = .ok (.iload 7, 2) := by decide +kernel
theorem dX7_putting_180 : decode cX7_putting 180 = .ok (.irem, 1) := by decide +kernel
theorem dX7_putting_181 : decode cX7_putting 181 = .ok (.if_icmp .ge 7, 3) := by decide +kernel
theorem dX7_putting_184 : decode cX7_putting 184 = .ok (.iconst 1, 1) := by decide +kernel
theorem dX7_putting_185 : decode cX7_putting 185 = .ok (.goto 4, 3) := by decide +kernel
theorem dX7_putting_188 : decode cX7_putting 188 = .ok (.iconst 0, 1) := by decide +kernel
theorem dX7_putting_189 : decode cX7_putting 189 = .ok (.iadd, 1) := by decide +kernel
theorem dX7_putting_190 : decode cX7_putting 190 = .ok (.iastore, 1) := by decide +kernel
theorem dX7_putting_191 : decode cX7_putting 191 = .ok (.iinc 8 1, 3) := by decide +kernel
theorem dX7_putting_194 : decode cX7_putting 194 = .ok (.goto (-45), 3) := by decide +kernel
theorem dX7_putting_197 : decode cX7_putting 197 = .ok (.aload_n 0, 1) := by decide +kernel
theorem dX7_putting_198 : decode cX7_putting 198 = .ok (.getfield 7, 3) := by decide +kernel
theorem dX7_putting_201 : decode cX7_putting 201 = .ok (.iconst 0, 1) := by decide +kernel
theorem dX7_putting_202 : decode cX7_putting 202 = .ok (.dup2, 1) := by decide +kernel
theorem dX7_putting_203 : decode cX7_putting 203 = .ok (.iaload, 1) := by decide +kernel
theorem dX7_putting_204 : decode cX7_putting 204 = .ok (.iload 4, 2) := by decide +kernel
theorem dX7_putting_206 : decode cX7_putting 206 = .ok (.iadd, 1) := by decide +kernel
theorem dX7_putting_207 : decode cX7_putting 207 = .ok (.iastore, 1) := by decide +kernel
theorem dX7_putting_208 : decode cX7_putting 208 = .ok (.sipush 515, 3) := by decide +kernel
theorem dX7_putting_211 : decode cX7_putting 211 = .ok (.istore 8, 2) := by decide +kernel
theorem dX7_putting_213 : decode cX7_putting 213 = .ok (.iload 8, 2) := by decide +kernel
theorem dX7_putting_215 : decode cX7_putting 215 = .ok (.sipush 541, 3) := by decide +kernel
theorem dX7_putting_218 : decode cX7_putting 218 = .ok (.if_icmp .ge 36, 3) := by decide +kernel
theorem dX7_putting_221 : decode cX7_putting 221 = .ok (.aload_n 0, 1) := by decide +kernel
theorem dX7_putting_222 : decode cX7_putting 222 = .ok (.getfield 7, 3) := by decide +kernel
theorem dX7_putting_225 : decode cX7_putting 225 = .ok (.iload 8, 2) := by decide +kernel
theorem dX7_putting_227 : decode cX7_putting 227 = .ok (.dup2, 1) := by decide +kernel
theorem dX7_putting_228 : decode cX7_putting 228 = .ok (.iaload, 1) := by decide +kernel
theorem dX7_putting_229 : decode cX7_putting 229 = .ok (.aload_n 0, 1) := by decide +kernel
theorem dX7_putting_230 : decode cX7_putting 230 = .ok (.getfield 7, 3) := by decide +kernel
theorem dX7_putting_233 : decode cX7_putting 233 = .ok (.iload 8, 2) := by decide +kernel
theorem dX7_putting_235 : decode cX7_putting 235 = .ok (.iaload, 1) := by decide +kernel
theorem dX7_putting_236 : decode cX7_putting 236 = .ok (.iload_n 1, 1) := by decide +kernel
theorem dX7_putting_237 : decode cX7_putting 237 = .ok (.if_icmp .le 8, 3) := by decide +kernel
theorem dX7_putting_240 : decode cX7_putting 240 = .ok (.iload 4, 2) := by decide +kernel
theorem dX7_putting_242 : decode cX7_putting 242 = .ok (.goto 4, 3) := by decide +kernel
theorem dX7_putting_245 : decode cX7_putting 245 = .ok (.iconst 0, 1) := by decide +kernel
theorem dX7_putting_246 : decode cX7_putting 246 = .ok (.iadd, 1) := by decide +kernel
theorem dX7_putting_247 : decode cX7_putting 247 = .ok (.iastore, 1) := by decide +kernel
theorem dX7_putting_248 : decode cX7_putting 248 = .ok (.iinc 8 1, 3) := by decide +kernel
theorem dX7_putting_251 : decode cX7_putting 251 = .ok (.goto (-38), 3) := by decide +kernel
theorem dX7_putting_254 : decode cX7_putting 254 = .ok (.aload_n 0, 1) := by decide +kernel
theorem dX7_putting_255 : decode cX7_putting 255 = .ok (.getfield 7, 3) := by decide +kernel
theorem dX7_putting_258 : decode cX7_putting 258 = .ok (.iconst 2, 1) := by decide +kernel
theorem dX7_putting_259 : decode cX7_putting 259 = .ok (.dup2, 1) := by decide +kernel
theorem dX7_putting_260 : decode cX7_putting 260 = .ok (.iaload, 1) := by decide +kernel
theorem dX7_putting_261 : decode cX7_putting 261 = .ok (.aload_n 0, 1) := by decide +kernel
theorem dX7_putting_262 : decode cX7_putting 262 = .ok (.getfield 7, 3) := by decide +kernel
theorem dX7_putting_265 : decode cX7_putting 265 = .ok (.iconst 2, 1) := by decide +kernel
theorem dX7_putting_266 : decode cX7_putting 266 = .ok (.iaload, 1) := by decide +kernel
theorem dX7_putting_267 : decode cX7_putting 267 = .ok (.iload_n 1, 1) := by decide +kernel
theorem dX7_putting_268 : decode cX7_putting 268 = .ok (.if_icmp .le 8, 3) := by decide +kernel
theorem dX7_putting_271 : decode cX7_putting 271 = .ok (.iload 4, 2) := by decide +kernel
theorem dX7_putting_273 : decode cX7_putting 273 = .ok (.goto 4, 3) := by decide +kernel
theorem dX7_putting_276 : decode cX7_putting 276 = .ok (.iconst 0, 1) := by decide +kernel
theorem dX7_putting_277 : decode cX7_putting 277 = .ok (.iadd, 1) := by decide +kernel
theorem dX7_putting_278 : decode cX7_putting 278 = .ok (.iastore, 1) := by decide +kernel
theorem dX7_putting_279 : decode cX7_putting 279 = .ok (.return_, 1) := by decide +kernel
theorem dX7_goes_0 : decode cX7_goes 0 = .ok (.iload_n 0, 1) := by decide +kernel
theorem dX7_goes_1 : decode cX7_goes 1 = .ok (.iload_n 1, 1) := by decide +kernel
theorem dX7_goes_2 : decode cX7_goes 2 = .ok (.iload_n 2, 1) := by decide +kernel
theorem dX7_goes_3 : decode cX7_goes 3 = .ok (.iadd, 1) := by decide +kernel
theorem dX7_goes_4 : decode cX7_goes 4 = .ok (.if_icmp .le 9, 3) := by decide +kernel
theorem dX7_goes_7 : decode cX7_goes 7 = .ok (.iload_n 0, 1) := by decide +kernel
theorem dX7_goes_8 : decode cX7_goes 8 = .ok (.iload_n 2, 1) := by decide +kernel
theorem dX7_goes_9 : decode cX7_goes 9 = .ok (.isub, 1) := by decide +kernel
theorem dX7_goes_10 : decode cX7_goes 10 = .ok (.goto 13, 3) := by decide +kernel
theorem dX7_goes_13 : decode cX7_goes 13 = .ok (.iload_n 0, 1) := by decide +kernel
theorem dX7_goes_14 : decode cX7_goes 14 = .ok (.iload_n 1, 1) := by decide +kernel
theorem dX7_goes_15 : decode cX7_goes 15 = .ok (.if_icmp .le 7, 3) := by decide +kernel
theorem dX7_goes_18 : decode cX7_goes 18 = .ok (.iload_n 1, 1) := by decide +kernel
theorem dX7_goes_19 : decode cX7_goes 19 = .ok (.goto 4, 3) := by decide +kernel
theorem dX7_goes_22 : decode cX7_goes 22 = .ok (.iload_n 0, 1) := by decide +kernel
theorem dX7_goes_23 : decode cX7_goes 23 = .ok (.ireturn, 1) := by decide +kernel
theorem dX7_taking_0 : decode cX7_taking 0 = .ok (.iconst 0, 1) := by decide +kernel
theorem dX7_taking_1 : decode cX7_taking 1 = .ok (.istore_n 3, 1) := by decide +kernel
theorem dX7_taking_2 : decode cX7_taking 2 = .ok (.iconst 0, 1) := by decide +kernel
theorem dX7_taking_3 : decode cX7_taking 3 = .ok (.istore 4, 2) := by decide +kernel
theorem dX7_taking_5 : decode cX7_taking 5 = .ok (.iload 4, 2) := by decide +kernel
theorem dX7_taking_7 : decode cX7_taking 7 = .ok (.aload_n 0, 1) := by decide +kernel
theorem dX7_taking_8 : decode cX7_taking 8 = .ok (.getfield 7, 3) := by decide +kernel
theorem dX7_taking_11 : decode cX7_taking 11 = .ok (.iconst 1, 1) := by decide +kernel
theorem dX7_taking_12 : decode cX7_taking 12 = .ok (.iaload, 1) := by decide +kernel
theorem dX7_taking_13 : decode cX7_taking 13 = .ok (.if_icmp .ge 87, 3) := by decide +kernel
theorem dX7_taking_16 : decode cX7_taking 16 = .ok (.iload_n 3, 1) := by decide +kernel
theorem dX7_taking_17 : decode cX7_taking 17 = .ok (.aload_n 0, 1) := by decide +kernel
theorem dX7_taking_18 : decode cX7_taking 18 = .ok (.getfield 7, 3) := by decide +kernel
theorem dX7_taking_21 : decode cX7_taking 21 = .ok (.sipush 259, 3) := by decide +kernel
theorem dX7_taking_24 : decode cX7_taking 24 = .ok (.iload 4, 2) := by decide +kernel
theorem dX7_taking_26 : decode cX7_taking 26 = .ok (.iadd, 1) := by decide +kernel
theorem dX7_taking_27 : decode cX7_taking 27 = .ok (.iaload, 1) := by decide +kernel
theorem dX7_taking_28 : decode cX7_taking 28 = .ok (.iadd, 1) := by decide +kernel
theorem dX7_taking_29 : decode cX7_taking 29 = .ok (.istore 5, 2) := by decide +kernel
theorem dX7_taking_31 : decode cX7_taking 31 = .ok (.iload_n 3, 1) := by decide +kernel
theorem dX7_taking_32 : decode cX7_taking 32 = .ok (.iload_n 1, 1) := by decide +kernel
theorem dX7_taking_33 : decode cX7_taking 33 = .ok (.if_icmp .le 7, 3) := by decide +kernel
theorem dX7_taking_36 : decode cX7_taking 36 = .ok (.iload_n 3, 1) := by decide +kernel
theorem dX7_taking_37 : decode cX7_taking 37 = .ok (.goto 4, 3) := by decide +kernel
theorem dX7_taking_40 : decode cX7_taking 40 = .ok (.iload_n 1, 1) := by decide +kernel
theorem dX7_taking_41 : decode cX7_taking 41 = .ok (.istore 6, 2) := by decide +kernel
theorem dX7_taking_43 : decode cX7_taking 43 = .ok (.iload 5, 2) := by decide +kernel
theorem dX7_taking_45 : decode cX7_taking 45 = .ok (.iload_n 1, 1) := by decide +kernel
theorem dX7_taking_46 : decode cX7_taking 46 = .ok (.iload_n 2, 1) := by decide +kernel
theorem dX7_taking_47 : decode cX7_taking 47 = .ok (.iadd, 1) := by decide +kernel
theorem dX7_taking_48 : decode cX7_taking 48 = .ok (.if_icmp .ge 8, 3) := by decide +kernel
theorem dX7_taking_51 : decode cX7_taking 51 = .ok (.iload 5, 2) := by decide +kernel
theorem dX7_taking_53 : decode cX7_taking 53 = .ok (.goto 6, 3) := by decide +kernel
theorem dX7_taking_56 : decode cX7_taking 56 = .ok (.iload_n 1, 1) := by decide +kernel
theorem dX7_taking_57 : decode cX7_taking 57 = .ok (.iload_n 2, 1) := by decide +kernel
theorem dX7_taking_58 : decode cX7_taking 58 = .ok (.iadd, 1) := by decide +kernel
theorem dX7_taking_59 : decode cX7_taking 59 = .ok (.istore 7, 2) := by decide +kernel
theorem dX7_taking_61 : decode cX7_taking 61 = .ok (.aload_n 0, 1) := by decide +kernel
theorem dX7_taking_62 : decode cX7_taking 62 = .ok (.getfield 7, 3) := by decide +kernel
theorem dX7_taking_65 : decode cX7_taking 65 = .ok (.sipush 259, 3) := by decide +kernel
theorem dX7_taking_68 : decode cX7_taking 68 = .ok (.iload 4, 2) := by decide +kernel
theorem dX7_taking_70 : decode cX7_taking 70 = .ok (.iadd, 1) := by decide +kernel
theorem dX7_taking_71 : decode cX7_taking 71 = .ok (.dup2, 1) := by decide +kernel
theorem dX7_taking_72 : decode cX7_taking 72 = .ok (.iaload, 1) := by decide +kernel
theorem dX7_taking_73 : decode cX7_taking 73 = .ok (.iload 7, 2) := by decide +kernel
theorem dX7_taking_75 : decode cX7_taking 75 = .ok (.iload 6, 2) := by decide +kernel
theorem dX7_taking_77 : decode cX7_taking 77 = .ok (.if_icmp .le 11, 3) := by decide +kernel
theorem dX7_taking_80 : decode cX7_taking 80 = .ok (.iload 7, 2) := by decide +kernel
theorem dX7_taking_82 : decode cX7_taking 82 = .ok (.iload 6, 2) := by decide +kernel
theorem dX7_taking_84 : decode cX7_taking 84 = .ok (.isub, 1) := by decide +kernel
theorem dX7_taking_85 : decode cX7_taking 85 = .ok (.goto 4, 3) := by decide +kernel
theorem dX7_taking_88 : decode cX7_taking 88 = .ok (.iconst 0, 1) := by decide +kernel
theorem dX7_taking_89 : decode cX7_taking 89 = .ok (.isub, 1) := by decide +kernel
theorem dX7_taking_90 : decode cX7_taking 90 = .ok (.iastore, 1) := by decide +kernel
theorem dX7_taking_91 : decode cX7_taking 91 = .ok (.iload 5, 2) := by decide +kernel
theorem dX7_taking_93 : decode cX7_taking 93 = .ok (.istore_n 3, 1) := by decide +kernel
theorem dX7_taking_94 : decode cX7_taking 94 = .ok (.iinc 4 1, 3) := by decide +kernel
theorem dX7_taking_97 : decode cX7_taking 97 = .ok (.goto (-92), 3) := by decide +kernel
theorem dX7_taking_100 : decode cX7_taking 100 = .ok (.iconst 0, 1) := by decide +kernel
theorem dX7_taking_101 : decode cX7_taking 101 = .ok (.istore 4, 2) := by decide +kernel
theorem dX7_taking_103 : decode cX7_taking 103 = .ok (.iconst 0, 1) := by decide +kernel
theorem dX7_taking_104 : decode cX7_taking 104 = .ok (.istore 5, 2) := by decide +kernel
theorem dX7_taking_106 : decode cX7_taking 106 = .ok (.iload 5, 2) := by decide +kernel
theorem dX7_taking_108 : decode cX7_taking 108 = .ok (.aload_n 0, 1) := by decide +kernel
theorem dX7_taking_109 : decode cX7_taking 109 = .ok (.getfield 7, 3) := by decide +kernel
theorem dX7_taking_112 : decode cX7_taking 112 = .ok (.iconst 1, 1) := by decide +kernel
theorem dX7_taking_113 : decode cX7_taking 113 = .ok (.iaload, 1) := by decide +kernel
theorem dX7_taking_114 : decode cX7_taking 114 = .ok (.if_icmp .ge 48, 3) := by decide +kernel
theorem dX7_taking_117 : decode cX7_taking 117 = .ok (.aload_n 0, 1) := by decide +kernel
theorem dX7_taking_118 : decode cX7_taking 118 = .ok (.getfield 7, 3) := by decide +kernel
theorem dX7_taking_121 : decode cX7_taking 121 = .ok (.sipush 259, 3) := by decide +kernel
theorem dX7_taking_124 : decode cX7_taking 124 = .ok (.iload 5, 2) := by decide +kernel
theorem dX7_taking_126 : decode cX7_taking 126 = .ok (.iadd, 1) := by decide +kernel
theorem dX7_taking_127 : decode cX7_taking 127 = .ok (.iaload, 1) := by decide +kernel
theorem dX7_taking_128 : decode cX7_taking 128 = .ok (.ifCond .le 28, 3) := by decide +kernel
theorem dX7_taking_131 : decode cX7_taking 131 = .ok (.aload_n 0, 1) := by decide +kernel
theorem dX7_taking_132 : decode cX7_taking 132 = .ok (.getfield 7, 3) := by decide +kernel
theorem dX7_taking_135 : decode cX7_taking 135 = .ok (.sipush 259, 3) := by decide +kernel
theorem dX7_taking_138 : decode cX7_taking 138 = .ok (.iload 4, 2) := by decide +kernel
theorem dX7_taking_140 : decode cX7_taking 140 = .ok (.iadd, 1) := by decide +kernel
theorem dX7_taking_141 : decode cX7_taking 141 = .ok (.aload_n 0, 1) := by decide +kernel
theorem dX7_taking_142 : decode cX7_taking 142 = .ok (.getfield 7, 3) := by decide +kernel
theorem dX7_taking_145 : decode cX7_taking 145 = .ok (.sipush 259, 3) := by decide +kernel
theorem dX7_taking_148 : decode cX7_taking 148 = .ok (.iload 5, 2) := by decide +kernel
theorem dX7_taking_150 : decode cX7_taking 150 = .ok (.iadd, 1) := by decide +kernel
theorem dX7_taking_151 : decode cX7_taking 151 = .ok (.iaload, 1) := by decide +kernel
theorem dX7_taking_152 : decode cX7_taking 152 = .ok (.iastore, 1) := by decide +kernel
theorem dX7_taking_153 : decode cX7_taking 153 = .ok (.iinc 4 1, 3) := by decide +kernel
theorem dX7_taking_156 : decode cX7_taking 156 = .ok (.iinc 5 1, 3) := by decide +kernel
theorem dX7_taking_159 : decode cX7_taking 159 = .ok (.goto (-53), 3) := by decide +kernel
theorem dX7_taking_162 : decode cX7_taking 162 = .ok (.aload_n 0, 1) := by decide +kernel
theorem dX7_taking_163 : decode cX7_taking 163 = .ok (.getfield 7, 3) := by decide +kernel
theorem dX7_taking_166 : decode cX7_taking 166 = .ok (.iconst 1, 1) := by decide +kernel
theorem dX7_taking_167 : decode cX7_taking 167 = .ok (.iload 4, 2) := by decide +kernel
theorem dX7_taking_169 : decode cX7_taking 169 = .ok (.iastore, 1) := by decide +kernel
theorem dX7_taking_170 : decode cX7_taking 170 = .ok (.iload_n 1, 1) := by decide +kernel
theorem dX7_taking_171 : decode cX7_taking 171 = .ok (.istore 5, 2) := by decide +kernel
theorem dX7_taking_173 : decode cX7_taking 173 = .ok (.iload 5, 2) := by decide +kernel
theorem dX7_taking_175 : decode cX7_taking 175 = .ok (.iload_n 2, 1) := by decide +kernel
theorem dX7_taking_176 : decode cX7_taking 176 = .ok (.iadd, 1) := by decide +kernel
theorem dX7_taking_177 : decode cX7_taking 177 = .ok (.aload_n 0, 1) := by decide +kernel
theorem dX7_taking_178 : decode cX7_taking 178 = .ok (.getfield 7, 3) := by decide +kernel
theorem dX7_taking_181 : decode cX7_taking 181 = .ok (.iconst 0, 1) := by decide +kernel
theorem dX7_taking_182 : decode cX7_taking 182 = .ok (.iaload, 1) := by decide +kernel
theorem dX7_taking_183 : decode cX7_taking 183 = .ok (.if_icmp .ge 29, 3) := by decide +kernel
theorem dX7_taking_186 : decode cX7_taking 186 = .ok (.aload_n 0, 1) := by decide +kernel
theorem dX7_taking_187 : decode cX7_taking 187 = .ok (.getfield 7, 3) := by decide +kernel
theorem dX7_taking_190 : decode cX7_taking 190 = .ok (.iconst 3, 1) := by decide +kernel
theorem dX7_taking_191 : decode cX7_taking 191 = .ok (.iload 5, 2) := by decide +kernel
theorem dX7_taking_193 : decode cX7_taking 193 = .ok (.iadd, 1) := by decide +kernel
theorem dX7_taking_194 : decode cX7_taking 194 = .ok (.aload_n 0, 1) := by decide +kernel
theorem dX7_taking_195 : decode cX7_taking 195 = .ok (.getfield 7, 3) := by decide +kernel
theorem dX7_taking_198 : decode cX7_taking 198 = .ok (.iconst 3, 1) := by decide +kernel
theorem dX7_taking_199 : decode cX7_taking 199 = .ok (.iload 5, 2) := by decide +kernel
theorem dX7_taking_201 : decode cX7_taking 201 = .ok (.iadd, 1) := by decide +kernel
theorem dX7_taking_202 : decode cX7_taking 202 = .ok (.iload_n 2, 1) := by decide +kernel
theorem dX7_taking_203 : decode cX7_taking 203 = .ok (.iadd, 1) := by decide +kernel
theorem dX7_taking_204 : decode cX7_taking 204 = .ok (.iaload, 1) := by decide +kernel
theorem dX7_taking_205 : decode cX7_taking 205 = .ok (.iastore, 1) := by decide +kernel
theorem dX7_taking_206 : decode cX7_taking 206 = .ok (.iinc 5 1, 3) := by decide +kernel
theorem dX7_taking_209 : decode cX7_taking 209 = .ok (.goto (-36), 3) := by decide +kernel
theorem dX7_taking_212 : decode cX7_taking 212 = .ok (.aload_n 0, 1) := by decide +kernel
theorem dX7_taking_213 : decode cX7_taking 213 = .ok (.getfield 7, 3) := by decide +kernel
theorem dX7_taking_216 : decode cX7_taking 216 = .ok (.iconst 0, 1) := by decide +kernel
theorem dX7_taking_217 : decode cX7_taking 217 = .ok (.dup2, 1) := by decide +kernel
theorem dX7_taking_218 : decode cX7_taking 218 = .ok (.iaload, 1) := by decide +kernel
theorem dX7_taking_219 : decode cX7_taking 219 = .ok (.iload_n 2, 1) := by decide +kernel
theorem dX7_taking_220 : decode cX7_taking 220 = .ok (.isub, 1) := by decide +kernel
theorem dX7_taking_221 : decode cX7_taking 221 = .ok (.iastore, 1) := by decide +kernel
theorem dX7_taking_222 : decode cX7_taking 222 = .ok (.iload 4, 2) := by decide +kernel
theorem dX7_taking_224 : decode cX7_taking 224 = .ok (.ifCond .le 83, 3) := by decide +kernel
theorem dX7_taking_227 : decode cX7_taking 227 = .ok (.aload_n 0, 1) := by decide +kernel
theorem dX7_taking_228 : decode cX7_taking 228 = .ok (.iload_n 1, 1) := by decide +kernel
theorem dX7_taking_229 : decode cX7_taking 229 = .ok (.invokevirtual 42, 3) := by decide +kernel
theorem dX7_taking_232 : decode cX7_taking 232 = .ok (.istore 5, 2) := by decide +kernel
theorem dX7_taking_234 : decode cX7_taking 234 = .ok (.iload 5, 2) := by decide +kernel
theorem dX7_taking_236 : decode cX7_taking 236 = .ok (.iconst 1, 1) := by decide +kernel
theorem dX7_taking_237 : decode cX7_taking 237 = .ok (.iadd, 1) := by decide +kernel
theorem dX7_taking_238 : decode cX7_taking 238 = .ok (.iload 4, 2) := by decide +kernel
theorem dX7_taking_240 : decode cX7_taking 240 = .ok (.if_icmp .ge 67, 3) := by decide +kernel
theorem dX7_taking_243 : decode cX7_taking 243 = .ok (.aload_n 0, 1) := by decide +kernel
theorem dX7_taking_244 : decode cX7_taking 244 = .ok (.getfield 7, 3) := by decide +kernel
theorem dX7_taking_247 : decode cX7_taking 247 = .ok (.sipush 259, 3) := by decide +kernel
theorem dX7_taking_250 : decode cX7_taking 250 = .ok (.iload 5, 2) := by decide +kernel
theorem dX7_taking_252 : decode cX7_taking 252 = .ok (.iadd, 1) := by decide +kernel
theorem dX7_taking_253 : decode cX7_taking 253 = .ok (.iaload, 1) := by decide +kernel
theorem dX7_taking_254 : decode cX7_taking 254 = .ok (.aload_n 0, 1) := by decide +kernel
theorem dX7_taking_255 : decode cX7_taking 255 = .ok (.getfield 7, 3) := by decide +kernel
theorem dX7_taking_258 : decode cX7_taking 258 = .ok (.sipush 259, 3) := by decide +kernel
theorem dX7_taking_261 : decode cX7_taking 261 = .ok (.iload 5, 2) := by decide +kernel
theorem dX7_taking_263 : decode cX7_taking 263 = .ok (.iadd, 1) := by decide +kernel
theorem dX7_taking_264 : decode cX7_taking 264 = .ok (.iconst 1, 1) := by decide +kernel
theorem dX7_taking_265 : decode cX7_taking 265 = .ok (.iadd, 1) := by decide +kernel
theorem dX7_taking_266 : decode cX7_taking 266 = .ok (.iaload, 1) := by decide +kernel
theorem dX7_taking_267 : decode cX7_taking 267 = .ok (.iadd, 1) := by decide +kernel
theorem dX7_taking_268 : decode cX7_taking 268 = .ok (.bipush 8, 2) := by decide +kernel
theorem dX7_taking_270 : decode cX7_taking 270 = .ok (.if_icmp .gt 37, 3) := by decide +kernel
theorem dX7_taking_273 : decode cX7_taking 273 = .ok (.aload_n 0, 1) := by decide +kernel
theorem dX7_taking_274 : decode cX7_taking 274 = .ok (.getfield 7, 3) := by decide +kernel
theorem dX7_taking_277 : decode cX7_taking 277 = .ok (.sipush 259, 3) := by decide +kernel
theorem dX7_taking_280 : decode cX7_taking 280 = .ok (.iload 5, 2) := by decide +kernel
theorem dX7_taking_282 : decode cX7_taking 282 = .ok (.iadd, 1) := by decide +kernel
theorem dX7_taking_283 : decode cX7_taking 283 = .ok (.dup2, 1) := by decide +kernel
theorem dX7_taking_284 : decode cX7_taking 284 = .ok (.iaload, 1) := by decide +kernel
theorem dX7_taking_285 : decode cX7_taking 285 = .ok (.aload_n 0, 1) := by decide +kernel
theorem dX7_taking_286 : decode cX7_taking 286 = .ok (.getfield 7, 3) := by decide +kernel
theorem dX7_taking_289 : decode cX7_taking 289 = .ok (.sipush 259, 3) := by decide +kernel
theorem dX7_taking_292 : decode cX7_taking 292 = .ok (.iload 5, 2) := by decide +kernel
theorem dX7_taking_294 : decode cX7_taking 294 = .ok (.iadd, 1) := by decide +kernel
theorem dX7_taking_295 : decode cX7_taking 295 = .ok (.iconst 1, 1) := by decide +kernel
theorem dX7_taking_296 : decode cX7_taking 296 = .ok (.iadd, 1) := by decide +kernel
theorem dX7_taking_297 : decode cX7_taking 297 = .ok (.iaload, 1) := by decide +kernel
theorem dX7_taking_298 : decode cX7_taking 298 = .ok (.iadd, 1) := by decide +kernel
theorem dX7_taking_299 : decode cX7_taking 299 = .ok (.iastore, 1) := by decide +kernel
theorem dX7_taking_300 : decode cX7_taking 300 = .ok (.aload_n 0, 1) := by decide +kernel
theorem dX7_taking_301 : decode cX7_taking 301 = .ok (.iload 5, 2) := by decide +kernel
theorem dX7_taking_303 : decode cX7_taking 303 = .ok (.iconst (-1), 1) := by decide +kernel
theorem dX7_taking_304 : decode cX7_taking 304 = .ok (.invokevirtual 46, 3) := by decide +kernel
theorem dX7_taking_307 : decode cX7_taking 307 = .ok (.sipush 515, 3) := by decide +kernel
theorem dX7_taking_310 : decode cX7_taking 310 = .ok (.istore 5, 2) := by decide +kernel
theorem dX7_taking_312 : decode cX7_taking 312 = .ok (.iload 5, 2) := by decide +kernel
theorem dX7_taking_314 : decode cX7_taking 314 = .ok (.sipush 541, 3) := by decide +kernel
theorem dX7_taking_317 : decode cX7_taking 317 = .ok (.if_icmp .ge 28, 3) := by decide +kernel
theorem dX7_taking_320 : decode cX7_taking 320 = .ok (.aload_n 0, 1) := by decide +kernel
theorem dX7_taking_321 : decode cX7_taking 321 = .ok (.getfield 7, 3) := by decide +kernel
theorem dX7_taking_324 : decode cX7_taking 324 = .ok (.iload 5, 2) := by decide +kernel
theorem dX7_taking_326 : decode cX7_taking 326 = .ok (.aload_n 0, 1) := by decide +kernel
theorem dX7_taking_327 : decode cX7_taking 327 = .ok (.getfield 7, 3) := by decide +kernel
theorem dX7_taking_330 : decode cX7_taking 330 = .ok (.iload 5, 2) := by decide +kernel
theorem dX7_taking_332 : decode cX7_taking 332 = .ok (.iaload, 1) := by decide +kernel
theorem dX7_taking_333 : decode cX7_taking 333 = .ok (.iload_n 1, 1) := by decide +kernel
theorem dX7_taking_334 : decode cX7_taking 334 = .ok (.iload_n 2, 1) := by decide +kernel
theorem dX7_taking_335 : decode cX7_taking 335 = .ok (.invokestatic 50, 3) := by decide +kernel
theorem dX7_taking_338 : decode cX7_taking 338 = .ok (.iastore, 1) := by decide +kernel
theorem dX7_taking_339 : decode cX7_taking 339 = .ok (.iinc 5 1, 3) := by decide +kernel
theorem dX7_taking_342 : decode cX7_taking 342 = .ok (.goto (-30), 3) := by decide +kernel
theorem dX7_taking_345 : decode cX7_taking 345 = .ok (.aload_n 0, 1) := by decide +kernel
theorem dX7_taking_346 : decode cX7_taking 346 = .ok (.getfield 7, 3) := by decide +kernel
theorem dX7_taking_349 : decode cX7_taking 349 = .ok (.iconst 2, 1) := by decide +kernel
theorem dX7_taking_350 : decode cX7_taking 350 = .ok (.aload_n 0, 1) := by decide +kernel
theorem dX7_taking_351 : decode cX7_taking 351 = .ok (.getfield 7, 3) := by decide +kernel
theorem dX7_taking_354 : decode cX7_taking 354 = .ok (.iconst 2, 1) := by decide +kernel
theorem dX7_taking_355 : decode cX7_taking 355 = .ok (.iaload, 1) := by decide +kernel
theorem dX7_taking_356 : decode cX7_taking 356 = .ok (.iload_n 1, 1) := by decide +kernel
theorem dX7_taking_357 : decode cX7_taking 357 = .ok (.iload_n 2, 1) := by decide +kernel
theorem dX7_taking_358 : decode cX7_taking 358 = .ok (.invokestatic 50, 3) := by decide +kernel
theorem dX7_taking_361 : decode cX7_taking 361 = .ok (.iastore, 1) := by decide +kernel
theorem dX7_taking_362 : decode cX7_taking 362 = .ok (.return_, 1) := by decide +kernel
theorem dX7_edit_0 : decode cX7_edit 0 = .ok (.iload_n 2, 1) := by decide +kernel
theorem dX7_edit_1 : decode cX7_edit 1 = .ok (.ifCond .le 9, 3) := by decide +kernel
theorem dX7_edit_4 : decode cX7_edit 4 = .ok (.aload_n 0, 1) := by decide +kernel
theorem dX7_edit_5 : decode cX7_edit 5 = .ok (.iload_n 1, 1) := by decide +kernel
theorem dX7_edit_6 : decode cX7_edit 6 = .ok (.iload_n 2, 1) := by decide +kernel
theorem dX7_edit_7 : decode cX7_edit 7 = .ok (.invokevirtual 54, 3) := by decide +kernel
theorem dX7_edit_10 : decode cX7_edit 10 = .ok (.iload 5, 2) := by decide +kernel
theorem dX7_edit_12 : decode cX7_edit 12 = .ok (.ifCond .le 13, 3) := by decide +kernel
theorem dX7_edit_15 : decode cX7_edit 15 = .ok (.aload_n 0, 1) := by decide +kernel
theorem dX7_edit_16 : decode cX7_edit 16 = .ok (.iload_n 1, 1) := by decide +kernel
theorem dX7_edit_17 : decode cX7_edit 17 = .ok (.aload_n 3, 1) := by decide +kernel
theorem dX7_edit_18 : decode cX7_edit 18 = .ok (.iload 4, 2) := by decide +kernel
theorem dX7_edit_20 : decode cX7_edit 20 = .ok (.iload 5, 2) := by decide +kernel
theorem dX7_edit_22 : decode cX7_edit 22 = .ok (.invokevirtual 57, 3) := by decide +kernel
theorem dX7_edit_25 : decode cX7_edit 25 = .ok (.return_, 1) := by decide +kernel
theorem dX7_keeps_0 : decode cX7_keeps 0 = .ok (.aload_n 0, 1) := by decide +kernel
theorem dX7_keeps_1 : decode cX7_keeps 1 = .ok (.getfield 61, 3) := by decide +kernel
theorem dX7_keeps_4 : decode cX7_keeps 4 = .ok (.bipush 8, 2) := by decide +kernel
theorem dX7_keeps_6 : decode cX7_keeps 6 = .ok (.if_icmp .ne 44, 3) := by decide +kernel
theorem dX7_keeps_9 : decode cX7_keeps 9 = .ok (.iconst 0, 1) := by decide +kernel
theorem dX7_keeps_10 : decode cX7_keeps 10 = .ok (.istore_n 1, 1) := by decide +kernel
theorem dX7_keeps_11 : decode cX7_keeps 11 = .ok (.iload_n 1, 1) := by decide +kernel
theorem dX7_keeps_12 : decode cX7_keeps 12 = .ok (.sipush 3787, 3) := by decide +kernel
theorem dX7_keeps_15 : decode cX7_keeps 15 = .ok (.if_icmp .ge 25, 3) := by decide +kernel
theorem dX7_keeps_18 : decode cX7_keeps 18 = .ok (.aload_n 0, 1) := by decide +kernel
theorem dX7_keeps_19 : decode cX7_keeps 19 = .ok (.getfield 13, 3) := by decide +kernel
theorem dX7_keeps_22 : decode cX7_keeps 22 = .ok (.iload_n 1, 1) := by decide +kernel
theorem dX7_keeps_23 : decode cX7_keeps 23 = .ok (.aload_n 0, 1) := by decide +kernel
theorem dX7_keeps_24 : decode cX7_keeps 24 = .ok (.getfield 13, 3) := by decide +kernel
theorem dX7_keeps_27 : decode cX7_keeps 27 = .ok (.iload_n 1, 1) := by decide +kernel
theorem dX7_keeps_28 : decode cX7_keeps 28 = .ok (.sipush 541, 3) := by decide +kernel
theorem dX7_keeps_31 : decode cX7_keeps 31 = .ok (.iadd, 1) := by decide +kernel
theorem dX7_keeps_32 : decode cX7_keeps 32 = .ok (.iaload, 1) := by decide +kernel
theorem dX7_keeps_33 : decode cX7_keeps 33 = .ok (.iastore, 1) := by decide +kernel
theorem dX7_keeps_34 : decode cX7_keeps 34 = .ok (.iinc 1 1, 3) := by decide +kernel
theorem dX7_keeps_37 : decode cX7_keeps 37 = .ok (.goto (-26), 3) := by decide +kernel
theorem dX7_keeps_40 : decode cX7_keeps 40 = .ok (.aload_n 0, 1) := by decide +kernel
theorem dX7_keeps_41 : decode cX7_keeps 41 = .ok (.dup, 1) := by decide +kernel
theorem dX7_keeps_42 : decode cX7_keeps 42 = .ok (.getfield 61, 3) := by decide +kernel
theorem dX7_keeps_45 : decode cX7_keeps 45 = .ok (.iconst 1, 1) := by decide +kernel
theorem dX7_keeps_46 : decode cX7_keeps 46 = .ok (.isub, 1) := by decide +kernel
theorem dX7_keeps_47 : decode cX7_keeps 47 = .ok (.putfield 61, 3) := by decide +kernel
theorem dX7_keeps_50 : decode cX7_keeps 50 = .ok (.iconst 0, 1) := by decide +kernel
theorem dX7_keeps_51 : decode cX7_keeps 51 = .ok (.istore_n 1, 1) := by decide +kernel
theorem dX7_keeps_52 : decode cX7_keeps 52 = .ok (.iload_n 1, 1) := by decide +kernel
theorem dX7_keeps_53 : decode cX7_keeps 53 = .ok (.sipush 541, 3) := by decide +kernel
theorem dX7_keeps_56 : decode cX7_keeps 56 = .ok (.if_icmp .ge 30, 3) := by decide +kernel
theorem dX7_keeps_59 : decode cX7_keeps 59 = .ok (.aload_n 0, 1) := by decide +kernel
theorem dX7_keeps_60 : decode cX7_keeps 60 = .ok (.getfield 13, 3) := by decide +kernel
theorem dX7_keeps_63 : decode cX7_keeps 63 = .ok (.sipush 541, 3) := by decide +kernel
theorem dX7_keeps_66 : decode cX7_keeps 66 = .ok (.aload_n 0, 1) := by decide +kernel
theorem dX7_keeps_67 : decode cX7_keeps 67 = .ok (.getfield 61, 3) := by decide +kernel
theorem dX7_keeps_70 : decode cX7_keeps 70 = .ok (.imul, 1) := by decide +kernel
theorem dX7_keeps_71 : decode cX7_keeps 71 = .ok (.iload_n 1, 1) := by decide +kernel
theorem dX7_keeps_72 : decode cX7_keeps 72 = .ok (.iadd, 1) := by decide +kernel
theorem dX7_keeps_73 : decode cX7_keeps 73 = .ok (.aload_n 0, 1) := by decide +kernel
theorem dX7_keeps_74 : decode cX7_keeps 74 = .ok (.getfield 7, 3) := by decide +kernel
theorem dX7_keeps_77 : decode cX7_keeps 77 = .ok (.iload_n 1, 1) := by decide +kernel
theorem dX7_keeps_78 : decode cX7_keeps 78 = .ok (.iaload, 1) := by decide +kernel
theorem dX7_keeps_79 : decode cX7_keeps 79 = .ok (.iastore, 1) := by decide +kernel
theorem dX7_keeps_80 : decode cX7_keeps 80 = .ok (.iinc 1 1, 3) := by decide +kernel
theorem dX7_keeps_83 : decode cX7_keeps 83 = .ok (.goto (-31), 3) := by decide +kernel
theorem dX7_keeps_86 : decode cX7_keeps 86 = .ok (.aload_n 0, 1) := by decide +kernel
theorem dX7_keeps_87 : decode cX7_keeps 87 = .ok (.dup, 1) := by decide +kernel
theorem dX7_keeps_88 : decode cX7_keeps 88 = .ok (.getfield 61, 3) := by decide +kernel
theorem dX7_keeps_91 : decode cX7_keeps 91 = .ok (.iconst 1, 1) := by decide +kernel
theorem dX7_keeps_92 : decode cX7_keeps 92 = .ok (.iadd, 1) := by decide +kernel
theorem dX7_keeps_93 : decode cX7_keeps 93 = .ok (.putfield 61, 3) := by decide +kernel
theorem dX7_keeps_96 : decode cX7_keeps 96 = .ok (.return_, 1) := by decide +kernel
theorem dX7_type_0 : decode cX7_type 0 = .ok (.iload_n 1, 1) := by decide +kernel
theorem dX7_type_1 : decode cX7_type 1 = .ok (.iconst 0, 1) := by decide +kernel
theorem dX7_type_2 : decode cX7_type 2 = .ok (.sipush 255, 3) := by decide +kernel
theorem dX7_type_5 : decode cX7_type 5 = .ok (.invokestatic 38, 3) := by decide +kernel
theorem dX7_type_8 : decode cX7_type 8 = .ok (.ifCond .ne 5, 3) := by decide +kernel
theorem dX7_type_11 : decode cX7_type 11 = .ok (.iconst (-1), 1) := by decide +kernel
theorem dX7_type_12 : decode cX7_type 12 = .ok (.ireturn, 1) := by decide +kernel
theorem dX7_type_13 : decode cX7_type 13 = .ok (.aload_n 0, 1) := by decide +kernel
theorem dX7_type_14 : decode cX7_type 14 = .ok (.getfield 65, 3) := by decide +kernel
theorem dX7_type_17 : decode cX7_type 17 = .ok (.bipush 24, 2) := by decide +kernel
theorem dX7_type_19 : decode cX7_type 19 = .ok (.if_icmp .ne 6, 3) := by decide +kernel
theorem dX7_type_22 : decode cX7_type 22 = .ok (.bipush (-3), 2) := by decide +kernel
theorem dX7_type_24 : decode cX7_type 24 = .ok (.ireturn, 1) := by decide +kernel
theorem dX7_type_25 : decode cX7_type 25 = .ok (.aload_n 0, 1) := by decide +kernel
theorem dX7_type_26 : decode cX7_type 26 = .ok (.getfield 23, 3) := by decide +kernel
theorem dX7_type_29 : decode cX7_type 29 = .ok (.aload_n 0, 1) := by decide +kernel
theorem dX7_type_30 : decode cX7_type 30 = .ok (.getfield 65, 3) := by decide +kernel
theorem dX7_type_33 : decode cX7_type 33 = .ok (.iload_n 1, 1) := by decide +kernel
theorem dX7_type_34 : decode cX7_type 34 = .ok (.iastore, 1) := by decide +kernel
theorem dX7_type_35 : decode cX7_type 35 = .ok (.aload_n 0, 1) := by decide +kernel
theorem dX7_type_36 : decode cX7_type 36 = .ok (.dup, 1) := by decide +kernel
theorem dX7_type_37 : decode cX7_type 37 = .ok (.getfield 65, 3) := by decide +kernel
theorem dX7_type_40 : decode cX7_type 40 = .ok (.iconst 1, 1) := by decide +kernel
theorem dX7_type_41 : decode cX7_type 41 = .ok (.iadd, 1) := by decide +kernel
theorem dX7_type_42 : decode cX7_type 42 = .ok (.putfield 65, 3) := by decide +kernel
theorem dX7_type_45 : decode cX7_type 45 = .ok (.aload_n 0, 1) := by decide +kernel
theorem dX7_type_46 : decode cX7_type 46 = .ok (.getfield 65, 3) := by decide +kernel
theorem dX7_type_49 : decode cX7_type 49 = .ok (.ireturn, 1) := by decide +kernel
theorem dX7_clear_0 : decode cX7_clear 0 = .ok (.aload_n 0, 1) := by decide +kernel
theorem dX7_clear_1 : decode cX7_clear 1 = .ok (.getfield 65, 3) := by decide +kernel
theorem dX7_clear_4 : decode cX7_clear 4 = .ok (.istore_n 1, 1) := by decide +kernel
theorem dX7_clear_5 : decode cX7_clear 5 = .ok (.aload_n 0, 1) := by decide +kernel
theorem dX7_clear_6 : decode cX7_clear 6 = .ok (.iconst 0, 1) := by decide +kernel
theorem dX7_clear_7 : decode cX7_clear 7 = .ok (.putfield 65, 3) := by decide +kernel
theorem dX7_clear_10 : decode cX7_clear 10 = .ok (.iload_n 1, 1) := by decide +kernel
theorem dX7_clear_11 : decode cX7_clear 11 = .ok (.ireturn, 1) := by decide +kernel
theorem dX7_isEdit_0 : decode cX7_isEdit 0 = .ok (.aload_n 0, 1) := by decide +kernel
theorem dX7_isEdit_1 : decode cX7_isEdit 1 = .ok (.iload_n 1, 1) := by decide +kernel
theorem dX7_isEdit_2 : decode cX7_isEdit 2 = .ok (.invokevirtual 68, 3) := by decide +kernel
theorem dX7_isEdit_5 : decode cX7_isEdit 5 = .ok (.ifCond .eq 23, 3) := by decide +kernel
theorem dX7_isEdit_8 : decode cX7_isEdit 8 = .ok (.iload_n 2, 1) := by decide +kernel
theorem dX7_isEdit_9 : decode cX7_isEdit 9 = .ok (.iconst 0, 1) := by decide +kernel
theorem dX7_isEdit_10 : decode cX7_isEdit 10 = .ok (.aload_n 0, 1) := by decide +kernel
theorem dX7_isEdit_11 : decode cX7_isEdit 11 = .ok (.getfield 7, 3) := by decide +kernel
theorem dX7_isEdit_14 : decode cX7_isEdit 14 = .ok (.iconst 0, 1) := by decide +kernel
theorem dX7_isEdit_15 : decode cX7_isEdit 15 = .ok (.iaload, 1) := by decide +kernel
theorem dX7_isEdit_16 : decode cX7_isEdit 16 = .ok (.iload_n 1, 1) := by decide +kernel
theorem dX7_isEdit_17 : decode cX7_isEdit 17 = .ok (.isub, 1) := by decide +kernel
theorem dX7_isEdit_18 : decode cX7_isEdit 18 = .ok (.invokestatic 38, 3) := by decide +kernel
theorem dX7_isEdit_21 : decode cX7_isEdit 21 = .ok (.ifCond .eq 7, 3) := by decide +kernel
theorem dX7_isEdit_24 : decode cX7_isEdit 24 = .ok (.iconst 1, 1) := by decide +kernel
theorem dX7_isEdit_25 : decode cX7_isEdit 25 = .ok (.goto 4, 3) := by decide +kernel
theorem dX7_isEdit_28 : decode cX7_isEdit 28 = .ok (.iconst 0, 1) := by decide +kernel
theorem dX7_isEdit_29 : decode cX7_isEdit 29 = .ok (.ireturn, 1) := by decide +kernel
theorem dX7_edits_0 : decode cX7_edits 0 = .ok (.aload_n 0, 1) := by decide +kernel
theorem dX7_edits_1 : decode cX7_edits 1 = .ok (.iload_n 1, 1) := by decide +kernel
theorem dX7_edits_2 : decode cX7_edits 2 = .ok (.iload_n 2, 1) := by decide +kernel
theorem dX7_edits_3 : decode cX7_edits 3 = .ok (.invokevirtual 72, 3) := by decide +kernel
theorem dX7_edits_6 : decode cX7_edits 6 = .ok (.ifCond .ne 5, 3) := by decide +kernel
theorem dX7_edits_9 : decode cX7_edits 9 = .ok (.iconst (-1), 1) := by decide +kernel
theorem dX7_edits_10 : decode cX7_edits 10 = .ok (.ireturn, 1) := by decide +kernel
theorem dX7_edits_11 : decode cX7_edits 11 = .ok (.aload_n 0, 1) := by decide +kernel
theorem dX7_edits_12 : decode cX7_edits 12 = .ok (.getfield 76, 3) := by decide +kernel
theorem dX7_edits_15 : decode cX7_edits 15 = .ok (.ifCond .le 6, 3) := by decide +kernel
theorem dX7_edits_18 : decode cX7_edits 18 = .ok (.bipush (-2), 2) := by decide +kernel
theorem dX7_edits_20 : decode cX7_edits 20 = .ok (.ireturn, 1) := by decide +kernel
theorem dX7_edits_21 : decode cX7_edits 21 = .ok (.aload_n 0, 1) := by decide +kernel
theorem dX7_edits_22 : decode cX7_edits 22 = .ok (.getfield 7, 3) := by decide +kernel
theorem dX7_edits_25 : decode cX7_edits 25 = .ok (.iconst 0, 1) := by decide +kernel
theorem dX7_edits_26 : decode cX7_edits 26 = .ok (.iaload, 1) := by decide +kernel
theorem dX7_edits_27 : decode cX7_edits 27 = .ok (.iload_n 2, 1) := by decide +kernel
theorem dX7_edits_28 : decode cX7_edits 28 = .ok (.isub, 1) := by decide +kernel
theorem dX7_edits_29 : decode cX7_edits 29 = .ok (.aload_n 0, 1) := by decide +kernel
theorem dX7_edits_30 : decode cX7_edits 30 = .ok (.getfield 65, 3) := by decide +kernel
theorem dX7_edits_33 : decode cX7_edits 33 = .ok (.iadd, 1) := by decide +kernel
theorem dX7_edits_34 : decode cX7_edits 34 = .ok (.bipush 120, 2) := by decide +kernel
theorem dX7_edits_36 : decode cX7_edits 36 = .ok (.if_icmp .le 6, 3) := by decide +kernel
theorem dX7_edits_39 : decode cX7_edits 39 = .ok (.bipush (-3), 2) := by decide +kernel
theorem dX7_edits_41 : decode cX7_edits 41 = .ok (.ireturn, 1) := by decide +kernel
theorem dX7_edits_42 : decode cX7_edits 42 = .ok (.aload_n 0, 1) := by decide +kernel
theorem dX7_edits_43 : decode cX7_edits 43 = .ok (.invokevirtual 79, 3) := by decide +kernel
theorem dX7_edits_46 : decode cX7_edits 46 = .ok (.aload_n 0, 1) := by decide +kernel
theorem dX7_edits_47 : decode cX7_edits 47 = .ok (.iload_n 1, 1) := by decide +kernel
theorem dX7_edits_48 : decode cX7_edits 48 = .ok (.iload_n 2, 1) := by decide +kernel
theorem dX7_edits_49 : decode cX7_edits 49 = .ok (.aload_n 0, 1) := by decide +kernel
theorem dX7_edits_50 : decode cX7_edits 50 = .ok (.getfield 23, 3) := by decide +kernel
theorem dX7_edits_53 : decode cX7_edits 53 = .ok (.iconst 0, 1) := by decide +kernel
theorem dX7_edits_54 : decode cX7_edits 54 = .ok (.aload_n 0, 1) := by decide +kernel
theorem dX7_edits_55 : decode cX7_edits 55 = .ok (.getfield 65, 3) := by decide +kernel
theorem dX7_edits_58 : decode cX7_edits 58 = .ok (.invokevirtual 82, 3) := by decide +kernel
theorem dX7_edits_61 : decode cX7_edits 61 = .ok (.aload_n 0, 1) := by decide +kernel
theorem dX7_edits_62 : decode cX7_edits 62 = .ok (.iconst 0, 1) := by decide +kernel
theorem dX7_edits_63 : decode cX7_edits 63 = .ok (.putfield 65, 3) := by decide +kernel
theorem dX7_edits_66 : decode cX7_edits 66 = .ok (.aload_n 0, 1) := by decide +kernel
theorem dX7_edits_67 : decode cX7_edits 67 = .ok (.getfield 7, 3) := by decide +kernel
theorem dX7_edits_70 : decode cX7_edits 70 = .ok (.iconst 0, 1) := by decide +kernel
theorem dX7_edits_71 : decode cX7_edits 71 = .ok (.iaload, 1) := by decide +kernel
theorem dX7_edits_72 : decode cX7_edits 72 = .ok (.ireturn, 1) := by decide +kernel
theorem dX7_stages_0 : decode cX7_stages 0 = .ok (.aload_n 0, 1) := by decide +kernel
theorem dX7_stages_1 : decode cX7_stages 1 = .ok (.iload_n 1, 1) := by decide +kernel
theorem dX7_stages_2 : decode cX7_stages 2 = .ok (.iload_n 2, 1) := by decide +kernel
theorem dX7_stages_3 : decode cX7_stages 3 = .ok (.invokevirtual 72, 3) := by decide +kernel
theorem dX7_stages_6 : decode cX7_stages 6 = .ok (.ifCond .ne 5, 3) := by decide +kernel
theorem dX7_stages_9 : decode cX7_stages 9 = .ok (.iconst (-1), 1) := by decide +kernel
theorem dX7_stages_10 : decode cX7_stages 10 = .ok (.ireturn, 1) := by decide +kernel
theorem dX7_stages_11 : decode cX7_stages 11 = .ok (.iconst 0, 1) := by decide +kernel
theorem dX7_stages_12 : decode cX7_stages 12 = .ok (.istore_n 3, 1) := by decide +kernel
theorem dX7_stages_13 : decode cX7_stages 13 = .ok (.iload_n 3, 1) := by decide +kernel
theorem dX7_stages_14 : decode cX7_stages 14 = .ok (.aload_n 0, 1) := by decide +kernel
theorem dX7_stages_15 : decode cX7_stages 15 = .ok (.getfield 76, 3) := by decide +kernel
theorem dX7_stages_18 : decode cX7_stages 18 = .ok (.if_icmp .ge 41, 3) := by decide +kernel
theorem dX7_stages_21 : decode cX7_stages 21 = .ok (.iload_n 1, 1) := by decide +kernel
theorem dX7_stages_22 : decode cX7_stages 22 = .ok (.aload_n 0, 1) := by decide +kernel
theorem dX7_stages_23 : decode cX7_stages 23 = .ok (.getfield 26, 3) := by decide +kernel
theorem dX7_stages_26 : decode cX7_stages 26 = .ok (.iload_n 3, 1) := by decide +kernel
theorem dX7_stages_27 : decode cX7_stages 27 = .ok (.iaload, 1) := by decide +kernel
theorem dX7_stages_28 : decode cX7_stages 28 = .ok (.aload_n 0, 1) := by decide +kernel
theorem dX7_stages_29 : decode cX7_stages 29 = .ok (.getfield 29, 3) := by decide +kernel
theorem dX7_stages_32 : decode cX7_stages 32 = .ok (.iload_n 3, 1) := by decide +kernel
theorem dX7_stages_33 : decode cX7_stages 33 = .ok (.iaload, 1) := by decide +kernel
theorem dX7_stages_34 : decode cX7_stages 34 = .ok (.iadd, 1) := by decide +kernel
theorem dX7_stages_35 : decode cX7_stages 35 = .ok (.if_icmp .gt 18, 3) := by decide +kernel
theorem dX7_stages_38 : decode cX7_stages 38 = .ok (.aload_n 0, 1) := by decide +kernel
theorem dX7_stages_39 : decode cX7_stages 39 = .ok (.getfield 26, 3) := by decide +kernel
theorem dX7_stages_42 : decode cX7_stages 42 = .ok (.iload_n 3, 1) := by decide +kernel
theorem dX7_stages_43 : decode cX7_stages 43 = .ok (.iaload, 1) := by decide +kernel
theorem dX7_stages_44 : decode cX7_stages 44 = .ok (.iload_n 1, 1) := by decide +kernel
theorem dX7_stages_45 : decode cX7_stages 45 = .ok (.iload_n 2, 1) := by decide +kernel
theorem dX7_stages_46 : decode cX7_stages 46 = .ok (.iadd, 1) := by decide +kernel
theorem dX7_stages_47 : decode cX7_stages 47 = .ok (.if_icmp .gt 6, 3) := by decide +kernel
theorem dX7_stages_50 : decode cX7_stages 50 = .ok (.bipush (-2), 2) := by decide +kernel
theorem dX7_stages_52 : decode cX7_stages 52 = .ok (.ireturn, 1) := by decide +kernel
theorem dX7_stages_53 : decode cX7_stages 53 = .ok (.iinc 3 1, 3) := by decide +kernel
theorem dX7_stages_56 : decode cX7_stages 56 = .ok (.goto (-43), 3) := by decide +kernel
theorem dX7_stages_59 : decode cX7_stages 59 = .ok (.aload_n 0, 1) := by decide +kernel
theorem dX7_stages_60 : decode cX7_stages 60 = .ok (.getfield 76, 3) := by decide +kernel
theorem dX7_stages_63 : decode cX7_stages 63 = .ok (.iconst 4, 1) := by decide +kernel
theorem dX7_stages_64 : decode cX7_stages 64 = .ok (.if_icmp .ne 6, 3) := by decide +kernel
theorem dX7_stages_67 : decode cX7_stages 67 = .ok (.bipush (-3), 2) := by decide +kernel
theorem dX7_stages_69 : decode cX7_stages 69 = .ok (.ireturn, 1) := by decide +kernel
theorem dX7_stages_70 : decode cX7_stages 70 = .ok (.aload_n 0, 1) := by decide +kernel
theorem dX7_stages_71 : decode cX7_stages 71 = .ok (.getfield 26, 3) := by decide +kernel
theorem dX7_stages_74 : decode cX7_stages 74 = .ok (.aload_n 0, 1) := by decide +kernel
theorem dX7_stages_75 : decode cX7_stages 75 = .ok (.getfield 76, 3) := by decide +kernel
theorem dX7_stages_78 : decode cX7_stages 78 = .ok (.iload_n 1, 1) := by decide +kernel
theorem dX7_stages_79 : decode cX7_stages 79 = .ok (.iastore, 1) := by decide +kernel
theorem dX7_stages_80 : decode cX7_stages 80 = .ok (.aload_n 0, 1) := by decide +kernel
theorem dX7_stages_81 : decode cX7_stages 81 = .ok (.getfield 29, 3) := by decide +kernel
theorem dX7_stages_84 : decode cX7_stages 84 = .ok (.aload_n 0, 1) := by decide +kernel
theorem dX7_stages_85 : decode cX7_stages 85 = .ok (.getfield 76, 3) := by decide +kernel
theorem dX7_stages_88 : decode cX7_stages 88 = .ok (.iload_n 2, 1) := by decide +kernel
theorem dX7_stages_89 : decode cX7_stages 89 = .ok (.iastore, 1) := by decide +kernel
theorem dX7_stages_90 : decode cX7_stages 90 = .ok (.iconst 0, 1) := by decide +kernel
theorem dX7_stages_91 : decode cX7_stages 91 = .ok (.istore_n 3, 1) := by decide +kernel
theorem dX7_stages_92 : decode cX7_stages 92 = .ok (.iload_n 3, 1) := by decide +kernel
theorem dX7_stages_93 : decode cX7_stages 93 = .ok (.aload_n 0, 1) := by decide +kernel
theorem dX7_stages_94 : decode cX7_stages 94 = .ok (.getfield 65, 3) := by decide +kernel
theorem dX7_stages_97 : decode cX7_stages 97 = .ok (.if_icmp .ge 29, 3) := by decide +kernel
theorem dX7_stages_100 : decode cX7_stages 100 = .ok (.aload_n 0, 1) := by decide +kernel
theorem dX7_stages_101 : decode cX7_stages 101 = .ok (.getfield 32, 3) := by decide +kernel
theorem dX7_stages_104 : decode cX7_stages 104 = .ok (.bipush 24, 2) := by decide +kernel
theorem dX7_stages_106 : decode cX7_stages 106 = .ok (.aload_n 0, 1) := by decide +kernel
theorem dX7_stages_107 : decode cX7_stages 107 = .ok (.getfield 76, 3) := by decide +kernel
theorem dX7_stages_110 : decode cX7_stages 110 = .ok (.imul, 1) := by decide +kernel
theorem dX7_stages_111 : decode cX7_stages 111 = .ok (.iload_n 3, 1) := by decide +kernel
theorem dX7_stages_112 : decode cX7_stages 112 = .ok (.iadd, 1) := by decide +kernel
theorem dX7_stages_113 : decode cX7_stages 113 = .ok (.aload_n 0, 1) := by decide +kernel
theorem dX7_stages_114 : decode cX7_stages 114 = .ok (.getfield 23, 3) := by decide +kernel
theorem dX7_stages_117 : decode cX7_stages 117 = .ok (.iload_n 3, 1) := by decide +kernel
theorem dX7_stages_118 : decode cX7_stages 118 = .ok (.iaload, 1) := by decide +kernel
theorem dX7_stages_119 : decode cX7_stages 119 = .ok (.iastore, 1) := by decide +kernel
theorem dX7_stages_120 : decode cX7_stages 120 = .ok (.iinc 3 1, 3) := by decide +kernel
theorem dX7_stages_123 : decode cX7_stages 123 = .ok (.goto (-31), 3) := by decide +kernel
theorem dX7_stages_126 : decode cX7_stages 126 = .ok (.aload_n 0, 1) := by decide +kernel
theorem dX7_stages_127 : decode cX7_stages 127 = .ok (.getfield 35, 3) := by decide +kernel
theorem dX7_stages_130 : decode cX7_stages 130 = .ok (.aload_n 0, 1) := by decide +kernel
theorem dX7_stages_131 : decode cX7_stages 131 = .ok (.getfield 76, 3) := by decide +kernel
theorem dX7_stages_134 : decode cX7_stages 134 = .ok (.aload_n 0, 1) := by decide +kernel
theorem dX7_stages_135 : decode cX7_stages 135 = .ok (.getfield 65, 3) := by decide +kernel
theorem dX7_stages_138 : decode cX7_stages 138 = .ok (.iastore, 1) := by decide +kernel
theorem dX7_stages_139 : decode cX7_stages 139 = .ok (.aload_n 0, 1) := by decide +kernel
theorem dX7_stages_140 : decode cX7_stages 140 = .ok (.iconst 0, 1) := by decide +kernel
theorem dX7_stages_141 : decode cX7_stages 141 = .ok (.putfield 65, 3) := by decide +kernel
theorem dX7_stages_144 : decode cX7_stages 144 = .ok (.aload_n 0, 1) := by decide +kernel
theorem dX7_stages_145 : decode cX7_stages 145 = .ok (.dup, 1) := by decide +kernel
theorem dX7_stages_146 : decode cX7_stages 146 = .ok (.getfield 76, 3) := by decide +kernel
theorem dX7_stages_149 : decode cX7_stages 149 = .ok (.iconst 1, 1) := by decide +kernel
theorem dX7_stages_150 : decode cX7_stages 150 = .ok (.iadd, 1) := by decide +kernel
theorem dX7_stages_151 : decode cX7_stages 151 = .ok (.putfield 76, 3) := by decide +kernel
theorem dX7_stages_154 : decode cX7_stages 154 = .ok (.aload_n 0, 1) := by decide +kernel
theorem dX7_stages_155 : decode cX7_stages 155 = .ok (.getfield 76, 3) := by decide +kernel
theorem dX7_stages_158 : decode cX7_stages 158 = .ok (.ireturn, 1) := by decide +kernel
theorem dX7_does_0 : decode cX7_does 0 = .ok (.aload_n 0, 1) := by decide +kernel
theorem dX7_does_1 : decode cX7_does 1 = .ok (.getfield 76, 3) := by decide +kernel
theorem dX7_does_4 : decode cX7_does 4 = .ok (.ifCond .ne 6, 3) := by decide +kernel
theorem dX7_does_7 : decode cX7_does 7 = .ok (.bipush (-2), 2) := by decide +kernel
theorem dX7_does_9 : decode cX7_does 9 = .ok (.ireturn, 1) := by decide +kernel
theorem dX7_does_10 : decode cX7_does 10 = .ok (.aload_n 0, 1) := by decide +kernel
theorem dX7_does_11 : decode cX7_does 11 = .ok (.getfield 7, 3) := by decide +kernel
theorem dX7_does_14 : decode cX7_does 14 = .ok (.iconst 0, 1) := by decide +kernel
theorem dX7_does_15 : decode cX7_does 15 = .ok (.iaload, 1) := by decide +kernel
theorem dX7_does_16 : decode cX7_does 16 = .ok (.istore_n 1, 1) := by decide +kernel
theorem dX7_does_17 : decode cX7_does 17 = .ok (.iconst 0, 1) := by decide +kernel
theorem dX7_does_18 : decode cX7_does 18 = .ok (.istore_n 2, 1) := by decide +kernel
theorem dX7_does_19 : decode cX7_does 19 = .ok (.iload_n 2, 1) := by decide +kernel
theorem dX7_does_20 : decode cX7_does 20 = .ok (.aload_n 0, 1) := by decide +kernel
theorem dX7_does_21 : decode cX7_does 21 = .ok (.getfield 76, 3) := by decide +kernel
theorem dX7_does_24 : decode cX7_does 24 = .ok (.if_icmp .ge 25, 3) := by decide +kernel
theorem dX7_does_27 : decode cX7_does 27 = .ok (.iload_n 1, 1) := by decide +kernel
theorem dX7_does_28 : decode cX7_does 28 = .ok (.aload_n 0, 1) := by decide +kernel
theorem dX7_does_29 : decode cX7_does 29 = .ok (.getfield 35, 3) := by decide +kernel
theorem dX7_does_32 : decode cX7_does 32 = .ok (.iload_n 2, 1) := by decide +kernel
theorem dX7_does_33 : decode cX7_does 33 = .ok (.iaload, 1) := by decide +kernel
theorem dX7_does_34 : decode cX7_does 34 = .ok (.aload_n 0, 1) := by decide +kernel
theorem dX7_does_35 : decode cX7_does 35 = .ok (.getfield 29, 3) := by decide +kernel
theorem dX7_does_38 : decode cX7_does 38 = .ok (.iload_n 2, 1) := by decide +kernel
theorem dX7_does_39 : decode cX7_does 39 = .ok (.iaload, 1) := by decide +kernel
theorem dX7_does_40 : decode cX7_does 40 = .ok (.isub, 1) := by decide +kernel
theorem dX7_does_41 : decode cX7_does 41 = .ok (.iadd, 1) := by decide +kernel
theorem dX7_does_42 : decode cX7_does 42 = .ok (.istore_n 1, 1) := by decide +kernel
theorem dX7_does_43 : decode cX7_does 43 = .ok (.iinc 2 1, 3) := by decide +kernel
theorem dX7_does_46 : decode cX7_does 46 = .ok (.goto (-27), 3) := by decide +kernel
theorem dX7_does_49 : decode cX7_does 49 = .ok (.iload_n 1, 1) := by decide +kernel
theorem dX7_does_50 : decode cX7_does 50 = .ok (.bipush 120, 2) := by decide +kernel
theorem dX7_does_52 : decode cX7_does 52 = .ok (.if_icmp .le 6, 3) := by decide +kernel
theorem dX7_does_55 : decode cX7_does 55 = .ok (.bipush (-3), 2) := by decide +kernel
theorem dX7_does_57 : decode cX7_does 57 = .ok (.ireturn, 1) := by decide +kernel
theorem dX7_does_58 : decode cX7_does 58 = .ok (.aload_n 0, 1) := by decide +kernel
theorem dX7_does_59 : decode cX7_does 59 = .ok (.invokevirtual 79, 3) := by decide +kernel
theorem dX7_does_62 : decode cX7_does 62 = .ok (.bipush 121, 2) := by decide +kernel
theorem dX7_does_64 : decode cX7_does 64 = .ok (.istore_n 2, 1) := by decide +kernel
theorem dX7_does_65 : decode cX7_does 65 = .ok (.iconst 0, 1) := by decide +kernel
theorem dX7_does_66 : decode cX7_does 66 = .ok (.istore_n 3, 1) := by decide +kernel
theorem dX7_does_67 : decode cX7_does 67 = .ok (.iload_n 3, 1) := by decide +kernel
theorem dX7_does_68 : decode cX7_does 68 = .ok (.aload_n 0, 1) := by decide +kernel
theorem dX7_does_69 : decode cX7_does 69 = .ok (.getfield 76, 3) := by decide +kernel
theorem dX7_does_72 : decode cX7_does 72 = .ok (.if_icmp .ge 114, 3) := by decide +kernel
theorem dX7_does_75 : decode cX7_does 75 = .ok (.iconst (-1), 1) := by decide +kernel
theorem dX7_does_76 : decode cX7_does 76 = .ok (.istore 4, 2) := by decide +kernel
theorem dX7_does_78 : decode cX7_does 78 = .ok (.iconst 0, 1) := by decide +kernel
theorem dX7_does_79 : decode cX7_does 79 = .ok (.istore 5, 2) := by decide +kernel
theorem dX7_does_81 : decode cX7_does 81 = .ok (.iload 5, 2) := by decide +kernel
theorem dX7_does_83 : decode cX7_does 83 = .ok (.aload_n 0, 1) := by decide +kernel
theorem dX7_does_84 : decode cX7_does 84 = .ok (.getfield 76, 3) := by decide +kernel
theorem dX7_does_87 : decode cX7_does 87 = .ok (.if_icmp .ge 51, 3) := by decide +kernel
theorem dX7_does_90 : decode cX7_does 90 = .ok (.aload_n 0, 1) := by decide +kernel
theorem dX7_does_91 : decode cX7_does 91 = .ok (.getfield 26, 3) := by decide +kernel
theorem dX7_does_94 : decode cX7_does 94 = .ok (.iload 5, 2) := by decide +kernel
theorem dX7_does_96 : decode cX7_does 96 = .ok (.iaload, 1) := by decide +kernel
theorem dX7_does_97 : decode cX7_does 97 = .ok (.iload_n 2, 1) := by decide +kernel
theorem dX7_does_98 : decode cX7_does 98 = .ok (.if_icmp .ge 30, 3) := by decide +kernel
theorem dX7_does_101 : decode cX7_does 101 = .ok (.iload 4, 2) := by decide +kernel
theorem dX7_does_103 : decode cX7_does 103 = .ok (.ifCond .lt 20, 3) := by decide +kernel
theorem dX7_does_106 : decode cX7_does 106 = .ok (.aload_n 0, 1) := by decide +kernel
theorem dX7_does_107 : decode cX7_does 107 = .ok (.getfield 26, 3) := by decide +kernel
theorem dX7_does_110 : decode cX7_does 110 = .ok (.iload 5, 2) := by decide +kernel
theorem dX7_does_112 : decode cX7_does 112 = .ok (.iaload, 1) := by decide +kernel
theorem dX7_does_113 : decode cX7_does 113 = .ok (.aload_n 0, 1) := by decide +kernel
theorem dX7_does_114 : decode cX7_does 114 = .ok (.getfield 26, 3) := by decide +kernel
theorem dX7_does_117 : decode cX7_does 117 = .ok (.iload 4, 2) := by decide +kernel
theorem dX7_does_119 : decode cX7_does 119 = .ok (.iaload, 1) := by decide +kernel
theorem dX7_does_120 : decode cX7_does 120 = .ok (.if_icmp .le 8, 3) := by decide +kernel
theorem dX7_does_123 : decode cX7_does 123 = .ok (.iload 5, 2) := by decide +kernel
theorem dX7_does_125 : decode cX7_does 125 = .ok (.goto 5, 3) := by decide +kernel
theorem dX7_does_128 : decode cX7_does 128 = .ok (.iload 4, 2) := by decide +kernel
theorem dX7_does_130 : decode cX7_does 130 = .ok (.istore 4, 2) := by decide +kernel
theorem dX7_does_132 : decode cX7_does 132 = .ok (.iinc 5 1, 3) := by decide +kernel
theorem dX7_does_135 : decode cX7_does 135 = .ok (.goto (-54), 3) := by decide +kernel
theorem dX7_does_138 : decode cX7_does 138 = .ok (.aload_n 0, 1) := by decide +kernel
theorem dX7_does_139 : decode cX7_does 139 = .ok (.aload_n 0, 1) := by decide +kernel
theorem dX7_does_140 : decode cX7_does 140 = .ok (.getfield 26, 3) := by decide +kernel
theorem dX7_does_143 : decode cX7_does 143 = .ok (.iload 4, 2) := by decide +kernel
theorem dX7_does_145 : decode cX7_does 145 = .ok (.iaload, 1) := by decide +kernel
theorem dX7_does_146 : decode cX7_does 146 = .ok (.aload_n 0, 1) := by decide +kernel
theorem dX7_does_147 : decode cX7_does 147 = .ok (.getfield 29, 3) := by decide +kernel
theorem dX7_does_150 : decode cX7_does 150 = .ok (.iload 4, 2) := by decide +kernel
theorem dX7_does_152 : decode cX7_does 152 = .ok (.iaload, 1) := by decide +kernel
theorem dX7_does_153 : decode cX7_does 153 = .ok (.aload_n 0, 1) := by decide +kernel
theorem dX7_does_154 : decode cX7_does 154 = .ok (.getfield 32, 3) := by decide +kernel
theorem dX7_does_157 : decode cX7_does 157 = .ok (.bipush 24, 2) := by decide +kernel
theorem dX7_does_159 : decode cX7_does 159 = .ok (.iload 4, 2) := by decide +kernel
theorem dX7_does_161 : decode cX7_does 161 = .ok (.imul, 1) := by decide +kernel
theorem dX7_does_162 : decode cX7_does 162 = .ok (.aload_n 0, 1) := by decide +kernel
theorem dX7_does_163 : decode cX7_does 163 = .ok (.getfield 35, 3) := by decide +kernel
theorem dX7_does_166 : decode cX7_does 166 = .ok (.iload 4, 2) := by decide +kernel
theorem dX7_does_168 : decode cX7_does 168 = .ok (.iaload, 1) := by decide +kernel
theorem dX7_does_169 : decode cX7_does 169 = .ok (.invokevirtual 82, 3) := by decide +kernel
theorem dX7_does_172 : decode cX7_does 172 = .ok (.aload_n 0, 1) := by decide +kernel
theorem dX7_does_173 : decode cX7_does 173 = .ok (.getfield 26, 3) := by decide +kernel
theorem dX7_does_176 : decode cX7_does 176 = .ok (.iload 4, 2) := by decide +kernel
theorem dX7_does_178 : decode cX7_does 178 = .ok (.iaload, 1) := by decide +kernel
theorem dX7_does_179 : decode cX7_does 179 = .ok (.istore_n 2, 1) := by decide +kernel
theorem dX7_does_180 : decode cX7_does 180 = .ok (.iinc 3 1, 3) := by decide +kernel
theorem dX7_does_183 : decode cX7_does 183 = .ok (.goto (-116), 3) := by decide +kernel
theorem dX7_does_186 : decode cX7_does 186 = .ok (.aload_n 0, 1) := by decide +kernel
theorem dX7_does_187 : decode cX7_does 187 = .ok (.iconst 0, 1) := by decide +kernel
theorem dX7_does_188 : decode cX7_does 188 = .ok (.putfield 76, 3) := by decide +kernel
theorem dX7_does_191 : decode cX7_does 191 = .ok (.aload_n 0, 1) := by decide +kernel
theorem dX7_does_192 : decode cX7_does 192 = .ok (.getfield 7, 3) := by decide +kernel
theorem dX7_does_195 : decode cX7_does 195 = .ok (.iconst 0, 1) := by decide +kernel
theorem dX7_does_196 : decode cX7_does 196 = .ok (.iaload, 1) := by decide +kernel
theorem dX7_does_197 : decode cX7_does 197 = .ok (.ireturn, 1) := by decide +kernel
theorem dX7_drops_0 : decode cX7_drops 0 = .ok (.aload_n 0, 1) := by decide +kernel
theorem dX7_drops_1 : decode cX7_drops 1 = .ok (.getfield 76, 3) := by decide +kernel
theorem dX7_drops_4 : decode cX7_drops 4 = .ok (.istore_n 1, 1) := by decide +kernel
theorem dX7_drops_5 : decode cX7_drops 5 = .ok (.aload_n 0, 1) := by decide +kernel
theorem dX7_drops_6 : decode cX7_drops 6 = .ok (.iconst 0, 1) := by decide +kernel
theorem dX7_drops_7 : decode cX7_drops 7 = .ok (.putfield 76, 3) := by decide +kernel
theorem dX7_drops_10 : decode cX7_drops 10 = .ok (.iload_n 1, 1) := by decide +kernel
theorem dX7_drops_11 : decode cX7_drops 11 = .ok (.ireturn, 1) := by decide +kernel
theorem dX7_undo_0 : decode cX7_undo 0 = .ok (.aload_n 0, 1) := by decide +kernel
theorem dX7_undo_1 : decode cX7_undo 1 = .ok (.getfield 61, 3) := by decide +kernel
theorem dX7_undo_4 : decode cX7_undo 4 = .ok (.ifCond .eq 10, 3) := by decide +kernel
theorem dX7_undo_7 : decode cX7_undo 7 = .ok (.aload_n 0, 1) := by decide +kernel
theorem dX7_undo_8 : decode cX7_undo 8 = .ok (.getfield 76, 3) := by decide +kernel
theorem dX7_undo_11 : decode cX7_undo 11 = .ok (.ifCond .le 6, 3) := by decide +kernel
theorem dX7_undo_14 : decode cX7_undo 14 = .ok (.bipush (-2), 2) := by decide +kernel
theorem dX7_undo_16 : decode cX7_undo 16 = .ok (.ireturn, 1) := by decide +kernel
theorem dX7_undo_17 : decode cX7_undo 17 = .ok (.aload_n 0, 1) := by decide +kernel
theorem dX7_undo_18 : decode cX7_undo 18 = .ok (.dup, 1) := by decide +kernel
theorem dX7_undo_19 : decode cX7_undo 19 = .ok (.getfield 61, 3) := by decide +kernel
theorem dX7_undo_22 : decode cX7_undo 22 = .ok (.iconst 1, 1) := by decide +kernel
theorem dX7_undo_23 : decode cX7_undo 23 = .ok (.isub, 1) := by decide +kernel
theorem dX7_undo_24 : decode cX7_undo 24 = .ok (.putfield 61, 3) := by decide +kernel
theorem dX7_undo_27 : decode cX7_undo 27 = .ok (.iconst 0, 1) := by decide +kernel
theorem dX7_undo_28 : decode cX7_undo 28 = .ok (.istore_n 1, 1) := by decide +kernel
theorem dX7_undo_29 : decode cX7_undo 29 = .ok (.iload_n 1, 1) := by decide +kernel
theorem dX7_undo_30 : decode cX7_undo 30 = .ok (.sipush 541, 3) := by decide +kernel
theorem dX7_undo_33 : decode cX7_undo 33 = .ok (.if_icmp .ge 30, 3) := by decide +kernel
theorem dX7_undo_36 : decode cX7_undo 36 = .ok (.aload_n 0, 1) := by decide +kernel
theorem dX7_undo_37 : decode cX7_undo 37 = .ok (.getfield 7, 3) := by decide +kernel
theorem dX7_undo_40 : decode cX7_undo 40 = .ok (.iload_n 1, 1) := by decide +kernel
theorem dX7_undo_41 : decode cX7_undo 41 = .ok (.aload_n 0, 1) := by decide +kernel
theorem dX7_undo_42 : decode cX7_undo 42 = .ok (.getfield 13, 3) := by decide +kernel
theorem dX7_undo_45 : decode cX7_undo 45 = .ok (.sipush 541, 3) := by decide +kernel
theorem dX7_undo_48 : decode cX7_undo 48 = .ok (.aload_n 0, 1) := by decide +kernel
theorem dX7_undo_49 : decode cX7_undo 49 = .ok (.getfield 61, 3) := by decide +kernel
theorem dX7_undo_52 : decode cX7_undo 52 = .ok (.imul, 1) := by decide +kernel
theorem dX7_undo_53 : decode cX7_undo 53 = .ok (.iload_n 1, 1) := by decide +kernel
theorem dX7_undo_54 : decode cX7_undo 54 = .ok (.iadd, 1) := by decide +kernel
theorem dX7_undo_55 : decode cX7_undo 55 = .ok (.iaload, 1) := by decide +kernel
theorem dX7_undo_56 : decode cX7_undo 56 = .ok (.iastore, 1) := by decide +kernel
theorem dX7_undo_57 : decode cX7_undo 57 = .ok (.iinc 1 1, 3) := by decide +kernel
theorem dX7_undo_60 : decode cX7_undo 60 = .ok (.goto (-31), 3) := by decide +kernel
theorem dX7_undo_63 : decode cX7_undo 63 = .ok (.aload_n 0, 1) := by decide +kernel
theorem dX7_undo_64 : decode cX7_undo 64 = .ok (.getfield 61, 3) := by decide +kernel
theorem dX7_undo_67 : decode cX7_undo 67 = .ok (.ireturn, 1) := by decide +kernel
theorem dX7_isLetter_0 : decode cX7_isLetter 0 = .ok (.iload_n 0, 1) := by decide +kernel
theorem dX7_isLetter_1 : decode cX7_isLetter 1 = .ok (.sipush 128, 3) := by decide +kernel
theorem dX7_isLetter_4 : decode cX7_isLetter 4 = .ok (.sipush 191, 3) := by decide +kernel
theorem dX7_isLetter_7 : decode cX7_isLetter 7 = .ok (.invokestatic 38, 3) := by decide +kernel
theorem dX7_isLetter_10 : decode cX7_isLetter 10 = .ok (.ifCond .ne 7, 3) := by decide +kernel
theorem dX7_isLetter_13 : decode cX7_isLetter 13 = .ok (.iconst 1, 1) := by decide +kernel
theorem dX7_isLetter_14 : decode cX7_isLetter 14 = .ok (.goto 4, 3) := by decide +kernel
theorem dX7_isLetter_17 : decode cX7_isLetter 17 = .ok (.iconst 0, 1) := by decide +kernel
theorem dX7_isLetter_18 : decode cX7_isLetter 18 = .ok (.ireturn, 1) := by decide +kernel
theorem dX7_has_0 : decode cX7_has 0 = .ok (.iload_n 1, 1) := by decide +kernel
theorem dX7_has_1 : decode cX7_has 1 = .ok (.ifCond .ne 7, 3) := by decide +kernel
theorem dX7_has_4 : decode cX7_has 4 = .ok (.iconst 1, 1) := by decide +kernel
theorem dX7_has_5 : decode cX7_has 5 = .ok (.goto 71, 3) := by decide +kernel
theorem dX7_has_8 : decode cX7_has 8 = .ok (.iload_n 1, 1) := by decide +kernel
theorem dX7_has_9 : decode cX7_has 9 = .ok (.iconst 1, 1) := by decide +kernel
theorem dX7_has_10 : decode cX7_has 10 = .ok (.if_icmp .ne 18, 3) := by decide +kernel
theorem dX7_has_13 : decode cX7_has 13 = .ok (.iload_n 0, 1) := by decide +kernel
theorem dX7_has_14 : decode cX7_has 14 = .ok (.invokestatic 86, 3) := by decide +kernel
theorem dX7_has_17 : decode cX7_has 17 = .ok (.ifCond .eq 7, 3) := by decide +kernel
theorem dX7_has_20 : decode cX7_has 20 = .ok (.iconst 1, 1) := by decide +kernel
theorem dX7_has_21 : decode cX7_has 21 = .ok (.goto 55, 3) := by decide +kernel
theorem dX7_has_24 : decode cX7_has 24 = .ok (.iconst 0, 1) := by decide +kernel
theorem dX7_has_25 : decode cX7_has 25 = .ok (.goto 51, 3) := by decide +kernel
theorem dX7_has_28 : decode cX7_has 28 = .ok (.iload_n 1, 1) := by decide +kernel
theorem dX7_has_29 : decode cX7_has 29 = .ok (.iconst 2, 1) := by decide +kernel
theorem dX7_has_30 : decode cX7_has 30 = .ok (.if_icmp .ne 17, 3) := by decide +kernel
theorem dX7_has_33 : decode cX7_has 33 = .ok (.iload_n 0, 1) := by decide +kernel
theorem dX7_has_34 : decode cX7_has 34 = .ok (.bipush 10, 2) := by decide +kernel
theorem dX7_has_36 : decode cX7_has 36 = .ok (.if_icmp .ne 7, 3) := by decide +kernel
theorem dX7_has_39 : decode cX7_has 39 = .ok (.iconst 1, 1) := by decide +kernel
theorem dX7_has_40 : decode cX7_has 40 = .ok (.goto 36, 3) := by decide +kernel
theorem dX7_has_43 : decode cX7_has 43 = .ok (.iconst 0, 1) := by decide +kernel
theorem dX7_has_44 : decode cX7_has 44 = .ok (.goto 32, 3) := by decide +kernel
theorem dX7_has_47 : decode cX7_has 47 = .ok (.iload_n 0, 1) := by decide +kernel
theorem dX7_has_48 : decode cX7_has 48 = .ok (.invokestatic 86, 3) := by decide +kernel
theorem dX7_has_51 : decode cX7_has 51 = .ok (.ifCond .eq 9, 3) := by decide +kernel
theorem dX7_has_54 : decode cX7_has 54 = .ok (.iload_n 0, 1) := by decide +kernel
theorem dX7_has_55 : decode cX7_has 55 = .ok (.bipush 32, 2) := by decide +kernel
theorem dX7_has_57 : decode cX7_has 57 = .ok (.if_icmp .ge 7, 3) := by decide +kernel
theorem dX7_has_60 : decode cX7_has 60 = .ok (.iconst 0, 1) := by decide +kernel
theorem dX7_has_61 : decode cX7_has 61 = .ok (.goto 15, 3) := by decide +kernel
theorem dX7_has_64 : decode cX7_has 64 = .ok (.iload_n 0, 1) := by decide +kernel
theorem dX7_has_65 : decode cX7_has 65 = .ok (.sipush 223, 3) := by decide +kernel
theorem dX7_has_68 : decode cX7_has 68 = .ok (.if_icmp .le 7, 3) := by decide +kernel
theorem dX7_has_71 : decode cX7_has 71 = .ok (.iconst 2, 1) := by decide +kernel
theorem dX7_has_72 : decode cX7_has 72 = .ok (.goto 4, 3) := by decide +kernel
theorem dX7_has_75 : decode cX7_has 75 = .ok (.iconst 1, 1) := by decide +kernel
theorem dX7_has_76 : decode cX7_has 76 = .ok (.ireturn, 1) := by decide +kernel
theorem dX7_measure_0 : decode cX7_measure 0 = .ok (.iconst 0, 1) := by decide +kernel
theorem dX7_measure_1 : decode cX7_measure 1 = .ok (.istore 4, 2) := by decide +kernel
theorem dX7_measure_3 : decode cX7_measure 3 = .ok (.iload_n 1, 1) := by decide +kernel
theorem dX7_measure_4 : decode cX7_measure 4 = .ok (.istore 5, 2) := by decide +kernel
theorem dX7_measure_6 : decode cX7_measure 6 = .ok (.iload 5, 2) := by decide +kernel
theorem dX7_measure_8 : decode cX7_measure 8 = .ok (.iload_n 2, 1) := by decide +kernel
theorem dX7_measure_9 : decode cX7_measure 9 = .ok (.if_icmp .ge 24, 3) := by decide +kernel
theorem dX7_measure_12 : decode cX7_measure 12 = .ok (.iload 4, 2) := by decide +kernel
theorem dX7_measure_14 : decode cX7_measure 14 = .ok (.aload_n 0, 1) := by decide +kernel
theorem dX7_measure_15 : decode cX7_measure 15 = .ok (.iload 5, 2) := by decide +kernel
theorem dX7_measure_17 : decode cX7_measure 17 = .ok (.invokevirtual 89, 3) := by decide +kernel
theorem dX7_measure_20 : decode cX7_measure 20 = .ok (.iload_n 3, 1) := by decide +kernel
theorem dX7_measure_21 : decode cX7_measure 21 = .ok (.invokestatic 92, 3) := by decide +kernel
theorem dX7_measure_24 : decode cX7_measure 24 = .ok (.iadd, 1) := by decide +kernel
theorem dX7_measure_25 : decode cX7_measure 25 = .ok (.istore 4, 2) := by decide +kernel
theorem dX7_measure_27 : decode cX7_measure 27 = .ok (.iinc 5 1, 3) := by decide +kernel
theorem dX7_measure_30 : decode cX7_measure 30 = .ok (.goto (-24), 3) := by decide +kernel
theorem dX7_measure_33 : decode cX7_measure 33 = .ok (.iload 4, 2) := by decide +kernel
theorem dX7_measure_35 : decode cX7_measure 35 = .ok (.ireturn, 1) := by decide +kernel
theorem dX7_at_0 : decode cX7_at 0 = .ok (.iload_n 1, 1) := by decide +kernel
theorem dX7_at_1 : decode cX7_at 1 = .ok (.iconst 0, 1) := by decide +kernel
theorem dX7_at_2 : decode cX7_at 2 = .ok (.aload_n 0, 1) := by decide +kernel
theorem dX7_at_3 : decode cX7_at 3 = .ok (.getfield 7, 3) := by decide +kernel
theorem dX7_at_6 : decode cX7_at 6 = .ok (.iconst 0, 1) := by decide +kernel
theorem dX7_at_7 : decode cX7_at 7 = .ok (.iaload, 1) := by decide +kernel
theorem dX7_at_8 : decode cX7_at 8 = .ok (.iconst 1, 1) := by decide +kernel
theorem dX7_at_9 : decode cX7_at 9 = .ok (.isub, 1) := by decide +kernel
theorem dX7_at_10 : decode cX7_at 10 = .ok (.invokestatic 38, 3) := by decide +kernel
theorem dX7_at_13 : decode cX7_at 13 = .ok (.ifCond .eq 11, 3) := by decide +kernel
theorem dX7_at_16 : decode cX7_at 16 = .ok (.aload_n 0, 1) := by decide +kernel
theorem dX7_at_17 : decode cX7_at 17 = .ok (.iload_n 1, 1) := by decide +kernel
theorem dX7_at_18 : decode cX7_at 18 = .ok (.invokevirtual 89, 3) := by decide +kernel
theorem dX7_at_21 : decode cX7_at 21 = .ok (.goto 4, 3) := by decide +kernel
theorem dX7_at_24 : decode cX7_at 24 = .ok (.iconst (-1), 1) := by decide +kernel
theorem dX7_at_25 : decode cX7_at 25 = .ok (.ireturn, 1) := by decide +kernel
theorem dX7_lineAt_0 : decode cX7_lineAt 0 = .ok (.iconst 0, 1) := by decide +kernel
theorem dX7_lineAt_1 : decode cX7_lineAt 1 = .ok (.istore_n 2, 1) := by decide +kernel
theorem dX7_lineAt_2 : decode cX7_lineAt 2 = .ok (.iconst 0, 1) := by decide +kernel
theorem dX7_lineAt_3 : decode cX7_lineAt 3 = .ok (.istore_n 3, 1) := by decide +kernel
theorem dX7_lineAt_4 : decode cX7_lineAt 4 = .ok (.iload_n 2, 1) := by decide +kernel
theorem dX7_lineAt_5 : decode cX7_lineAt 5 = .ok (.iload_n 1, 1) := by decide +kernel
theorem dX7_lineAt_6 : decode cX7_lineAt 6 = .ok (.if_icmp .ge 31, 3) := by decide +kernel
theorem dX7_lineAt_9 : decode cX7_lineAt 9 = .ok (.iload_n 3, 1) := by decide +kernel
theorem dX7_lineAt_10 : decode cX7_lineAt 10 = .ok (.aload_n 0, 1) := by decide +kernel
theorem dX7_lineAt_11 : decode cX7_lineAt 11 = .ok (.getfield 7, 3) := by decide +kernel
theorem dX7_lineAt_14 : decode cX7_lineAt 14 = .ok (.iconst 0, 1) := by decide +kernel
theorem dX7_lineAt_15 : decode cX7_lineAt 15 = .ok (.iaload, 1) := by decide +kernel
theorem dX7_lineAt_16 : decode cX7_lineAt 16 = .ok (.if_icmp .ge 21, 3) := by decide +kernel
theorem dX7_lineAt_19 : decode cX7_lineAt 19 = .ok (.iload_n 2, 1) := by decide +kernel
theorem dX7_lineAt_20 : decode cX7_lineAt 20 = .ok (.aload_n 0, 1) := by decide +kernel
theorem dX7_lineAt_21 : decode cX7_lineAt 21 = .ok (.iload_n 3, 1) := by decide +kernel
theorem dX7_lineAt_22 : decode cX7_lineAt 22 = .ok (.invokevirtual 89, 3) := by decide +kernel
theorem dX7_lineAt_25 : decode cX7_lineAt 25 = .ok (.iconst 2, 1) := by decide +kernel
theorem dX7_lineAt_26 : decode cX7_lineAt 26 = .ok (.invokestatic 92, 3) := by decide +kernel
theorem dX7_lineAt_29 : decode cX7_lineAt 29 = .ok (.iadd, 1) := by decide +kernel
theorem dX7_lineAt_30 : decode cX7_lineAt 30 = .ok (.istore_n 2, 1) := by decide +kernel
theorem dX7_lineAt_31 : decode cX7_lineAt 31 = .ok (.iinc 3 1, 3) := by decide +kernel
theorem dX7_lineAt_34 : decode cX7_lineAt 34 = .ok (.goto (-30), 3) := by decide +kernel
theorem dX7_lineAt_37 : decode cX7_lineAt 37 = .ok (.iload_n 2, 1) := by decide +kernel
theorem dX7_lineAt_38 : decode cX7_lineAt 38 = .ok (.iload_n 1, 1) := by decide +kernel
theorem dX7_lineAt_39 : decode cX7_lineAt 39 = .ok (.if_icmp .ge 14, 3) := by decide +kernel
theorem dX7_lineAt_42 : decode cX7_lineAt 42 = .ok (.aload_n 0, 1) := by decide +kernel
theorem dX7_lineAt_43 : decode cX7_lineAt 43 = .ok (.getfield 7, 3) := by decide +kernel
theorem dX7_lineAt_46 : decode cX7_lineAt 46 = .ok (.iconst 0, 1) := by decide +kernel
theorem dX7_lineAt_47 : decode cX7_lineAt 47 = .ok (.iaload, 1) := by decide +kernel
theorem dX7_lineAt_48 : decode cX7_lineAt 48 = .ok (.iconst 1, 1) := by decide +kernel
theorem dX7_lineAt_49 : decode cX7_lineAt 49 = .ok (.iadd, 1) := by decide +kernel
theorem dX7_lineAt_50 : decode cX7_lineAt 50 = .ok (.goto 4, 3) := by decide +kernel
theorem dX7_lineAt_53 : decode cX7_lineAt 53 = .ok (.iload_n 3, 1) := by decide +kernel
theorem dX7_lineAt_54 : decode cX7_lineAt 54 = .ok (.ireturn, 1) := by decide +kernel
theorem dX7_beyond_0 : decode cX7_beyond 0 = .ok (.iconst 0, 1) := by decide +kernel
theorem dX7_beyond_1 : decode cX7_beyond 1 = .ok (.istore 5, 2) := by decide +kernel
theorem dX7_beyond_3 : decode cX7_beyond 3 = .ok (.iload_n 1, 1) := by decide +kernel
theorem dX7_beyond_4 : decode cX7_beyond 4 = .ok (.istore 6, 2) := by decide +kernel
theorem dX7_beyond_6 : decode cX7_beyond 6 = .ok (.iload 6, 2) := by decide +kernel
theorem dX7_beyond_8 : decode cX7_beyond 8 = .ok (.iload_n 2, 1) := by decide +kernel
theorem dX7_beyond_9 : decode cX7_beyond 9 = .ok (.if_icmp .ge 34, 3) := by decide +kernel
theorem dX7_beyond_12 : decode cX7_beyond 12 = .ok (.iload 5, 2) := by decide +kernel
theorem dX7_beyond_14 : decode cX7_beyond 14 = .ok (.aload_n 0, 1) := by decide +kernel
theorem dX7_beyond_15 : decode cX7_beyond 15 = .ok (.iload 6, 2) := by decide +kernel
theorem dX7_beyond_17 : decode cX7_beyond 17 = .ok (.invokevirtual 89, 3) := by decide +kernel
theorem dX7_beyond_20 : decode cX7_beyond 20 = .ok (.iload_n 3, 1) := by decide +kernel
theorem dX7_beyond_21 : decode cX7_beyond 21 = .ok (.invokestatic 92, 3) := by decide +kernel
theorem dX7_beyond_24 : decode cX7_beyond 24 = .ok (.iadd, 1) := by decide +kernel
theorem dX7_beyond_25 : decode cX7_beyond 25 = .ok (.istore 5, 2) := by decide +kernel
theorem dX7_beyond_27 : decode cX7_beyond 27 = .ok (.iload 5, 2) := by decide +kernel
theorem dX7_beyond_29 : decode cX7_beyond 29 = .ok (.iload 4, 2) := by decide +kernel
theorem dX7_beyond_31 : decode cX7_beyond 31 = .ok (.if_icmp .le 6, 3) := by decide +kernel
theorem dX7_beyond_34 : decode cX7_beyond 34 = .ok (.iload 6, 2) := by decide +kernel
theorem dX7_beyond_36 : decode cX7_beyond 36 = .ok (.ireturn, 1) := by decide +kernel
theorem dX7_beyond_37 : decode cX7_beyond 37 = .ok (.iinc 6 1, 3) := by decide +kernel
theorem dX7_beyond_40 : decode cX7_beyond 40 = .ok (.goto (-34), 3) := by decide +kernel
theorem dX7_beyond_43 : decode cX7_beyond 43 = .ok (.iload_n 2, 1) := by decide +kernel
theorem dX7_beyond_44 : decode cX7_beyond 44 = .ok (.ireturn, 1) := by decide +kernel
theorem dX7_tells_0 : decode cX7_tells 0 = .ok (.iload_n 1, 1) := by decide +kernel
theorem dX7_tells_1 : decode cX7_tells 1 = .ok (.iconst 0, 1) := by decide +kernel
theorem dX7_tells_2 : decode cX7_tells 2 = .ok (.iconst 3, 1) := by decide +kernel
theorem dX7_tells_3 : decode cX7_tells 3 = .ok (.invokestatic 38, 3) := by decide +kernel
theorem dX7_tells_6 : decode cX7_tells 6 = .ok (.ifCond .eq 32, 3) := by decide +kernel
theorem dX7_tells_9 : decode cX7_tells 9 = .ok (.iload_n 3, 1) := by decide +kernel
theorem dX7_tells_10 : decode cX7_tells 10 = .ok (.iconst 0, 1) := by decide +kernel
theorem dX7_tells_11 : decode cX7_tells 11 = .ok (.iconst 3, 1) := by decide +kernel
theorem dX7_tells_12 : decode cX7_tells 12 = .ok (.invokestatic 38, 3) := by decide +kernel
theorem dX7_tells_15 : decode cX7_tells 15 = .ok (.ifCond .eq 23, 3) := by decide +kernel
theorem dX7_tells_18 : decode cX7_tells 18 = .ok (.iload_n 2, 1) := by decide +kernel
theorem dX7_tells_19 : decode cX7_tells 19 = .ok (.iconst 0, 1) := by decide +kernel
theorem dX7_tells_20 : decode cX7_tells 20 = .ok (.aload_n 0, 1) := by decide +kernel
theorem dX7_tells_21 : decode cX7_tells 21 = .ok (.iconst 0, 1) := by decide +kernel
theorem dX7_tells_22 : decode cX7_tells 22 = .ok (.aload_n 0, 1) := by decide +kernel
theorem dX7_tells_23 : decode cX7_tells 23 = .ok (.getfield 7, 3) := by decide +kernel
theorem dX7_tells_26 : decode cX7_tells 26 = .ok (.iconst 0, 1) := by decide +kernel
theorem dX7_tells_27 : decode cX7_tells 27 = .ok (.iaload, 1) := by decide +kernel
theorem dX7_tells_28 : decode cX7_tells 28 = .ok (.iload_n 1, 1) := by decide +kernel
theorem dX7_tells_29 : decode cX7_tells 29 = .ok (.invokevirtual 96, 3) := by decide +kernel
theorem dX7_tells_32 : decode cX7_tells 32 = .ok (.invokestatic 38, 3) := by decide +kernel
theorem dX7_tells_35 : decode cX7_tells 35 = .ok (.ifCond .ne 5, 3) := by decide +kernel
theorem dX7_tells_38 : decode cX7_tells 38 = .ok (.iconst (-1), 1) := by decide +kernel
theorem dX7_tells_39 : decode cX7_tells 39 = .ok (.ireturn, 1) := by decide +kernel
theorem dX7_tells_40 : decode cX7_tells 40 = .ok (.iload_n 1, 1) := by decide +kernel
theorem dX7_tells_41 : decode cX7_tells 41 = .ok (.ifCond .ne 7, 3) := by decide +kernel
theorem dX7_tells_44 : decode cX7_tells 44 = .ok (.iload_n 2, 1) := by decide +kernel
theorem dX7_tells_45 : decode cX7_tells 45 = .ok (.goto 29, 3) := by decide +kernel
theorem dX7_tells_48 : decode cX7_tells 48 = .ok (.iload_n 1, 1) := by decide +kernel
theorem dX7_tells_49 : decode cX7_tells 49 = .ok (.iconst 2, 1) := by decide +kernel
theorem dX7_tells_50 : decode cX7_tells 50 = .ok (.if_icmp .ne 11, 3) := by decide +kernel
theorem dX7_tells_53 : decode cX7_tells 53 = .ok (.aload_n 0, 1) := by decide +kernel
theorem dX7_tells_54 : decode cX7_tells 54 = .ok (.iload_n 2, 1) := by decide +kernel
theorem dX7_tells_55 : decode cX7_tells 55 = .ok (.invokevirtual 99, 3) := by decide +kernel
theorem dX7_tells_58 : decode cX7_tells 58 = .ok (.goto 16, 3) := by decide +kernel
theorem dX7_tells_61 : decode cX7_tells 61 = .ok (.aload_n 0, 1) := by decide +kernel
theorem dX7_tells_62 : decode cX7_tells 62 = .ok (.iconst 0, 1) := by decide +kernel
theorem dX7_tells_63 : decode cX7_tells 63 = .ok (.aload_n 0, 1) := by decide +kernel
theorem dX7_tells_64 : decode cX7_tells 64 = .ok (.getfield 7, 3) := by decide +kernel
theorem dX7_tells_67 : decode cX7_tells 67 = .ok (.iconst 0, 1) := by decide +kernel
theorem dX7_tells_68 : decode cX7_tells 68 = .ok (.iaload, 1) := by decide +kernel
theorem dX7_tells_69 : decode cX7_tells 69 = .ok (.iload_n 1, 1) := by decide +kernel
theorem dX7_tells_70 : decode cX7_tells 70 = .ok (.iload_n 2, 1) := by decide +kernel
theorem dX7_tells_71 : decode cX7_tells 71 = .ok (.invokevirtual 102, 3) := by decide +kernel
theorem dX7_tells_74 : decode cX7_tells 74 = .ok (.istore 4, 2) := by decide +kernel
theorem dX7_tells_76 : decode cX7_tells 76 = .ok (.aload_n 0, 1) := by decide +kernel
theorem dX7_tells_77 : decode cX7_tells 77 = .ok (.iconst 0, 1) := by decide +kernel
theorem dX7_tells_78 : decode cX7_tells 78 = .ok (.iload 4, 2) := by decide +kernel
theorem dX7_tells_80 : decode cX7_tells 80 = .ok (.iload_n 3, 1) := by decide +kernel
theorem dX7_tells_81 : decode cX7_tells 81 = .ok (.invokevirtual 96, 3) := by decide +kernel
theorem dX7_tells_84 : decode cX7_tells 84 = .ok (.ireturn, 1) := by decide +kernel
theorem dX7_spot_0 : decode cX7_spot 0 = .ok (.aload_n 0, 1) := by decide +kernel
theorem dX7_spot_1 : decode cX7_spot 1 = .ok (.iload_n 1, 1) := by decide +kernel
theorem dX7_spot_2 : decode cX7_spot 2 = .ok (.invokevirtual 68, 3) := by decide +kernel
theorem dX7_spot_5 : decode cX7_spot 5 = .ok (.ifCond .eq 12, 3) := by decide +kernel
theorem dX7_spot_8 : decode cX7_spot 8 = .ok (.iload_n 2, 1) := by decide +kernel
theorem dX7_spot_9 : decode cX7_spot 9 = .ok (.iconst 0, 1) := by decide +kernel
theorem dX7_spot_10 : decode cX7_spot 10 = .ok (.iconst 3, 1) := by decide +kernel
theorem dX7_spot_11 : decode cX7_spot 11 = .ok (.invokestatic 38, 3) := by decide +kernel
theorem dX7_spot_14 : decode cX7_spot 14 = .ok (.ifCond .ne 5, 3) := by decide +kernel
theorem dX7_spot_17 : decode cX7_spot 17 = .ok (.iconst (-1), 1) := by decide +kernel
theorem dX7_spot_18 : decode cX7_spot 18 = .ok (.ireturn, 1) := by decide +kernel
theorem dX7_spot_19 : decode cX7_spot 19 = .ok (.aload_n 0, 1) := by decide +kernel
theorem dX7_spot_20 : decode cX7_spot 20 = .ok (.iconst 0, 1) := by decide +kernel
theorem dX7_spot_21 : decode cX7_spot 21 = .ok (.iload_n 1, 1) := by decide +kernel
theorem dX7_spot_22 : decode cX7_spot 22 = .ok (.iconst 2, 1) := by decide +kernel
theorem dX7_spot_23 : decode cX7_spot 23 = .ok (.invokevirtual 96, 3) := by decide +kernel
theorem dX7_spot_26 : decode cX7_spot 26 = .ok (.istore_n 3, 1) := by decide +kernel
theorem dX7_spot_27 : decode cX7_spot 27 = .ok (.iload_n 2, 1) := by decide +kernel
theorem dX7_spot_28 : decode cX7_spot 28 = .ok (.ifCond .ne 7, 3) := by decide +kernel
theorem dX7_spot_31 : decode cX7_spot 31 = .ok (.iload_n 3, 1) := by decide +kernel
theorem dX7_spot_32 : decode cX7_spot 32 = .ok (.goto 36, 3) := by decide +kernel
theorem dX7_spot_35 : decode cX7_spot 35 = .ok (.aload_n 0, 1) := by decide +kernel
theorem dX7_spot_36 : decode cX7_spot 36 = .ok (.aload_n 0, 1) := by decide +kernel
theorem dX7_spot_37 : decode cX7_spot 37 = .ok (.iload_n 3, 1) := by decide +kernel
theorem dX7_spot_38 : decode cX7_spot 38 = .ok (.invokevirtual 99, 3) := by decide +kernel
theorem dX7_spot_41 : decode cX7_spot 41 = .ok (.iload_n 1, 1) := by decide +kernel
theorem dX7_spot_42 : decode cX7_spot 42 = .ok (.iload_n 2, 1) := by decide +kernel
theorem dX7_spot_43 : decode cX7_spot 43 = .ok (.iconst 1, 1) := by decide +kernel
theorem dX7_spot_44 : decode cX7_spot 44 = .ok (.if_icmp .ne 7, 3) := by decide +kernel
theorem dX7_spot_47 : decode cX7_spot 47 = .ok (.iconst 0, 1) := by decide +kernel
theorem dX7_spot_48 : decode cX7_spot 48 = .ok (.goto 17, 3) := by decide +kernel
theorem dX7_spot_51 : decode cX7_spot 51 = .ok (.iload_n 2, 1) := by decide +kernel
theorem dX7_spot_52 : decode cX7_spot 52 = .ok (.iconst 1, 1) := by decide +kernel
theorem dX7_spot_53 : decode cX7_spot 53 = .ok (.isub, 1) := by decide +kernel
theorem dX7_spot_54 : decode cX7_spot 54 = .ok (.iload_n 2, 1) := by decide +kernel
theorem dX7_spot_55 : decode cX7_spot 55 = .ok (.iconst 3, 1) := by decide +kernel
theorem dX7_spot_56 : decode cX7_spot 56 = .ok (.if_icmp .ne 7, 3) := by decide +kernel
theorem dX7_spot_59 : decode cX7_spot 59 = .ok (.iconst 1, 1) := by decide +kernel
theorem dX7_spot_60 : decode cX7_spot 60 = .ok (.goto 4, 3) := by decide +kernel
theorem dX7_spot_63 : decode cX7_spot 63 = .ok (.iconst 0, 1) := by decide +kernel
theorem dX7_spot_64 : decode cX7_spot 64 = .ok (.iadd, 1) := by decide +kernel
theorem dX7_spot_65 : decode cX7_spot 65 = .ok (.invokevirtual 96, 3) := by decide +kernel
theorem dX7_spot_68 : decode cX7_spot 68 = .ok (.ireturn, 1) := by decide +kernel
theorem dX7_lines_0 : decode cX7_lines 0 = .ok (.aload_n 0, 1) := by decide +kernel
theorem dX7_lines_1 : decode cX7_lines 1 = .ok (.iconst 0, 1) := by decide +kernel
theorem dX7_lines_2 : decode cX7_lines 2 = .ok (.aload_n 0, 1) := by decide +kernel
theorem dX7_lines_3 : decode cX7_lines 3 = .ok (.getfield 7, 3) := by decide +kernel
theorem dX7_lines_6 : decode cX7_lines 6 = .ok (.iconst 0, 1) := by decide +kernel
theorem dX7_lines_7 : decode cX7_lines 7 = .ok (.iaload, 1) := by decide +kernel
theorem dX7_lines_8 : decode cX7_lines 8 = .ok (.iconst 2, 1) := by decide +kernel
theorem dX7_lines_9 : decode cX7_lines 9 = .ok (.invokevirtual 96, 3) := by decide +kernel
theorem dX7_lines_12 : decode cX7_lines 12 = .ok (.iconst 1, 1) := by decide +kernel
theorem dX7_lines_13 : decode cX7_lines 13 = .ok (.iadd, 1) := by decide +kernel
theorem dX7_lines_14 : decode cX7_lines 14 = .ok (.ireturn, 1) := by decide +kernel
theorem dX7_isLine_0 : decode cX7_isLine 0 = .ok (.iload_n 1, 1) := by decide +kernel
theorem dX7_isLine_1 : decode cX7_isLine 1 = .ok (.iconst 0, 1) := by decide +kernel
theorem dX7_isLine_2 : decode cX7_isLine 2 = .ok (.aload_n 0, 1) := by decide +kernel
theorem dX7_isLine_3 : decode cX7_isLine 3 = .ok (.invokevirtual 106, 3) := by decide +kernel
theorem dX7_isLine_6 : decode cX7_isLine 6 = .ok (.iconst 1, 1) := by decide +kernel
theorem dX7_isLine_7 : decode cX7_isLine 7 = .ok (.isub, 1) := by decide +kernel
theorem dX7_isLine_8 : decode cX7_isLine 8 = .ok (.invokestatic 38, 3) := by decide +kernel
theorem dX7_isLine_11 : decode cX7_isLine 11 = .ok (.ireturn, 1) := by decide +kernel
theorem dX7_endOf_0 : decode cX7_endOf 0 = .ok (.aload_n 0, 1) := by decide +kernel
theorem dX7_endOf_1 : decode cX7_endOf 1 = .ok (.iload_n 1, 1) := by decide +kernel
theorem dX7_endOf_2 : decode cX7_endOf 2 = .ok (.iconst 1, 1) := by decide +kernel
theorem dX7_endOf_3 : decode cX7_endOf 3 = .ok (.iadd, 1) := by decide +kernel
theorem dX7_endOf_4 : decode cX7_endOf 4 = .ok (.invokevirtual 99, 3) := by decide +kernel
theorem dX7_endOf_7 : decode cX7_endOf 7 = .ok (.iconst 1, 1) := by decide +kernel
theorem dX7_endOf_8 : decode cX7_endOf 8 = .ok (.isub, 1) := by decide +kernel
theorem dX7_endOf_9 : decode cX7_endOf 9 = .ok (.ireturn, 1) := by decide +kernel
theorem dX7_column_0 : decode cX7_column 0 = .ok (.aload_n 0, 1) := by decide +kernel
theorem dX7_column_1 : decode cX7_column 1 = .ok (.iload_n 1, 1) := by decide +kernel
theorem dX7_column_2 : decode cX7_column 2 = .ok (.invokevirtual 110, 3) := by decide +kernel
theorem dX7_column_5 : decode cX7_column 5 = .ok (.ifCond .eq 26, 3) := by decide +kernel
theorem dX7_column_8 : decode cX7_column 8 = .ok (.iload_n 2, 1) := by decide +kernel
theorem dX7_column_9 : decode cX7_column 9 = .ok (.ifCond .lt 22, 3) := by decide +kernel
theorem dX7_column_12 : decode cX7_column 12 = .ok (.aload_n 0, 1) := by decide +kernel
theorem dX7_column_13 : decode cX7_column 13 = .ok (.aload_n 0, 1) := by decide +kernel
theorem dX7_column_14 : decode cX7_column 14 = .ok (.iload_n 1, 1) := by decide +kernel
theorem dX7_column_15 : decode cX7_column 15 = .ok (.invokevirtual 99, 3) := by decide +kernel
theorem dX7_column_18 : decode cX7_column 18 = .ok (.aload_n 0, 1) := by decide +kernel
theorem dX7_column_19 : decode cX7_column 19 = .ok (.iload_n 1, 1) := by decide +kernel
theorem dX7_column_20 : decode cX7_column 20 = .ok (.invokevirtual 113, 3) := by decide +kernel
theorem dX7_column_23 : decode cX7_column 23 = .ok (.iconst 3, 1) := by decide +kernel
theorem dX7_column_24 : decode cX7_column 24 = .ok (.iload_n 2, 1) := by decide +kernel
theorem dX7_column_25 : decode cX7_column 25 = .ok (.invokevirtual 102, 3) := by decide +kernel
theorem dX7_column_28 : decode cX7_column 28 = .ok (.goto 4, 3) := by decide +kernel
theorem dX7_column_31 : decode cX7_column 31 = .ok (.iconst (-1), 1) := by decide +kernel
theorem dX7_column_32 : decode cX7_column 32 = .ok (.ireturn, 1) := by decide +kernel
theorem dX7_line_0 : decode cX7_line 0 = .ok (.aload_n 0, 1) := by decide +kernel
theorem dX7_line_1 : decode cX7_line 1 = .ok (.iload_n 1, 1) := by decide +kernel
theorem dX7_line_2 : decode cX7_line 2 = .ok (.invokevirtual 110, 3) := by decide +kernel
theorem dX7_line_5 : decode cX7_line 5 = .ok (.ifCond .eq 12, 3) := by decide +kernel
theorem dX7_line_8 : decode cX7_line 8 = .ok (.iload_n 2, 1) := by decide +kernel
theorem dX7_line_9 : decode cX7_line 9 = .ok (.iconst 0, 1) := by decide +kernel
theorem dX7_line_10 : decode cX7_line 10 = .ok (.iconst 3, 1) := by decide +kernel
theorem dX7_line_11 : decode cX7_line 11 = .ok (.invokestatic 38, 3) := by decide +kernel
theorem dX7_line_14 : decode cX7_line 14 = .ok (.ifCond .ne 5, 3) := by decide +kernel
theorem dX7_line_17 : decode cX7_line 17 = .ok (.iconst (-1), 1) := by decide +kernel
theorem dX7_line_18 : decode cX7_line 18 = .ok (.ireturn, 1) := by decide +kernel
theorem dX7_line_19 : decode cX7_line 19 = .ok (.aload_n 0, 1) := by decide +kernel
theorem dX7_line_20 : decode cX7_line 20 = .ok (.iload_n 1, 1) := by decide +kernel
theorem dX7_line_21 : decode cX7_line 21 = .ok (.invokevirtual 99, 3) := by decide +kernel
theorem dX7_line_24 : decode cX7_line 24 = .ok (.istore_n 3, 1) := by decide +kernel
theorem dX7_line_25 : decode cX7_line 25 = .ok (.iload_n 2, 1) := by decide +kernel
theorem dX7_line_26 : decode cX7_line 26 = .ok (.ifCond .ne 7, 3) := by decide +kernel
theorem dX7_line_29 : decode cX7_line 29 = .ok (.iload_n 3, 1) := by decide +kernel
theorem dX7_line_30 : decode cX7_line 30 = .ok (.goto 32, 3) := by decide +kernel
theorem dX7_line_33 : decode cX7_line 33 = .ok (.aload_n 0, 1) := by decide +kernel
theorem dX7_line_34 : decode cX7_line 34 = .ok (.iload_n 3, 1) := by decide +kernel
theorem dX7_line_35 : decode cX7_line 35 = .ok (.aload_n 0, 1) := by decide +kernel
theorem dX7_line_36 : decode cX7_line 36 = .ok (.iload_n 1, 1) := by decide +kernel
theorem dX7_line_37 : decode cX7_line 37 = .ok (.invokevirtual 113, 3) := by decide +kernel
theorem dX7_line_40 : decode cX7_line 40 = .ok (.iload_n 2, 1) := by decide +kernel
theorem dX7_line_41 : decode cX7_line 41 = .ok (.iconst 1, 1) := by decide +kernel
theorem dX7_line_42 : decode cX7_line 42 = .ok (.if_icmp .ne 7, 3) := by decide +kernel
theorem dX7_line_45 : decode cX7_line 45 = .ok (.iconst 0, 1) := by decide +kernel
theorem dX7_line_46 : decode cX7_line 46 = .ok (.goto 13, 3) := by decide +kernel
theorem dX7_line_49 : decode cX7_line 49 = .ok (.iload_n 2, 1) := by decide +kernel
theorem dX7_line_50 : decode cX7_line 50 = .ok (.iconst 2, 1) := by decide +kernel
theorem dX7_line_51 : decode cX7_line 51 = .ok (.if_icmp .ne 7, 3) := by decide +kernel
theorem dX7_line_54 : decode cX7_line 54 = .ok (.iconst 1, 1) := by decide +kernel
theorem dX7_line_55 : decode cX7_line 55 = .ok (.goto 4, 3) := by decide +kernel
theorem dX7_line_58 : decode cX7_line 58 = .ok (.iconst 3, 1) := by decide +kernel
theorem dX7_line_59 : decode cX7_line 59 = .ok (.invokevirtual 96, 3) := by decide +kernel
theorem dX7_line_62 : decode cX7_line 62 = .ok (.ireturn, 1) := by decide +kernel
theorem dX7_cellsOf_0 : decode cX7_cellsOf 0 = .ok (.aload_n 0, 1) := by decide +kernel
theorem dX7_cellsOf_1 : decode cX7_cellsOf 1 = .ok (.aload_n 0, 1) := by decide +kernel
theorem dX7_cellsOf_2 : decode cX7_cellsOf 2 = .ok (.iload_n 1, 1) := by decide +kernel
theorem dX7_cellsOf_3 : decode cX7_cellsOf 3 = .ok (.invokevirtual 99, 3) := by decide +kernel
theorem dX7_cellsOf_6 : decode cX7_cellsOf 6 = .ok (.aload_n 0, 1) := by decide +kernel
theorem dX7_cellsOf_7 : decode cX7_cellsOf 7 = .ok (.iload_n 1, 1) := by decide +kernel
theorem dX7_cellsOf_8 : decode cX7_cellsOf 8 = .ok (.invokevirtual 113, 3) := by decide +kernel
theorem dX7_cellsOf_11 : decode cX7_cellsOf 11 = .ok (.iconst 3, 1) := by decide +kernel
theorem dX7_cellsOf_12 : decode cX7_cellsOf 12 = .ok (.invokevirtual 96, 3) := by decide +kernel
theorem dX7_cellsOf_15 : decode cX7_cellsOf 15 = .ok (.ireturn, 1) := by decide +kernel
theorem dX7_wide_0 : decode cX7_wide 0 = .ok (.aload_n 0, 1) := by decide +kernel
theorem dX7_wide_1 : decode cX7_wide 1 = .ok (.invokevirtual 106, 3) := by decide +kernel
theorem dX7_wide_4 : decode cX7_wide 4 = .ok (.istore_n 2, 1) := by decide +kernel
theorem dX7_wide_5 : decode cX7_wide 5 = .ok (.iload_n 1, 1) := by decide +kernel
theorem dX7_wide_6 : decode cX7_wide 6 = .ok (.iconst 0, 1) := by decide +kernel
theorem dX7_wide_7 : decode cX7_wide 7 = .ok (.iload_n 2, 1) := by decide +kernel
theorem dX7_wide_8 : decode cX7_wide 8 = .ok (.iconst 1, 1) := by decide +kernel
theorem dX7_wide_9 : decode cX7_wide 9 = .ok (.isub, 1) := by decide +kernel
theorem dX7_wide_10 : decode cX7_wide 10 = .ok (.invokestatic 38, 3) := by decide +kernel
theorem dX7_wide_13 : decode cX7_wide 13 = .ok (.ifCond .ne 5, 3) := by decide +kernel
theorem dX7_wide_16 : decode cX7_wide 16 = .ok (.iconst (-1), 1) := by decide +kernel
theorem dX7_wide_17 : decode cX7_wide 17 = .ok (.ireturn, 1) := by decide +kernel
theorem dX7_wide_18 : decode cX7_wide 18 = .ok (.iconst 0, 1) := by decide +kernel
theorem dX7_wide_19 : decode cX7_wide 19 = .ok (.istore_n 3, 1) := by decide +kernel
theorem dX7_wide_20 : decode cX7_wide 20 = .ok (.iconst 0, 1) := by decide +kernel
theorem dX7_wide_21 : decode cX7_wide 21 = .ok (.istore 4, 2) := by decide +kernel
theorem dX7_wide_23 : decode cX7_wide 23 = .ok (.iload 4, 2) := by decide +kernel
theorem dX7_wide_25 : decode cX7_wide 25 = .ok (.iload_n 2, 1) := by decide +kernel
theorem dX7_wide_26 : decode cX7_wide 26 = .ok (.if_icmp .ge 87, 3) := by decide +kernel
theorem dX7_wide_29 : decode cX7_wide 29 = .ok (.aload_n 0, 1) := by decide +kernel
theorem dX7_wide_30 : decode cX7_wide 30 = .ok (.iload 4, 2) := by decide +kernel
theorem dX7_wide_32 : decode cX7_wide 32 = .ok (.invokevirtual 116, 3) := by decide +kernel
theorem dX7_wide_35 : decode cX7_wide 35 = .ok (.istore 5, 2) := by decide +kernel
theorem dX7_wide_37 : decode cX7_wide 37 = .ok (.iconst 0, 1) := by decide +kernel
theorem dX7_wide_38 : decode cX7_wide 38 = .ok (.istore 6, 2) := by decide +kernel
theorem dX7_wide_40 : decode cX7_wide 40 = .ok (.iconst 0, 1) := by decide +kernel
theorem dX7_wide_41 : decode cX7_wide 41 = .ok (.istore 7, 2) := by decide +kernel
theorem dX7_wide_43 : decode cX7_wide 43 = .ok (.iload 7, 2) := by decide +kernel
theorem dX7_wide_45 : decode cX7_wide 45 = .ok (.iload_n 2, 1) := by decide +kernel
theorem dX7_wide_46 : decode cX7_wide 46 = .ok (.if_icmp .ge 48, 3) := by decide +kernel
theorem dX7_wide_49 : decode cX7_wide 49 = .ok (.aload_n 0, 1) := by decide +kernel
theorem dX7_wide_50 : decode cX7_wide 50 = .ok (.iload 7, 2) := by decide +kernel
theorem dX7_wide_52 : decode cX7_wide 52 = .ok (.invokevirtual 116, 3) := by decide +kernel
theorem dX7_wide_55 : decode cX7_wide 55 = .ok (.istore 8, 2) := by decide +kernel
theorem dX7_wide_57 : decode cX7_wide 57 = .ok (.iload 6, 2) := by decide +kernel
theorem dX7_wide_59 : decode cX7_wide 59 = .ok (.iload 8, 2) := by decide +kernel
theorem dX7_wide_61 : decode cX7_wide 61 = .ok (.iload 5, 2) := by decide +kernel
theorem dX7_wide_63 : decode cX7_wide 63 = .ok (.if_icmp .gt 17, 3) := by decide +kernel
theorem dX7_wide_66 : decode cX7_wide 66 = .ok (.iload 8, 2) := by decide +kernel
theorem dX7_wide_68 : decode cX7_wide 68 = .ok (.iload 5, 2) := by decide +kernel
theorem dX7_wide_70 : decode cX7_wide 70 = .ok (.if_icmp .ne 14, 3) := by decide +kernel
theorem dX7_wide_73 : decode cX7_wide 73 = .ok (.iload 7, 2) := by decide +kernel
theorem dX7_wide_75 : decode cX7_wide 75 = .ok (.iload 4, 2) := by decide +kernel
theorem dX7_wide_77 : decode cX7_wide 77 = .ok (.if_icmp .ge 7, 3) := by decide +kernel
theorem dX7_wide_80 : decode cX7_wide 80 = .ok (.iconst 1, 1) := by decide +kernel
theorem dX7_wide_81 : decode cX7_wide 81 = .ok (.goto 4, 3) := by decide +kernel
theorem dX7_wide_84 : decode cX7_wide 84 = .ok (.iconst 0, 1) := by decide +kernel
theorem dX7_wide_85 : decode cX7_wide 85 = .ok (.iadd, 1) := by decide +kernel
theorem dX7_wide_86 : decode cX7_wide 86 = .ok (.istore 6, 2) := by decide +kernel
theorem dX7_wide_88 : decode cX7_wide 88 = .ok (.iinc 7 1, 3) := by decide +kernel
theorem dX7_wide_91 : decode cX7_wide 91 = .ok (.goto (-48), 3) := by decide +kernel
theorem dX7_wide_94 : decode cX7_wide 94 = .ok (.iload 6, 2) := by decide +kernel
theorem dX7_wide_96 : decode cX7_wide 96 = .ok (.iload_n 1, 1) := by decide +kernel
theorem dX7_wide_97 : decode cX7_wide 97 = .ok (.if_icmp .ne 8, 3) := by decide +kernel
theorem dX7_wide_100 : decode cX7_wide 100 = .ok (.iload 4, 2) := by decide +kernel
theorem dX7_wide_102 : decode cX7_wide 102 = .ok (.goto 4, 3) := by decide +kernel
theorem dX7_wide_105 : decode cX7_wide 105 = .ok (.iload_n 3, 1) := by decide +kernel
theorem dX7_wide_106 : decode cX7_wide 106 = .ok (.istore_n 3, 1) := by decide +kernel
theorem dX7_wide_107 : decode cX7_wide 107 = .ok (.iinc 4 1, 3) := by decide +kernel
theorem dX7_wide_110 : decode cX7_wide 110 = .ok (.goto (-87), 3) := by decide +kernel
theorem dX7_wide_113 : decode cX7_wide 113 = .ok (.iload_n 3, 1) := by decide +kernel
theorem dX7_wide_114 : decode cX7_wide 114 = .ok (.ireturn, 1) := by decide +kernel
theorem dX7_chunk_0 : decode cX7_chunk 0 = .ok (.iload_n 1, 1) := by decide +kernel
theorem dX7_chunk_1 : decode cX7_chunk 1 = .ok (.iconst 0, 1) := by decide +kernel
theorem dX7_chunk_2 : decode cX7_chunk 2 = .ok (.aload_n 0, 1) := by decide +kernel
theorem dX7_chunk_3 : decode cX7_chunk 3 = .ok (.getfield 7, 3) := by decide +kernel
theorem dX7_chunk_6 : decode cX7_chunk 6 = .ok (.iconst 1, 1) := by decide +kernel
theorem dX7_chunk_7 : decode cX7_chunk 7 = .ok (.iaload, 1) := by decide +kernel
theorem dX7_chunk_8 : decode cX7_chunk 8 = .ok (.iconst 1, 1) := by decide +kernel
theorem dX7_chunk_9 : decode cX7_chunk 9 = .ok (.isub, 1) := by decide +kernel
theorem dX7_chunk_10 : decode cX7_chunk 10 = .ok (.invokestatic 38, 3) := by decide +kernel
theorem dX7_chunk_13 : decode cX7_chunk 13 = .ok (.ifCond .eq 12, 3) := by decide +kernel
theorem dX7_chunk_16 : decode cX7_chunk 16 = .ok (.iload_n 2, 1) := by decide +kernel
theorem dX7_chunk_17 : decode cX7_chunk 17 = .ok (.iconst 0, 1) := by decide +kernel
theorem dX7_chunk_18 : decode cX7_chunk 18 = .ok (.iconst 4, 1) := by decide +kernel
theorem dX7_chunk_19 : decode cX7_chunk 19 = .ok (.invokestatic 38, 3) := by decide +kernel
theorem dX7_chunk_22 : decode cX7_chunk 22 = .ok (.ifCond .ne 5, 3) := by decide +kernel
theorem dX7_chunk_25 : decode cX7_chunk 25 = .ok (.iconst (-1), 1) := by decide +kernel
theorem dX7_chunk_26 : decode cX7_chunk 26 = .ok (.ireturn, 1) := by decide +kernel
theorem dX7_chunk_27 : decode cX7_chunk 27 = .ok (.iconst 0, 1) := by decide +kernel
theorem dX7_chunk_28 : decode cX7_chunk 28 = .ok (.istore_n 3, 1) := by decide +kernel
theorem dX7_chunk_29 : decode cX7_chunk 29 = .ok (.iconst 0, 1) := by decide +kernel
theorem dX7_chunk_30 : decode cX7_chunk 30 = .ok (.istore 4, 2) := by decide +kernel
theorem dX7_chunk_32 : decode cX7_chunk 32 = .ok (.iload 4, 2) := by decide +kernel
theorem dX7_chunk_34 : decode cX7_chunk 34 = .ok (.iload_n 1, 1) := by decide +kernel
theorem dX7_chunk_35 : decode cX7_chunk 35 = .ok (.if_icmp .ge 23, 3) := by decide +kernel
theorem dX7_chunk_38 : decode cX7_chunk 38 = .ok (.iload_n 3, 1) := by decide +kernel
theorem dX7_chunk_39 : decode cX7_chunk 39 = .ok (.aload_n 0, 1) := by decide +kernel
theorem dX7_chunk_40 : decode cX7_chunk 40 = .ok (.getfield 7, 3) := by decide +kernel
theorem dX7_chunk_43 : decode cX7_chunk 43 = .ok (.sipush 259, 3) := by decide +kernel
theorem dX7_chunk_46 : decode cX7_chunk 46 = .ok (.iload 4, 2) := by decide +kernel
theorem dX7_chunk_48 : decode cX7_chunk 48 = .ok (.iadd, 1) := by decide +kernel
theorem dX7_chunk_49 : decode cX7_chunk 49 = .ok (.iaload, 1) := by decide +kernel
theorem dX7_chunk_50 : decode cX7_chunk 50 = .ok (.iadd, 1) := by decide +kernel
theorem dX7_chunk_51 : decode cX7_chunk 51 = .ok (.istore_n 3, 1) := by decide +kernel
theorem dX7_chunk_52 : decode cX7_chunk 52 = .ok (.iinc 4 1, 3) := by decide +kernel
theorem dX7_chunk_55 : decode cX7_chunk 55 = .ok (.goto (-23), 3) := by decide +kernel
theorem dX7_chunk_58 : decode cX7_chunk 58 = .ok (.iload_n 3, 1) := by decide +kernel
theorem dX7_chunk_59 : decode cX7_chunk 59 = .ok (.aload_n 0, 1) := by decide +kernel
theorem dX7_chunk_60 : decode cX7_chunk 60 = .ok (.getfield 7, 3) := by decide +kernel
theorem dX7_chunk_63 : decode cX7_chunk 63 = .ok (.sipush 259, 3) := by decide +kernel
theorem dX7_chunk_66 : decode cX7_chunk 66 = .ok (.iload_n 1, 1) := by decide +kernel
theorem dX7_chunk_67 : decode cX7_chunk 67 = .ok (.iadd, 1) := by decide +kernel
theorem dX7_chunk_68 : decode cX7_chunk 68 = .ok (.iaload, 1) := by decide +kernel
theorem dX7_chunk_69 : decode cX7_chunk 69 = .ok (.iadd, 1) := by decide +kernel
theorem dX7_chunk_70 : decode cX7_chunk 70 = .ok (.istore 4, 2) := by decide +kernel
theorem dX7_chunk_72 : decode cX7_chunk 72 = .ok (.iload_n 2, 1) := by decide +kernel
theorem dX7_chunk_73 : decode cX7_chunk 73 = .ok (.iconst 4, 1) := by decide +kernel
theorem dX7_chunk_74 : decode cX7_chunk 74 = .ok (.if_icmp .ge 12, 3) := by decide +kernel
theorem dX7_chunk_77 : decode cX7_chunk 77 = .ok (.aload_n 0, 1) := by decide +kernel
theorem dX7_chunk_78 : decode cX7_chunk 78 = .ok (.iload_n 3, 1) := by decide +kernel
theorem dX7_chunk_79 : decode cX7_chunk 79 = .ok (.iload 4, 2) := by decide +kernel
theorem dX7_chunk_81 : decode cX7_chunk 81 = .ok (.iload_n 2, 1) := by decide +kernel
theorem dX7_chunk_82 : decode cX7_chunk 82 = .ok (.invokevirtual 96, 3) := by decide +kernel
theorem dX7_chunk_85 : decode cX7_chunk 85 = .ok (.ireturn, 1) := by decide +kernel
theorem dX7_chunk_86 : decode cX7_chunk 86 = .ok (.iconst 0, 1) := by decide +kernel
theorem dX7_chunk_87 : decode cX7_chunk 87 = .ok (.istore 5, 2) := by decide +kernel
theorem dX7_chunk_89 : decode cX7_chunk 89 = .ok (.iconst 0, 1) := by decide +kernel
theorem dX7_chunk_90 : decode cX7_chunk 90 = .ok (.istore 6, 2) := by decide +kernel
theorem dX7_chunk_92 : decode cX7_chunk 92 = .ok (.iload_n 3, 1) := by decide +kernel
theorem dX7_chunk_93 : decode cX7_chunk 93 = .ok (.istore 7, 2) := by decide +kernel
theorem dX7_chunk_95 : decode cX7_chunk 95 = .ok (.iload 7, 2) := by decide +kernel
theorem dX7_chunk_97 : decode cX7_chunk 97 = .ok (.iload 4, 2) := by decide +kernel
theorem dX7_chunk_99 : decode cX7_chunk 99 = .ok (.if_icmp .ge 55, 3) := by decide +kernel
theorem dX7_chunk_102 : decode cX7_chunk 102 = .ok (.aload_n 0, 1) := by decide +kernel
theorem dX7_chunk_103 : decode cX7_chunk 103 = .ok (.iload 7, 2) := by decide +kernel
theorem dX7_chunk_105 : decode cX7_chunk 105 = .ok (.invokevirtual 89, 3) := by decide +kernel
theorem dX7_chunk_108 : decode cX7_chunk 108 = .ok (.bipush 10, 2) := by decide +kernel
theorem dX7_chunk_110 : decode cX7_chunk 110 = .ok (.if_icmp .ne 7, 3) := by decide +kernel
theorem dX7_chunk_113 : decode cX7_chunk 113 = .ok (.iconst 0, 1) := by decide +kernel
theorem dX7_chunk_114 : decode cX7_chunk 114 = .ok (.goto 16, 3) := by decide +kernel
theorem dX7_chunk_117 : decode cX7_chunk 117 = .ok (.iload 6, 2) := by decide +kernel
theorem dX7_chunk_119 : decode cX7_chunk 119 = .ok (.aload_n 0, 1) := by decide +kernel
theorem dX7_chunk_120 : decode cX7_chunk 120 = .ok (.iload 7, 2) := by decide +kernel
theorem dX7_chunk_122 : decode cX7_chunk 122 = .ok (.invokevirtual 89, 3) := by decide +kernel
theorem dX7_chunk_125 : decode cX7_chunk 125 = .ok (.iconst 3, 1) := by decide +kernel
theorem dX7_chunk_126 : decode cX7_chunk 126 = .ok (.invokestatic 92, 3) := by decide +kernel
theorem dX7_chunk_129 : decode cX7_chunk 129 = .ok (.iadd, 1) := by decide +kernel
theorem dX7_chunk_130 : decode cX7_chunk 130 = .ok (.istore 6, 2) := by decide +kernel
theorem dX7_chunk_132 : decode cX7_chunk 132 = .ok (.iload 6, 2) := by decide +kernel
theorem dX7_chunk_134 : decode cX7_chunk 134 = .ok (.iload 5, 2) := by decide +kernel
theorem dX7_chunk_136 : decode cX7_chunk 136 = .ok (.if_icmp .le 8, 3) := by decide +kernel
theorem dX7_chunk_139 : decode cX7_chunk 139 = .ok (.iload 6, 2) := by decide +kernel
theorem dX7_chunk_141 : decode cX7_chunk 141 = .ok (.goto 5, 3) := by decide +kernel
theorem dX7_chunk_144 : decode cX7_chunk 144 = .ok (.iload 5, 2) := by decide +kernel
theorem dX7_chunk_146 : decode cX7_chunk 146 = .ok (.istore 5, 2) := by decide +kernel
theorem dX7_chunk_148 : decode cX7_chunk 148 = .ok (.iinc 7 1, 3) := by decide +kernel
theorem dX7_chunk_151 : decode cX7_chunk 151 = .ok (.goto (-56), 3) := by decide +kernel
theorem dX7_chunk_154 : decode cX7_chunk 154 = .ok (.iload 5, 2) := by decide +kernel
theorem dX7_chunk_156 : decode cX7_chunk 156 = .ok (.ireturn, 1) := by decide +kernel
theorem dX7_isName_0 : decode cX7_isName 0 = .ok (.iload_n 0, 1) := by decide +kernel
theorem dX7_isName_1 : decode cX7_isName 1 = .ok (.bipush 97, 2) := by decide +kernel
theorem dX7_isName_3 : decode cX7_isName 3 = .ok (.bipush 122, 2) := by decide +kernel
theorem dX7_isName_5 : decode cX7_isName 5 = .ok (.invokestatic 38, 3) := by decide +kernel
theorem dX7_isName_8 : decode cX7_isName 8 = .ok (.ireturn, 1) := by decide +kernel
theorem dX7_marksOf_0 : decode cX7_marksOf 0 = .ok (.iconst 0, 1) := by decide +kernel
theorem dX7_marksOf_1 : decode cX7_marksOf 1 = .ok (.istore_n 1, 1) := by decide +kernel
theorem dX7_marksOf_2 : decode cX7_marksOf 2 = .ok (.sipush 515, 3) := by decide +kernel
theorem dX7_marksOf_5 : decode cX7_marksOf 5 = .ok (.istore_n 2, 1) := by decide +kernel
theorem dX7_marksOf_6 : decode cX7_marksOf 6 = .ok (.iload_n 2, 1) := by decide +kernel
theorem dX7_marksOf_7 : decode cX7_marksOf 7 = .ok (.sipush 541, 3) := by decide +kernel
theorem dX7_marksOf_10 : decode cX7_marksOf 10 = .ok (.if_icmp .ge 26, 3) := by decide +kernel
theorem dX7_marksOf_13 : decode cX7_marksOf 13 = .ok (.iload_n 1, 1) := by decide +kernel
theorem dX7_marksOf_14 : decode cX7_marksOf 14 = .ok (.aload_n 0, 1) := by decide +kernel
theorem dX7_marksOf_15 : decode cX7_marksOf 15 = .ok (.getfield 7, 3) := by decide +kernel
theorem dX7_marksOf_18 : decode cX7_marksOf 18 = .ok (.iload_n 2, 1) := by decide +kernel
theorem dX7_marksOf_19 : decode cX7_marksOf 19 = .ok (.iaload, 1) := by decide +kernel
theorem dX7_marksOf_20 : decode cX7_marksOf 20 = .ok (.ifCond .ge 7, 3) := by decide +kernel
theorem dX7_marksOf_23 : decode cX7_marksOf 23 = .ok (.iconst 0, 1) := by decide +kernel
theorem dX7_marksOf_24 : decode cX7_marksOf 24 = .ok (.goto 4, 3) := by decide +kernel
theorem dX7_marksOf_27 : decode cX7_marksOf 27 = .ok (.iconst 1, 1) := by decide +kernel
theorem dX7_marksOf_28 : decode cX7_marksOf 28 = .ok (.iadd, 1) := by decide +kernel
theorem dX7_marksOf_29 : decode cX7_marksOf 29 = .ok (.istore_n 1, 1) := by decide +kernel
theorem dX7_marksOf_30 : decode cX7_marksOf 30 = .ok (.iinc 2 1, 3) := by decide +kernel
theorem dX7_marksOf_33 : decode cX7_marksOf 33 = .ok (.goto (-27), 3) := by decide +kernel
theorem dX7_marksOf_36 : decode cX7_marksOf 36 = .ok (.iload_n 1, 1) := by decide +kernel
theorem dX7_marksOf_37 : decode cX7_marksOf 37 = .ok (.ireturn, 1) := by decide +kernel
theorem dX7_told_0 : decode cX7_told 0 = .ok (.iload_n 0, 1) := by decide +kernel
theorem dX7_told_1 : decode cX7_told 1 = .ok (.ifCond .ge 8, 3) := by decide +kernel
theorem dX7_told_4 : decode cX7_told 4 = .ok (.bipush (-9), 2) := by decide +kernel
theorem dX7_told_6 : decode cX7_told 6 = .ok (.goto 4, 3) := by decide +kernel
theorem dX7_told_9 : decode cX7_told 9 = .ok (.iload_n 0, 1) := by decide +kernel
theorem dX7_told_10 : decode cX7_told 10 = .ok (.ireturn, 1) := by decide +kernel
theorem dX7_marks_0 : decode cX7_marks 0 = .ok (.iload_n 1, 1) := by decide +kernel
theorem dX7_marks_1 : decode cX7_marks 1 = .ok (.invokestatic 119, 3) := by decide +kernel
theorem dX7_marks_4 : decode cX7_marks 4 = .ok (.ifCond .eq 11, 3) := by decide +kernel
theorem dX7_marks_7 : decode cX7_marks 7 = .ok (.aload_n 0, 1) := by decide +kernel
theorem dX7_marks_8 : decode cX7_marks 8 = .ok (.iload_n 2, 1) := by decide +kernel
theorem dX7_marks_9 : decode cX7_marks 9 = .ok (.invokevirtual 68, 3) := by decide +kernel
theorem dX7_marks_12 : decode cX7_marks 12 = .ok (.ifCond .ne 5, 3) := by decide +kernel
theorem dX7_marks_15 : decode cX7_marks 15 = .ok (.iconst (-1), 1) := by decide +kernel
theorem dX7_marks_16 : decode cX7_marks 16 = .ok (.ireturn, 1) := by decide +kernel
theorem dX7_marks_17 : decode cX7_marks 17 = .ok (.aload_n 0, 1) := by decide +kernel
theorem dX7_marks_18 : decode cX7_marks 18 = .ok (.getfield 7, 3) := by decide +kernel
theorem dX7_marks_21 : decode cX7_marks 21 = .ok (.sipush 515, 3) := by decide +kernel
theorem dX7_marks_24 : decode cX7_marks 24 = .ok (.iload_n 1, 1) := by decide +kernel
theorem dX7_marks_25 : decode cX7_marks 25 = .ok (.iadd, 1) := by decide +kernel
theorem dX7_marks_26 : decode cX7_marks 26 = .ok (.bipush 97, 2) := by decide +kernel
theorem dX7_marks_28 : decode cX7_marks 28 = .ok (.isub, 1) := by decide +kernel
theorem dX7_marks_29 : decode cX7_marks 29 = .ok (.iaload, 1) := by decide +kernel
theorem dX7_marks_30 : decode cX7_marks 30 = .ok (.istore_n 3, 1) := by decide +kernel
theorem dX7_marks_31 : decode cX7_marks 31 = .ok (.iload_n 3, 1) := by decide +kernel
theorem dX7_marks_32 : decode cX7_marks 32 = .ok (.ifCond .ge 15, 3) := by decide +kernel
theorem dX7_marks_35 : decode cX7_marks 35 = .ok (.aload_n 0, 1) := by decide +kernel
theorem dX7_marks_36 : decode cX7_marks 36 = .ok (.invokevirtual 122, 3) := by decide +kernel
theorem dX7_marks_39 : decode cX7_marks 39 = .ok (.bipush 8, 2) := by decide +kernel
theorem dX7_marks_41 : decode cX7_marks 41 = .ok (.if_icmp .ne 6, 3) := by decide +kernel
theorem dX7_marks_44 : decode cX7_marks 44 = .ok (.bipush (-3), 2) := by decide +kernel
theorem dX7_marks_46 : decode cX7_marks 46 = .ok (.ireturn, 1) := by decide +kernel
theorem dX7_marks_47 : decode cX7_marks 47 = .ok (.aload_n 0, 1) := by decide +kernel
theorem dX7_marks_48 : decode cX7_marks 48 = .ok (.getfield 7, 3) := by decide +kernel
theorem dX7_marks_51 : decode cX7_marks 51 = .ok (.sipush 515, 3) := by decide +kernel
theorem dX7_marks_54 : decode cX7_marks 54 = .ok (.iload_n 1, 1) := by decide +kernel
theorem dX7_marks_55 : decode cX7_marks 55 = .ok (.iadd, 1) := by decide +kernel
theorem dX7_marks_56 : decode cX7_marks 56 = .ok (.bipush 97, 2) := by decide +kernel
theorem dX7_marks_58 : decode cX7_marks 58 = .ok (.isub, 1) := by decide +kernel
theorem dX7_marks_59 : decode cX7_marks 59 = .ok (.iload_n 2, 1) := by decide +kernel
theorem dX7_marks_60 : decode cX7_marks 60 = .ok (.iastore, 1) := by decide +kernel
theorem dX7_marks_61 : decode cX7_marks 61 = .ok (.iload_n 3, 1) := by decide +kernel
theorem dX7_marks_62 : decode cX7_marks 62 = .ok (.invokestatic 125, 3) := by decide +kernel
theorem dX7_marks_65 : decode cX7_marks 65 = .ok (.ireturn, 1) := by decide +kernel
theorem dX7_lifts_0 : decode cX7_lifts 0 = .ok (.iload_n 1, 1) := by decide +kernel
theorem dX7_lifts_1 : decode cX7_lifts 1 = .ok (.invokestatic 119, 3) := by decide +kernel
theorem dX7_lifts_4 : decode cX7_lifts 4 = .ok (.ifCond .ne 5, 3) := by decide +kernel
theorem dX7_lifts_7 : decode cX7_lifts 7 = .ok (.iconst (-1), 1) := by decide +kernel
theorem dX7_lifts_8 : decode cX7_lifts 8 = .ok (.ireturn, 1) := by decide +kernel
theorem dX7_lifts_9 : decode cX7_lifts 9 = .ok (.aload_n 0, 1) := by decide +kernel
theorem dX7_lifts_10 : decode cX7_lifts 10 = .ok (.getfield 7, 3) := by decide +kernel
theorem dX7_lifts_13 : decode cX7_lifts 13 = .ok (.sipush 515, 3) := by decide +kernel
theorem dX7_lifts_16 : decode cX7_lifts 16 = .ok (.iload_n 1, 1) := by decide +kernel
theorem dX7_lifts_17 : decode cX7_lifts 17 = .ok (.iadd, 1) := by decide +kernel
theorem dX7_lifts_18 : decode cX7_lifts 18 = .ok (.bipush 97, 2) := by decide +kernel
theorem dX7_lifts_20 : decode cX7_lifts 20 = .ok (.isub, 1) := by decide +kernel
theorem dX7_lifts_21 : decode cX7_lifts 21 = .ok (.iaload, 1) := by decide +kernel
theorem dX7_lifts_22 : decode cX7_lifts 22 = .ok (.istore_n 2, 1) := by decide +kernel
theorem dX7_lifts_23 : decode cX7_lifts 23 = .ok (.iload_n 2, 1) := by decide +kernel
theorem dX7_lifts_24 : decode cX7_lifts 24 = .ok (.ifCond .ge 6, 3) := by decide +kernel
theorem dX7_lifts_27 : decode cX7_lifts 27 = .ok (.bipush (-2), 2) := by decide +kernel
theorem dX7_lifts_29 : decode cX7_lifts 29 = .ok (.ireturn, 1) := by decide +kernel
theorem dX7_lifts_30 : decode cX7_lifts 30 = .ok (.aload_n 0, 1) := by decide +kernel
theorem dX7_lifts_31 : decode cX7_lifts 31 = .ok (.getfield 7, 3) := by decide +kernel
theorem dX7_lifts_34 : decode cX7_lifts 34 = .ok (.sipush 515, 3) := by decide +kernel
theorem dX7_lifts_37 : decode cX7_lifts 37 = .ok (.iload_n 1, 1) := by decide +kernel
theorem dX7_lifts_38 : decode cX7_lifts 38 = .ok (.iadd, 1) := by decide +kernel
theorem dX7_lifts_39 : decode cX7_lifts 39 = .ok (.bipush 97, 2) := by decide +kernel
theorem dX7_lifts_41 : decode cX7_lifts 41 = .ok (.isub, 1) := by decide +kernel
theorem dX7_lifts_42 : decode cX7_lifts 42 = .ok (.iconst (-1), 1) := by decide +kernel
theorem dX7_lifts_43 : decode cX7_lifts 43 = .ok (.iastore, 1) := by decide +kernel
theorem dX7_lifts_44 : decode cX7_lifts 44 = .ok (.iload_n 2, 1) := by decide +kernel
theorem dX7_lifts_45 : decode cX7_lifts 45 = .ok (.ireturn, 1) := by decide +kernel
theorem dX7_mark_0 : decode cX7_mark 0 = .ok (.iload_n 1, 1) := by decide +kernel
theorem dX7_mark_1 : decode cX7_mark 1 = .ok (.invokestatic 119, 3) := by decide +kernel
theorem dX7_mark_4 : decode cX7_mark 4 = .ok (.ifCond .eq 22, 3) := by decide +kernel
theorem dX7_mark_7 : decode cX7_mark 7 = .ok (.aload_n 0, 1) := by decide +kernel
theorem dX7_mark_8 : decode cX7_mark 8 = .ok (.getfield 7, 3) := by decide +kernel
theorem dX7_mark_11 : decode cX7_mark 11 = .ok (.sipush 515, 3) := by decide +kernel
theorem dX7_mark_14 : decode cX7_mark 14 = .ok (.iload_n 1, 1) := by decide +kernel
theorem dX7_mark_15 : decode cX7_mark 15 = .ok (.iadd, 1) := by decide +kernel
theorem dX7_mark_16 : decode cX7_mark 16 = .ok (.bipush 97, 2) := by decide +kernel
theorem dX7_mark_18 : decode cX7_mark 18 = .ok (.isub, 1) := by decide +kernel
theorem dX7_mark_19 : decode cX7_mark 19 = .ok (.iaload, 1) := by decide +kernel
theorem dX7_mark_20 : decode cX7_mark 20 = .ok (.invokestatic 125, 3) := by decide +kernel
theorem dX7_mark_23 : decode cX7_mark 23 = .ok (.goto 4, 3) := by decide +kernel
theorem dX7_mark_26 : decode cX7_mark 26 = .ok (.iconst (-1), 1) := by decide +kernel
theorem dX7_mark_27 : decode cX7_mark 27 = .ok (.ireturn, 1) := by decide +kernel
theorem dX7_next_0 : decode cX7_next 0 = .ok (.aload_n 0, 1) := by decide +kernel
theorem dX7_next_1 : decode cX7_next 1 = .ok (.iload_n 1, 1) := by decide +kernel
theorem dX7_next_2 : decode cX7_next 2 = .ok (.invokevirtual 68, 3) := by decide +kernel
theorem dX7_next_5 : decode cX7_next 5 = .ok (.ifCond .ne 5, 3) := by decide +kernel
theorem dX7_next_8 : decode cX7_next 8 = .ok (.iconst (-1), 1) := by decide +kernel
theorem dX7_next_9 : decode cX7_next 9 = .ok (.ireturn, 1) := by decide +kernel
theorem dX7_next_10 : decode cX7_next 10 = .ok (.bipush (-9), 2) := by decide +kernel
theorem dX7_next_12 : decode cX7_next 12 = .ok (.istore_n 2, 1) := by decide +kernel
theorem dX7_next_13 : decode cX7_next 13 = .ok (.bipush 121, 2) := by decide +kernel
theorem dX7_next_15 : decode cX7_next 15 = .ok (.istore_n 3, 1) := by decide +kernel
theorem dX7_next_16 : decode cX7_next 16 = .ok (.iconst 0, 1) := by decide +kernel
theorem dX7_next_17 : decode cX7_next 17 = .ok (.istore 4, 2) := by decide +kernel
theorem dX7_next_19 : decode cX7_next 19 = .ok (.iload 4, 2) := by decide +kernel
theorem dX7_next_21 : decode cX7_next 21 = .ok (.bipush 26, 2) := by decide +kernel
theorem dX7_next_23 : decode cX7_next 23 = .ok (.if_icmp .ge 43, 3) := by decide +kernel
theorem dX7_next_26 : decode cX7_next 26 = .ok (.aload_n 0, 1) := by decide +kernel
theorem dX7_next_27 : decode cX7_next 27 = .ok (.getfield 7, 3) := by decide +kernel
theorem dX7_next_30 : decode cX7_next 30 = .ok (.sipush 515, 3) := by decide +kernel
theorem dX7_next_33 : decode cX7_next 33 = .ok (.iload 4, 2) := by decide +kernel
theorem dX7_next_35 : decode cX7_next 35 = .ok (.iadd, 1) := by decide +kernel
theorem dX7_next_36 : decode cX7_next 36 = .ok (.iaload, 1) := by decide +kernel
theorem dX7_next_37 : decode cX7_next 37 = .ok (.istore 5, 2) := by decide +kernel
theorem dX7_next_39 : decode cX7_next 39 = .ok (.iload 5, 2) := by decide +kernel
theorem dX7_next_41 : decode cX7_next 41 = .ok (.iload_n 1, 1) := by decide +kernel
theorem dX7_next_42 : decode cX7_next 42 = .ok (.if_icmp .lt 18, 3) := by decide +kernel
theorem dX7_next_45 : decode cX7_next 45 = .ok (.iload 5, 2) := by decide +kernel
theorem dX7_next_47 : decode cX7_next 47 = .ok (.iload_n 3, 1) := by decide +kernel
theorem dX7_next_48 : decode cX7_next 48 = .ok (.if_icmp .ge 12, 3) := by decide +kernel
theorem dX7_next_51 : decode cX7_next 51 = .ok (.bipush 97, 2) := by decide +kernel
theorem dX7_next_53 : decode cX7_next 53 = .ok (.iload 4, 2) := by decide +kernel
theorem dX7_next_55 : decode cX7_next 55 = .ok (.iadd, 1) := by decide +kernel
theorem dX7_next_56 : decode cX7_next 56 = .ok (.istore_n 2, 1) := by decide +kernel
theorem dX7_next_57 : decode cX7_next 57 = .ok (.iload 5, 2) := by decide +kernel
theorem dX7_next_59 : decode cX7_next 59 = .ok (.istore_n 3, 1) := by decide +kernel
theorem dX7_next_60 : decode cX7_next 60 = .ok (.iinc 4 1, 3) := by decide +kernel
theorem dX7_next_63 : decode cX7_next 63 = .ok (.goto (-44), 3) := by decide +kernel
theorem dX7_next_66 : decode cX7_next 66 = .ok (.iload_n 2, 1) := by decide +kernel
theorem dX7_next_67 : decode cX7_next 67 = .ok (.ireturn, 1) := by decide +kernel
theorem dX7_seeks_0 : decode cX7_seeks 0 = .ok (.aload_n 0, 1) := by decide +kernel
theorem dX7_seeks_1 : decode cX7_seeks 1 = .ok (.iload_n 1, 1) := by decide +kernel
theorem dX7_seeks_2 : decode cX7_seeks 2 = .ok (.invokevirtual 68, 3) := by decide +kernel
theorem dX7_seeks_5 : decode cX7_seeks 5 = .ok (.ifCond .ne 5, 3) := by decide +kernel
theorem dX7_seeks_8 : decode cX7_seeks 8 = .ok (.iconst (-1), 1) := by decide +kernel
theorem dX7_seeks_9 : decode cX7_seeks 9 = .ok (.ireturn, 1) := by decide +kernel
theorem dX7_seeks_10 : decode cX7_seeks 10 = .ok (.aload_n 0, 1) := by decide +kernel
theorem dX7_seeks_11 : decode cX7_seeks 11 = .ok (.getfield 7, 3) := by decide +kernel
theorem dX7_seeks_14 : decode cX7_seeks 14 = .ok (.iconst 2, 1) := by decide +kernel
theorem dX7_seeks_15 : decode cX7_seeks 15 = .ok (.iaload, 1) := by decide +kernel
theorem dX7_seeks_16 : decode cX7_seeks 16 = .ok (.istore_n 2, 1) := by decide +kernel
theorem dX7_seeks_17 : decode cX7_seeks 17 = .ok (.aload_n 0, 1) := by decide +kernel
theorem dX7_seeks_18 : decode cX7_seeks 18 = .ok (.getfield 7, 3) := by decide +kernel
theorem dX7_seeks_21 : decode cX7_seeks 21 = .ok (.iconst 2, 1) := by decide +kernel
theorem dX7_seeks_22 : decode cX7_seeks 22 = .ok (.iload_n 1, 1) := by decide +kernel
theorem dX7_seeks_23 : decode cX7_seeks 23 = .ok (.iastore, 1) := by decide +kernel
theorem dX7_seeks_24 : decode cX7_seeks 24 = .ok (.iload_n 2, 1) := by decide +kernel
theorem dX7_seeks_25 : decode cX7_seeks 25 = .ok (.ireturn, 1) := by decide +kernel
theorem dX7_reads_0 : decode cX7_reads 0 = .ok (.aload_n 0, 1) := by decide +kernel
theorem dX7_reads_1 : decode cX7_reads 1 = .ok (.getfield 7, 3) := by decide +kernel
theorem dX7_reads_4 : decode cX7_reads 4 = .ok (.iconst 2, 1) := by decide +kernel
theorem dX7_reads_5 : decode cX7_reads 5 = .ok (.iaload, 1) := by decide +kernel
theorem dX7_reads_6 : decode cX7_reads 6 = .ok (.istore_n 1, 1) := by decide +kernel
theorem dX7_reads_7 : decode cX7_reads 7 = .ok (.iload_n 1, 1) := by decide +kernel
theorem dX7_reads_8 : decode cX7_reads 8 = .ok (.aload_n 0, 1) := by decide +kernel
theorem dX7_reads_9 : decode cX7_reads 9 = .ok (.getfield 7, 3) := by decide +kernel
theorem dX7_reads_12 : decode cX7_reads 12 = .ok (.iconst 0, 1) := by decide +kernel
theorem dX7_reads_13 : decode cX7_reads 13 = .ok (.iaload, 1) := by decide +kernel
theorem dX7_reads_14 : decode cX7_reads 14 = .ok (.if_icmp .ne 6, 3) := by decide +kernel
theorem dX7_reads_17 : decode cX7_reads 17 = .ok (.bipush (-9), 2) := by decide +kernel
theorem dX7_reads_19 : decode cX7_reads 19 = .ok (.ireturn, 1) := by decide +kernel
theorem dX7_reads_20 : decode cX7_reads 20 = .ok (.aload_n 0, 1) := by decide +kernel
theorem dX7_reads_21 : decode cX7_reads 21 = .ok (.iload_n 1, 1) := by decide +kernel
theorem dX7_reads_22 : decode cX7_reads 22 = .ok (.invokevirtual 89, 3) := by decide +kernel
theorem dX7_reads_25 : decode cX7_reads 25 = .ok (.istore_n 2, 1) := by decide +kernel
theorem dX7_reads_26 : decode cX7_reads 26 = .ok (.iinc 1 1, 3) := by decide +kernel
theorem dX7_reads_29 : decode cX7_reads 29 = .ok (.iload_n 1, 1) := by decide +kernel
theorem dX7_reads_30 : decode cX7_reads 30 = .ok (.aload_n 0, 1) := by decide +kernel
theorem dX7_reads_31 : decode cX7_reads 31 = .ok (.getfield 7, 3) := by decide +kernel
theorem dX7_reads_34 : decode cX7_reads 34 = .ok (.iconst 0, 1) := by decide +kernel
theorem dX7_reads_35 : decode cX7_reads 35 = .ok (.iaload, 1) := by decide +kernel
theorem dX7_reads_36 : decode cX7_reads 36 = .ok (.if_icmp .ge 20, 3) := by decide +kernel
theorem dX7_reads_39 : decode cX7_reads 39 = .ok (.aload_n 0, 1) := by decide +kernel
theorem dX7_reads_40 : decode cX7_reads 40 = .ok (.iload_n 1, 1) := by decide +kernel
theorem dX7_reads_41 : decode cX7_reads 41 = .ok (.invokevirtual 89, 3) := by decide +kernel
theorem dX7_reads_44 : decode cX7_reads 44 = .ok (.invokestatic 86, 3) := by decide +kernel
theorem dX7_reads_47 : decode cX7_reads 47 = .ok (.ifCond .ne 9, 3) := by decide +kernel
theorem dX7_reads_50 : decode cX7_reads 50 = .ok (.iinc 1 1, 3) := by decide +kernel
theorem dX7_reads_53 : decode cX7_reads 53 = .ok (.goto (-24), 3) := by decide +kernel
theorem dX7_reads_56 : decode cX7_reads 56 = .ok (.aload_n 0, 1) := by decide +kernel
theorem dX7_reads_57 : decode cX7_reads 57 = .ok (.getfield 7, 3) := by decide +kernel
theorem dX7_reads_60 : decode cX7_reads 60 = .ok (.iconst 2, 1) := by decide +kernel
theorem dX7_reads_61 : decode cX7_reads 61 = .ok (.iload_n 1, 1) := by decide +kernel
theorem dX7_reads_62 : decode cX7_reads 62 = .ok (.iastore, 1) := by decide +kernel
theorem dX7_reads_63 : decode cX7_reads 63 = .ok (.iload_n 2, 1) := by decide +kernel
theorem dX7_reads_64 : decode cX7_reads 64 = .ok (.ireturn, 1) := by decide +kernel
theorem dX7_keep_0 : decode cX7_keep 0 = .ok (.iload_n 1, 1) := by decide +kernel
theorem dX7_keep_1 : decode cX7_keep 1 = .ok (.iconst 0, 1) := by decide +kernel
theorem dX7_keep_2 : decode cX7_keep 2 = .ok (.iconst 1, 1) := by decide +kernel
theorem dX7_keep_3 : decode cX7_keep 3 = .ok (.invokestatic 38, 3) := by decide +kernel
theorem dX7_keep_6 : decode cX7_keep 6 = .ok (.ifCond .ne 5, 3) := by decide +kernel
theorem dX7_keep_9 : decode cX7_keep 9 = .ok (.iconst (-1), 1) := by decide +kernel
theorem dX7_keep_10 : decode cX7_keep 10 = .ok (.ireturn, 1) := by decide +kernel
theorem dX7_keep_11 : decode cX7_keep 11 = .ok (.iconst 0, 1) := by decide +kernel
theorem dX7_keep_12 : decode cX7_keep 12 = .ok (.istore_n 2, 1) := by decide +kernel
theorem dX7_keep_13 : decode cX7_keep 13 = .ok (.iload_n 2, 1) := by decide +kernel
theorem dX7_keep_14 : decode cX7_keep 14 = .ok (.sipush 541, 3) := by decide +kernel
theorem dX7_keep_17 : decode cX7_keep 17 = .ok (.if_icmp .ge 27, 3) := by decide +kernel
theorem dX7_keep_20 : decode cX7_keep 20 = .ok (.aload_n 0, 1) := by decide +kernel
theorem dX7_keep_21 : decode cX7_keep 21 = .ok (.getfield 16, 3) := by decide +kernel
theorem dX7_keep_24 : decode cX7_keep 24 = .ok (.sipush 541, 3) := by decide +kernel
theorem dX7_keep_27 : decode cX7_keep 27 = .ok (.iload_n 1, 1) := by decide +kernel
theorem dX7_keep_28 : decode cX7_keep 28 = .ok (.imul, 1) := by decide +kernel
theorem dX7_keep_29 : decode cX7_keep 29 = .ok (.iload_n 2, 1) := by decide +kernel
theorem dX7_keep_30 : decode cX7_keep 30 = .ok (.iadd, 1) := by decide +kernel
theorem dX7_keep_31 : decode cX7_keep 31 = .ok (.aload_n 0, 1) := by decide +kernel
theorem dX7_keep_32 : decode cX7_keep 32 = .ok (.getfield 7, 3) := by decide +kernel
theorem dX7_keep_35 : decode cX7_keep 35 = .ok (.iload_n 2, 1) := by decide +kernel
theorem dX7_keep_36 : decode cX7_keep 36 = .ok (.iaload, 1) := by decide +kernel
theorem dX7_keep_37 : decode cX7_keep 37 = .ok (.iastore, 1) := by decide +kernel
theorem dX7_keep_38 : decode cX7_keep 38 = .ok (.iinc 2 1, 3) := by decide +kernel
theorem dX7_keep_41 : decode cX7_keep 41 = .ok (.goto (-28), 3) := by decide +kernel
theorem dX7_keep_44 : decode cX7_keep 44 = .ok (.aload_n 0, 1) := by decide +kernel
theorem dX7_keep_45 : decode cX7_keep 45 = .ok (.getfield 19, 3) := by decide +kernel
theorem dX7_keep_48 : decode cX7_keep 48 = .ok (.iload_n 1, 1) := by decide +kernel
theorem dX7_keep_49 : decode cX7_keep 49 = .ok (.iconst 1, 1) := by decide +kernel
theorem dX7_keep_50 : decode cX7_keep 50 = .ok (.bastore, 1) := by decide +kernel
theorem dX7_keep_51 : decode cX7_keep 51 = .ok (.aload_n 0, 1) := by decide +kernel
theorem dX7_keep_52 : decode cX7_keep 52 = .ok (.getfield 7, 3) := by decide +kernel
theorem dX7_keep_55 : decode cX7_keep 55 = .ok (.iconst 0, 1) := by decide +kernel
theorem dX7_keep_56 : decode cX7_keep 56 = .ok (.iaload, 1) := by decide +kernel
theorem dX7_keep_57 : decode cX7_keep 57 = .ok (.ireturn, 1) := by decide +kernel
theorem dX7_back_0 : decode cX7_back 0 = .ok (.iload_n 1, 1) := by decide +kernel
theorem dX7_back_1 : decode cX7_back 1 = .ok (.iconst 0, 1) := by decide +kernel
theorem dX7_back_2 : decode cX7_back 2 = .ok (.iconst 1, 1) := by decide +kernel
theorem dX7_back_3 : decode cX7_back 3 = .ok (.invokestatic 38, 3) := by decide +kernel
theorem dX7_back_6 : decode cX7_back 6 = .ok (.ifCond .ne 5, 3) := by decide +kernel
theorem dX7_back_9 : decode cX7_back 9 = .ok (.iconst (-1), 1) := by decide +kernel
theorem dX7_back_10 : decode cX7_back 10 = .ok (.ireturn, 1) := by decide +kernel
theorem dX7_back_11 : decode cX7_back 11 = .ok (.aload_n 0, 1) := by decide +kernel
theorem dX7_back_12 : decode cX7_back 12 = .ok (.getfield 19, 3) := by decide +kernel
theorem dX7_back_15 : decode cX7_back 15 = .ok (.iload_n 1, 1) := by decide +kernel
theorem dX7_back_16 : decode cX7_back 16 = .ok (.baload, 1) := by decide +kernel
theorem dX7_back_17 : decode cX7_back 17 = .ok (.ifCond .ne 6, 3) := by decide +kernel
theorem dX7_back_20 : decode cX7_back 20 = .ok (.bipush (-2), 2) := by decide +kernel
theorem dX7_back_22 : decode cX7_back 22 = .ok (.ireturn, 1) := by decide +kernel
theorem dX7_back_23 : decode cX7_back 23 = .ok (.iconst 0, 1) := by decide +kernel
theorem dX7_back_24 : decode cX7_back 24 = .ok (.istore_n 2, 1) := by decide +kernel
theorem dX7_back_25 : decode cX7_back 25 = .ok (.iload_n 2, 1) := by decide +kernel
theorem dX7_back_26 : decode cX7_back 26 = .ok (.sipush 541, 3) := by decide +kernel
theorem dX7_back_29 : decode cX7_back 29 = .ok (.if_icmp .ge 27, 3) := by decide +kernel
theorem dX7_back_32 : decode cX7_back 32 = .ok (.aload_n 0, 1) := by decide +kernel
theorem dX7_back_33 : decode cX7_back 33 = .ok (.getfield 7, 3) := by decide +kernel
theorem dX7_back_36 : decode cX7_back 36 = .ok (.iload_n 2, 1) := by decide +kernel
theorem dX7_back_37 : decode cX7_back 37 = .ok (.aload_n 0, 1) := by decide +kernel
theorem dX7_back_38 : decode cX7_back 38 = .ok (.getfield 16, 3) := by decide +kernel
theorem dX7_back_41 : decode cX7_back 41 = .ok (.sipush 541, 3) := by decide +kernel
theorem dX7_back_44 : decode cX7_back 44 = .ok (.iload_n 1, 1) := by decide +kernel
theorem dX7_back_45 : decode cX7_back 45 = .ok (.imul, 1) := by decide +kernel
theorem dX7_back_46 : decode cX7_back 46 = .ok (.iload_n 2, 1) := by decide +kernel
theorem dX7_back_47 : decode cX7_back 47 = .ok (.iadd, 1) := by decide +kernel
theorem dX7_back_48 : decode cX7_back 48 = .ok (.iaload, 1) := by decide +kernel
theorem dX7_back_49 : decode cX7_back 49 = .ok (.iastore, 1) := by decide +kernel
theorem dX7_back_50 : decode cX7_back 50 = .ok (.iinc 2 1, 3) := by decide +kernel
theorem dX7_back_53 : decode cX7_back 53 = .ok (.goto (-28), 3) := by decide +kernel
theorem dX7_back_56 : decode cX7_back 56 = .ok (.aload_n 0, 1) := by decide +kernel
theorem dX7_back_57 : decode cX7_back 57 = .ok (.iconst 0, 1) := by decide +kernel
theorem dX7_back_58 : decode cX7_back 58 = .ok (.putfield 61, 3) := by decide +kernel
theorem dX7_back_61 : decode cX7_back 61 = .ok (.aload_n 0, 1) := by decide +kernel
theorem dX7_back_62 : decode cX7_back 62 = .ok (.iconst 0, 1) := by decide +kernel
theorem dX7_back_63 : decode cX7_back 63 = .ok (.putfield 76, 3) := by decide +kernel
theorem dX7_back_66 : decode cX7_back 66 = .ok (.aload_n 0, 1) := by decide +kernel
theorem dX7_back_67 : decode cX7_back 67 = .ok (.getfield 7, 3) := by decide +kernel
theorem dX7_back_70 : decode cX7_back 70 = .ok (.iconst 0, 1) := by decide +kernel
theorem dX7_back_71 : decode cX7_back 71 = .ok (.iaload, 1) := by decide +kernel
theorem dX7_back_72 : decode cX7_back 72 = .ok (.ireturn, 1) := by decide +kernel
theorem dX7_count_0 : decode cX7_count 0 = .ok (.iconst 0, 1) := by decide +kernel
theorem dX7_count_1 : decode cX7_count 1 = .ok (.istore_n 2, 1) := by decide +kernel
theorem dX7_count_2 : decode cX7_count 2 = .ok (.iload_n 1, 1) := by decide +kernel
theorem dX7_count_3 : decode cX7_count 3 = .ok (.tableswitch 150 0 11 #[61, 61, 61, 61, 74, 79, 116, 123, 128, 135, 140, 145], 61) := by decide +kernel
theorem dX7_count_64 : decode cX7_count 64 = .ok (.aload_n 0, 1) := by decide +kernel
theorem dX7_count_65 : decode cX7_count 65 = .ok (.iconst 0, 1) := by decide +kernel
theorem dX7_count_66 : decode cX7_count 66 = .ok (.aload_n 0, 1) := by decide +kernel
theorem dX7_count_67 : decode cX7_count 67 = .ok (.getfield 7, 3) := by decide +kernel
theorem dX7_count_70 : decode cX7_count 70 = .ok (.iconst 0, 1) := by decide +kernel
theorem dX7_count_71 : decode cX7_count 71 = .ok (.iaload, 1) := by decide +kernel
theorem dX7_count_72 : decode cX7_count 72 = .ok (.iload_n 1, 1) := by decide +kernel
theorem dX7_count_73 : decode cX7_count 73 = .ok (.invokevirtual 96, 3) := by decide +kernel
theorem dX7_count_76 : decode cX7_count 76 = .ok (.ireturn, 1) := by decide +kernel
theorem dX7_count_77 : decode cX7_count 77 = .ok (.aload_n 0, 1) := by decide +kernel
theorem dX7_count_78 : decode cX7_count 78 = .ok (.invokevirtual 106, 3) := by decide +kernel
theorem dX7_count_81 : decode cX7_count 81 = .ok (.ireturn, 1) := by decide +kernel
theorem dX7_count_82 : decode cX7_count 82 = .ok (.iconst 0, 1) := by decide +kernel
theorem dX7_count_83 : decode cX7_count 83 = .ok (.istore_n 3, 1) := by decide +kernel
theorem dX7_count_84 : decode cX7_count 84 = .ok (.iload_n 3, 1) := by decide +kernel
theorem dX7_count_85 : decode cX7_count 85 = .ok (.aload_n 0, 1) := by decide +kernel
theorem dX7_count_86 : decode cX7_count 86 = .ok (.invokevirtual 106, 3) := by decide +kernel
theorem dX7_count_89 : decode cX7_count 89 = .ok (.if_icmp .ge 28, 3) := by decide +kernel
theorem dX7_count_92 : decode cX7_count 92 = .ok (.aload_n 0, 1) := by decide +kernel
theorem dX7_count_93 : decode cX7_count 93 = .ok (.iload_n 3, 1) := by decide +kernel
theorem dX7_count_94 : decode cX7_count 94 = .ok (.invokevirtual 116, 3) := by decide +kernel
theorem dX7_count_97 : decode cX7_count 97 = .ok (.iload_n 2, 1) := by decide +kernel
theorem dX7_count_98 : decode cX7_count 98 = .ok (.if_icmp .le 11, 3) := by decide +kernel
theorem dX7_count_101 : decode cX7_count 101 = .ok (.aload_n 0, 1) := by decide +kernel
theorem dX7_count_102 : decode cX7_count 102 = .ok (.iload_n 3, 1) := by decide +kernel
theorem dX7_count_103 : decode cX7_count 103 = .ok (.invokevirtual 116, 3) := by decide +kernel
theorem dX7_count_106 : decode cX7_count 106 = .ok (.goto 4, 3) := by decide +kernel
theorem dX7_count_109 : decode cX7_count 109 = .ok (.iload_n 2, 1) := by decide +kernel
theorem dX7_count_110 : decode cX7_count 110 = .ok (.istore_n 2, 1) := by decide +kernel
theorem dX7_count_111 : decode cX7_count 111 = .ok (.iinc 3 1, 3) := by decide +kernel
theorem dX7_count_114 : decode cX7_count 114 = .ok (.goto (-30), 3) := by decide +kernel
theorem dX7_count_117 : decode cX7_count 117 = .ok (.iload_n 2, 1) := by decide +kernel
theorem dX7_count_118 : decode cX7_count 118 = .ok (.ireturn, 1) := by decide +kernel
theorem dX7_count_119 : decode cX7_count 119 = .ok (.aload_n 0, 1) := by decide +kernel
theorem dX7_count_120 : decode cX7_count 120 = .ok (.getfield 7, 3) := by decide +kernel
theorem dX7_count_123 : decode cX7_count 123 = .ok (.iconst 1, 1) := by decide +kernel
theorem dX7_count_124 : decode cX7_count 124 = .ok (.iaload, 1) := by decide +kernel
theorem dX7_count_125 : decode cX7_count 125 = .ok (.ireturn, 1) := by decide +kernel
theorem dX7_count_126 : decode cX7_count 126 = .ok (.aload_n 0, 1) := by decide +kernel
theorem dX7_count_127 : decode cX7_count 127 = .ok (.invokevirtual 122, 3) := by decide +kernel
theorem dX7_count_130 : decode cX7_count 130 = .ok (.ireturn, 1) := by decide +kernel
theorem dX7_count_131 : decode cX7_count 131 = .ok (.aload_n 0, 1) := by decide +kernel
theorem dX7_count_132 : decode cX7_count 132 = .ok (.getfield 7, 3) := by decide +kernel
theorem dX7_count_135 : decode cX7_count 135 = .ok (.iconst 2, 1) := by decide +kernel
theorem dX7_count_136 : decode cX7_count 136 = .ok (.iaload, 1) := by decide +kernel
theorem dX7_count_137 : decode cX7_count 137 = .ok (.ireturn, 1) := by decide +kernel
theorem dX7_count_138 : decode cX7_count 138 = .ok (.aload_n 0, 1) := by decide +kernel
theorem dX7_count_139 : decode cX7_count 139 = .ok (.getfield 65, 3) := by decide +kernel
theorem dX7_count_142 : decode cX7_count 142 = .ok (.ireturn, 1) := by decide +kernel
theorem dX7_count_143 : decode cX7_count 143 = .ok (.aload_n 0, 1) := by decide +kernel
theorem dX7_count_144 : decode cX7_count 144 = .ok (.getfield 76, 3) := by decide +kernel
theorem dX7_count_147 : decode cX7_count 147 = .ok (.ireturn, 1) := by decide +kernel
theorem dX7_count_148 : decode cX7_count 148 = .ok (.aload_n 0, 1) := by decide +kernel
theorem dX7_count_149 : decode cX7_count 149 = .ok (.getfield 61, 3) := by decide +kernel
theorem dX7_count_152 : decode cX7_count 152 = .ok (.ireturn, 1) := by decide +kernel
theorem dX7_count_153 : decode cX7_count 153 = .ok (.iconst (-1), 1) := by decide +kernel
theorem dX7_count_154 : decode cX7_count 154 = .ok (.ireturn, 1) := by decide +kernel
theorem dX7_digest_0 : decode cX7_digest 0 = .ok (.ldc2_w 128, 3) := by decide +kernel
theorem dX7_digest_3 : decode cX7_digest 3 = .ok (.lstore_n 1, 1) := by decide +kernel
theorem dX7_digest_4 : decode cX7_digest 4 = .ok (.iconst 0, 1) := by decide +kernel
theorem dX7_digest_5 : decode cX7_digest 5 = .ok (.istore_n 3, 1) := by decide +kernel
theorem dX7_digest_6 : decode cX7_digest 6 = .ok (.iload_n 3, 1) := by decide +kernel
theorem dX7_digest_7 : decode cX7_digest 7 = .ok (.aload_n 0, 1) := by decide +kernel
theorem dX7_digest_8 : decode cX7_digest 8 = .ok (.getfield 7, 3) := by decide +kernel
theorem dX7_digest_11 : decode cX7_digest 11 = .ok (.iconst 0, 1) := by decide +kernel
theorem dX7_digest_12 : decode cX7_digest 12 = .ok (.iaload, 1) := by decide +kernel
theorem dX7_digest_13 : decode cX7_digest 13 = .ok (.if_icmp .ge 22, 3) := by decide +kernel
theorem dX7_digest_16 : decode cX7_digest 16 = .ok (.ldc2_w 130, 3) := by decide +kernel
theorem dX7_digest_19 : decode cX7_digest 19 = .ok (.lload_n 1, 1) := by decide +kernel
theorem dX7_digest_20 : decode cX7_digest 20 = .ok (.lmul, 1) := by decide +kernel
theorem dX7_digest_21 : decode cX7_digest 21 = .ok (.aload_n 0, 1) := by decide +kernel
theorem dX7_digest_22 : decode cX7_digest 22 = .ok (.iload_n 3, 1) := by decide +kernel
theorem dX7_digest_23 : decode cX7_digest 23 = .ok (.invokevirtual 89, 3) := by decide +kernel
theorem dX7_digest_26 : decode cX7_digest 26 = .ok (.i2l, 1) := by decide +kernel
theorem dX7_digest_27 : decode cX7_digest 27 = .ok (.ladd, 1) := by decide +kernel
theorem dX7_digest_28 : decode cX7_digest 28 = .ok (.lstore_n 1, 1) := by decide +kernel
theorem dX7_digest_29 : decode cX7_digest 29 = .ok (.iinc 3 1, 3) := by decide +kernel
theorem dX7_digest_32 : decode cX7_digest 32 = .ok (.goto (-26), 3) := by decide +kernel
theorem dX7_digest_35 : decode cX7_digest 35 = .ok (.iconst 0, 1) := by decide +kernel
theorem dX7_digest_36 : decode cX7_digest 36 = .ok (.istore_n 3, 1) := by decide +kernel
theorem dX7_digest_37 : decode cX7_digest 37 = .ok (.iload_n 3, 1) := by decide +kernel
theorem dX7_digest_38 : decode cX7_digest 38 = .ok (.aload_n 0, 1) := by decide +kernel
theorem dX7_digest_39 : decode cX7_digest 39 = .ok (.getfield 7, 3) := by decide +kernel
theorem dX7_digest_42 : decode cX7_digest 42 = .ok (.iconst 1, 1) := by decide +kernel
theorem dX7_digest_43 : decode cX7_digest 43 = .ok (.iaload, 1) := by decide +kernel
theorem dX7_digest_44 : decode cX7_digest 44 = .ok (.if_icmp .ge 27, 3) := by decide +kernel
theorem dX7_digest_47 : decode cX7_digest 47 = .ok (.ldc2_w 130, 3) := by decide +kernel
theorem dX7_digest_50 : decode cX7_digest 50 = .ok (.lload_n 1, 1) := by decide +kernel
theorem dX7_digest_51 : decode cX7_digest 51 = .ok (.lmul, 1) := by decide +kernel
theorem dX7_digest_52 : decode cX7_digest 52 = .ok (.aload_n 0, 1) := by decide +kernel
theorem dX7_digest_53 : decode cX7_digest 53 = .ok (.getfield 7, 3) := by decide +kernel
theorem dX7_digest_56 : decode cX7_digest 56 = .ok (.sipush 259, 3) := by decide +kernel
theorem dX7_digest_59 : decode cX7_digest 59 = .ok (.iload_n 3, 1) := by decide +kernel
theorem dX7_digest_60 : decode cX7_digest 60 = .ok (.iadd, 1) := by decide +kernel
theorem dX7_digest_61 : decode cX7_digest 61 = .ok (.iaload, 1) := by decide +kernel
theorem dX7_digest_62 : decode cX7_digest 62 = .ok (.i2l, 1) := by decide +kernel
theorem dX7_digest_63 : decode cX7_digest 63 = .ok (.ladd, 1) := by decide +kernel
theorem dX7_digest_64 : decode cX7_digest 64 = .ok (.lstore_n 1, 1) := by decide +kernel
theorem dX7_digest_65 : decode cX7_digest 65 = .ok (.iinc 3 1, 3) := by decide +kernel
theorem dX7_digest_68 : decode cX7_digest 68 = .ok (.goto (-31), 3) := by decide +kernel
theorem dX7_digest_71 : decode cX7_digest 71 = .ok (.iconst 0, 1) := by decide +kernel
theorem dX7_digest_72 : decode cX7_digest 72 = .ok (.istore_n 3, 1) := by decide +kernel
theorem dX7_digest_73 : decode cX7_digest 73 = .ok (.iload_n 3, 1) := by decide +kernel
theorem dX7_digest_74 : decode cX7_digest 74 = .ok (.bipush 26, 2) := by decide +kernel
theorem dX7_digest_76 : decode cX7_digest 76 = .ok (.if_icmp .ge 53, 3) := by decide +kernel
theorem dX7_digest_79 : decode cX7_digest 79 = .ok (.aload_n 0, 1) := by decide +kernel
theorem dX7_digest_80 : decode cX7_digest 80 = .ok (.getfield 7, 3) := by decide +kernel
theorem dX7_digest_83 : decode cX7_digest 83 = .ok (.sipush 515, 3) := by decide +kernel
theorem dX7_digest_86 : decode cX7_digest 86 = .ok (.iload_n 3, 1) := by decide +kernel
theorem dX7_digest_87 : decode cX7_digest 87 = .ok (.iadd, 1) := by decide +kernel
theorem dX7_digest_88 : decode cX7_digest 88 = .ok (.iaload, 1) := by decide +kernel
theorem dX7_digest_89 : decode cX7_digest 89 = .ok (.ifCond .lt 34, 3) := by decide +kernel
theorem dX7_digest_92 : decode cX7_digest 92 = .ok (.ldc2_w 130, 3) := by decide +kernel
theorem dX7_digest_95 : decode cX7_digest 95 = .ok (.lload_n 1, 1) := by decide +kernel
theorem dX7_digest_96 : decode cX7_digest 96 = .ok (.lmul, 1) := by decide +kernel
theorem dX7_digest_97 : decode cX7_digest 97 = .ok (.ldc2_w 132, 3) := by decide +kernel
theorem dX7_digest_100 : decode cX7_digest 100 = .ok (.ladd, 1) := by decide +kernel
theorem dX7_digest_101 : decode cX7_digest 101 = .ok (.iload_n 3, 1) := by decide +kernel
theorem dX7_digest_102 : decode cX7_digest 102 = .ok (.i2l, 1) := by decide +kernel
theorem dX7_digest_103 : decode cX7_digest 103 = .ok (.ladd, 1) := by decide +kernel
theorem dX7_digest_104 : decode cX7_digest 104 = .ok (.lstore_n 1, 1) := by decide +kernel
theorem dX7_digest_105 : decode cX7_digest 105 = .ok (.ldc2_w 130, 3) := by decide +kernel
theorem dX7_digest_108 : decode cX7_digest 108 = .ok (.lload_n 1, 1) := by decide +kernel
theorem dX7_digest_109 : decode cX7_digest 109 = .ok (.lmul, 1) := by decide +kernel
theorem dX7_digest_110 : decode cX7_digest 110 = .ok (.aload_n 0, 1) := by decide +kernel
theorem dX7_digest_111 : decode cX7_digest 111 = .ok (.getfield 7, 3) := by decide +kernel
theorem dX7_digest_114 : decode cX7_digest 114 = .ok (.sipush 515, 3) := by decide +kernel
theorem dX7_digest_117 : decode cX7_digest 117 = .ok (.iload_n 3, 1) := by decide +kernel
theorem dX7_digest_118 : decode cX7_digest 118 = .ok (.iadd, 1) := by decide +kernel
theorem dX7_digest_119 : decode cX7_digest 119 = .ok (.iaload, 1) := by decide +kernel
theorem dX7_digest_120 : decode cX7_digest 120 = .ok (.i2l, 1) := by decide +kernel
theorem dX7_digest_121 : decode cX7_digest 121 = .ok (.ladd, 1) := by decide +kernel
theorem dX7_digest_122 : decode cX7_digest 122 = .ok (.lstore_n 1, 1) := by decide +kernel
theorem dX7_digest_123 : decode cX7_digest 123 = .ok (.iinc 3 1, 3) := by decide +kernel
theorem dX7_digest_126 : decode cX7_digest 126 = .ok (.goto (-53), 3) := by decide +kernel
theorem dX7_digest_129 : decode cX7_digest 129 = .ok (.lload_n 1, 1) := by decide +kernel
theorem dX7_digest_130 : decode cX7_digest 130 = .ok (.lreturn, 1) := by decide +kernel
end
section
theorem dL_law_0 : decode cL_law 0 = .ok (.new 7, 3) := by decide +kernel
theorem dL_law_3 : decode cL_law 3 = .ok (.dup, 1) := by decide +kernel
theorem dL_law_4 : decode cL_law 4 = .ok (.invokespecial 9, 3) := by decide +kernel
theorem dL_law_7 : decode cL_law 7 = .ok (.astore_n 1, 1) := by decide +kernel
theorem dL_law_8 : decode cL_law 8 = .ok (.new 10, 3) := by decide +kernel
theorem dL_law_11 : decode cL_law 11 = .ok (.dup, 1) := by decide +kernel
theorem dL_law_12 : decode cL_law 12 = .ok (.invokespecial 12, 3) := by decide +kernel
theorem dL_law_15 : decode cL_law 15 = .ok (.astore_n 2, 1) := by decide +kernel
theorem dL_law_16 : decode cL_law 16 = .ok (.iconst 0, 1) := by decide +kernel
theorem dL_law_17 : decode cL_law 17 = .ok (.istore_n 3, 1) := by decide +kernel
theorem dL_law_18 : decode cL_law 18 = .ok (.iload_n 3, 1) := by decide +kernel
theorem dL_law_19 : decode cL_law 19 = .ok (.aload_n 0, 1) := by decide +kernel
theorem dL_law_20 : decode cL_law 20 = .ok (.arraylength, 1) := by decide +kernel
theorem dL_law_21 : decode cL_law 21 = .ok (.iconst 4, 1) := by decide +kernel
theorem dL_law_22 : decode cL_law 22 = .ok (.isub, 1) := by decide +kernel
theorem dL_law_23 : decode cL_law 23 = .ok (.if_icmp .gt 710, 3) := by decide +kernel
theorem dL_law_26 : decode cL_law 26 = .ok (.aload_n 0, 1) := by decide +kernel
theorem dL_law_27 : decode cL_law 27 = .ok (.iload_n 3, 1) := by decide +kernel
theorem dL_law_28 : decode cL_law 28 = .ok (.iaload, 1) := by decide +kernel
theorem dL_law_29 : decode cL_law 29 = .ok (.bipush 31, 2) := by decide +kernel
theorem dL_law_31 : decode cL_law 31 = .ok (.iand, 1) := by decide +kernel
theorem dL_law_32 : decode cL_law 32 = .ok (.tableswitch 695 0 23 #[112, 135, 148, 181, 214, 227, 240, 253, 276, 319, 352, 385, 418, 441, 474, 507, 530, 553, 576, 599, 612, 635, 658, 681], 112) := by decide +kernel
theorem dL_law_144 : decode cL_law 144 = .ok (.aload_n 1, 1) := by decide +kernel
theorem dL_law_145 : decode cL_law 145 = .ok (.aload_n 0, 1) := by decide +kernel
theorem dL_law_146 : decode cL_law 146 = .ok (.iload_n 3, 1) := by decide +kernel
theorem dL_law_147 : decode cL_law 147 = .ok (.iconst 1, 1) := by decide +kernel
theorem dL_law_148 : decode cL_law 148 = .ok (.iadd, 1) := by decide +kernel
theorem dL_law_149 : decode cL_law 149 = .ok (.iaload, 1) := by decide +kernel
theorem dL_law_150 : decode cL_law 150 = .ok (.invokevirtual 13, 3) := by decide +kernel
theorem dL_law_153 : decode cL_law 153 = .ok (.aload_n 2, 1) := by decide +kernel
theorem dL_law_154 : decode cL_law 154 = .ok (.aload_n 0, 1) := by decide +kernel
theorem dL_law_155 : decode cL_law 155 = .ok (.iload_n 3, 1) := by decide +kernel
theorem dL_law_156 : decode cL_law 156 = .ok (.iconst 1, 1) := by decide +kernel
theorem dL_law_157 : decode cL_law 157 = .ok (.iadd, 1) := by decide +kernel
theorem dL_law_158 : decode cL_law 158 = .ok (.iaload, 1) := by decide +kernel
theorem dL_law_159 : decode cL_law 159 = .ok (.invokevirtual 17, 3) := by decide +kernel
theorem dL_law_162 : decode cL_law 162 = .ok (.if_icmp .eq 565, 3) := by decide +kernel
theorem dL_law_165 : decode cL_law 165 = .ok (.iconst 0, 1) := by decide +kernel
theorem dL_law_166 : decode cL_law 166 = .ok (.ireturn, 1) := by decide +kernel
theorem dL_law_167 : decode cL_law 167 = .ok (.aload_n 1, 1) := by decide +kernel
theorem dL_law_168 : decode cL_law 168 = .ok (.invokevirtual 18, 3) := by decide +kernel
theorem dL_law_171 : decode cL_law 171 = .ok (.aload_n 2, 1) := by decide +kernel
theorem dL_law_172 : decode cL_law 172 = .ok (.invokevirtual 22, 3) := by decide +kernel
theorem dL_law_175 : decode cL_law 175 = .ok (.if_icmp .eq 552, 3) := by decide +kernel
theorem dL_law_178 : decode cL_law 178 = .ok (.iconst 0, 1) := by decide +kernel
theorem dL_law_179 : decode cL_law 179 = .ok (.ireturn, 1) := by decide +kernel
theorem dL_law_180 : decode cL_law 180 = .ok (.aload_n 1, 1) := by decide +kernel
theorem dL_law_181 : decode cL_law 181 = .ok (.aload_n 0, 1) := by decide +kernel
theorem dL_law_182 : decode cL_law 182 = .ok (.iload_n 3, 1) := by decide +kernel
theorem dL_law_183 : decode cL_law 183 = .ok (.iconst 1, 1) := by decide +kernel
theorem dL_law_184 : decode cL_law 184 = .ok (.iadd, 1) := by decide +kernel
theorem dL_law_185 : decode cL_law 185 = .ok (.iaload, 1) := by decide +kernel
theorem dL_law_186 : decode cL_law 186 = .ok (.aload_n 0, 1) := by decide +kernel
theorem dL_law_187 : decode cL_law 187 = .ok (.iload_n 3, 1) := by decide +kernel
theorem dL_law_188 : decode cL_law 188 = .ok (.iconst 2, 1) := by decide +kernel
theorem dL_law_189 : decode cL_law 189 = .ok (.iadd, 1) := by decide +kernel
theorem dL_law_190 : decode cL_law 190 = .ok (.iaload, 1) := by decide +kernel
theorem dL_law_191 : decode cL_law 191 = .ok (.invokevirtual 23, 3) := by decide +kernel
theorem dL_law_194 : decode cL_law 194 = .ok (.aload_n 2, 1) := by decide +kernel
theorem dL_law_195 : decode cL_law 195 = .ok (.aload_n 0, 1) := by decide +kernel
theorem dL_law_196 : decode cL_law 196 = .ok (.iload_n 3, 1) := by decide +kernel
theorem dL_law_197 : decode cL_law 197 = .ok (.iconst 1, 1) := by decide +kernel
theorem dL_law_198 : decode cL_law 198 = .ok (.iadd, 1) := by decide +kernel
theorem dL_law_199 : decode cL_law 199 = .ok (.iaload, 1) := by decide +kernel
theorem dL_law_200 : decode cL_law 200 = .ok (.aload_n 0, 1) := by decide +kernel
theorem dL_law_201 : decode cL_law 201 = .ok (.iload_n 3, 1) := by decide +kernel
theorem dL_law_202 : decode cL_law 202 = .ok (.iconst 2, 1) := by decide +kernel
theorem dL_law_203 : decode cL_law 203 = .ok (.iadd, 1) := by decide +kernel
theorem dL_law_204 : decode cL_law 204 = .ok (.iaload, 1) := by decide +kernel
theorem dL_law_205 : decode cL_law 205 = .ok (.invokevirtual 27, 3) := by decide +kernel
theorem dL_law_208 : decode cL_law 208 = .ok (.if_icmp .eq 519, 3) := by decide +kernel
theorem dL_law_211 : decode cL_law 211 = .ok (.iconst 0, 1) := by decide +kernel
theorem dL_law_212 : decode cL_law 212 = .ok (.ireturn, 1) := by decide +kernel
theorem dL_law_213 : decode cL_law 213 = .ok (.aload_n 1, 1) := by decide +kernel
theorem dL_law_214 : decode cL_law 214 = .ok (.aload_n 0, 1) := by decide +kernel
theorem dL_law_215 : decode cL_law 215 = .ok (.iload_n 3, 1) := by decide +kernel
theorem dL_law_216 : decode cL_law 216 = .ok (.iconst 1, 1) := by decide +kernel
theorem dL_law_217 : decode cL_law 217 = .ok (.iadd, 1) := by decide +kernel
theorem dL_law_218 : decode cL_law 218 = .ok (.iaload, 1) := by decide +kernel
theorem dL_law_219 : decode cL_law 219 = .ok (.aload_n 0, 1) := by decide +kernel
theorem dL_law_220 : decode cL_law 220 = .ok (.iload_n 3, 1) := by decide +kernel
theorem dL_law_221 : decode cL_law 221 = .ok (.iconst 2, 1) := by decide +kernel
theorem dL_law_222 : decode cL_law 222 = .ok (.iadd, 1) := by decide +kernel
theorem dL_law_223 : decode cL_law 223 = .ok (.iaload, 1) := by decide +kernel
theorem dL_law_224 : decode cL_law 224 = .ok (.invokevirtual 28, 3) := by decide +kernel
theorem dL_law_227 : decode cL_law 227 = .ok (.aload_n 2, 1) := by decide +kernel
theorem dL_law_228 : decode cL_law 228 = .ok (.aload_n 0, 1) := by decide +kernel
theorem dL_law_229 : decode cL_law 229 = .ok (.iload_n 3, 1) := by decide +kernel
theorem dL_law_230 : decode cL_law 230 = .ok (.iconst 1, 1) := by decide +kernel
theorem dL_law_231 : decode cL_law 231 = .ok (.iadd, 1) := by decide +kernel
theorem dL_law_232 : decode cL_law 232 = .ok (.iaload, 1) := by decide +kernel
theorem dL_law_233 : decode cL_law 233 = .ok (.aload_n 0, 1) := by decide +kernel
theorem dL_law_234 : decode cL_law 234 = .ok (.iload_n 3, 1) := by decide +kernel
theorem dL_law_235 : decode cL_law 235 = .ok (.iconst 2, 1) := by decide +kernel
theorem dL_law_236 : decode cL_law 236 = .ok (.iadd, 1) := by decide +kernel
theorem dL_law_237 : decode cL_law 237 = .ok (.iaload, 1) := by decide +kernel
theorem dL_law_238 : decode cL_law 238 = .ok (.invokevirtual 31, 3) := by decide +kernel
theorem dL_law_241 : decode cL_law 241 = .ok (.if_icmp .eq 486, 3) := by decide +kernel
theorem dL_law_244 : decode cL_law 244 = .ok (.iconst 0, 1) := by decide +kernel
theorem dL_law_245 : decode cL_law 245 = .ok (.ireturn, 1) := by decide +kernel
theorem dL_law_246 : decode cL_law 246 = .ok (.aload_n 1, 1) := by decide +kernel
theorem dL_law_247 : decode cL_law 247 = .ok (.invokevirtual 32, 3) := by decide +kernel
theorem dL_law_250 : decode cL_law 250 = .ok (.aload_n 2, 1) := by decide +kernel
theorem dL_law_251 : decode cL_law 251 = .ok (.invokevirtual 35, 3) := by decide +kernel
theorem dL_law_254 : decode cL_law 254 = .ok (.if_icmp .eq 473, 3) := by decide +kernel
theorem dL_law_257 : decode cL_law 257 = .ok (.iconst 0, 1) := by decide +kernel
theorem dL_law_258 : decode cL_law 258 = .ok (.ireturn, 1) := by decide +kernel
theorem dL_law_259 : decode cL_law 259 = .ok (.aload_n 1, 1) := by decide +kernel
theorem dL_law_260 : decode cL_law 260 = .ok (.invokevirtual 36, 3) := by decide +kernel
theorem dL_law_263 : decode cL_law 263 = .ok (.aload_n 2, 1) := by decide +kernel
theorem dL_law_264 : decode cL_law 264 = .ok (.invokevirtual 39, 3) := by decide +kernel
theorem dL_law_267 : decode cL_law 267 = .ok (.if_icmp .eq 460, 3) := by decide +kernel
theorem dL_law_270 : decode cL_law 270 = .ok (.iconst 0, 1) := by decide +kernel
theorem dL_law_271 : decode cL_law 271 = .ok (.ireturn, 1) := by decide +kernel
theorem dL_law_272 : decode cL_law 272 = .ok (.aload_n 1, 1) := by decide +kernel
theorem dL_law_273 : decode cL_law 273 = .ok (.invokevirtual 40, 3) := by decide +kernel
theorem dL_law_276 : decode cL_law 276 = .ok (.aload_n 2, 1) := by decide +kernel
theorem dL_law_277 : decode cL_law 277 = .ok (.invokevirtual 43, 3) := by decide +kernel
theorem dL_law_280 : decode cL_law 280 = .ok (.if_icmp .eq 447, 3) := by decide +kernel
theorem dL_law_283 : decode cL_law 283 = .ok (.iconst 0, 1) := by decide +kernel
theorem dL_law_284 : decode cL_law 284 = .ok (.ireturn, 1) := by decide +kernel
theorem dL_law_285 : decode cL_law 285 = .ok (.aload_n 1, 1) := by decide +kernel
theorem dL_law_286 : decode cL_law 286 = .ok (.aload_n 0, 1) := by decide +kernel
theorem dL_law_287 : decode cL_law 287 = .ok (.iload_n 3, 1) := by decide +kernel
theorem dL_law_288 : decode cL_law 288 = .ok (.iconst 1, 1) := by decide +kernel
theorem dL_law_289 : decode cL_law 289 = .ok (.iadd, 1) := by decide +kernel
theorem dL_law_290 : decode cL_law 290 = .ok (.iaload, 1) := by decide +kernel
theorem dL_law_291 : decode cL_law 291 = .ok (.invokevirtual 44, 3) := by decide +kernel
theorem dL_law_294 : decode cL_law 294 = .ok (.aload_n 2, 1) := by decide +kernel
theorem dL_law_295 : decode cL_law 295 = .ok (.aload_n 0, 1) := by decide +kernel
theorem dL_law_296 : decode cL_law 296 = .ok (.iload_n 3, 1) := by decide +kernel
theorem dL_law_297 : decode cL_law 297 = .ok (.iconst 1, 1) := by decide +kernel
theorem dL_law_298 : decode cL_law 298 = .ok (.iadd, 1) := by decide +kernel
theorem dL_law_299 : decode cL_law 299 = .ok (.iaload, 1) := by decide +kernel
theorem dL_law_300 : decode cL_law 300 = .ok (.invokevirtual 47, 3) := by decide +kernel
theorem dL_law_303 : decode cL_law 303 = .ok (.if_icmp .eq 424, 3) := by decide +kernel
theorem dL_law_306 : decode cL_law 306 = .ok (.iconst 0, 1) := by decide +kernel
theorem dL_law_307 : decode cL_law 307 = .ok (.ireturn, 1) := by decide +kernel
theorem dL_law_308 : decode cL_law 308 = .ok (.aload_n 1, 1) := by decide +kernel
theorem dL_law_309 : decode cL_law 309 = .ok (.aload_n 0, 1) := by decide +kernel
theorem dL_law_310 : decode cL_law 310 = .ok (.iload_n 3, 1) := by decide +kernel
theorem dL_law_311 : decode cL_law 311 = .ok (.iconst 1, 1) := by decide +kernel
theorem dL_law_312 : decode cL_law 312 = .ok (.iadd, 1) := by decide +kernel
theorem dL_law_313 : decode cL_law 313 = .ok (.iaload, 1) := by decide +kernel
theorem dL_law_314 : decode cL_law 314 = .ok (.aload_n 0, 1) := by decide +kernel
theorem dL_law_315 : decode cL_law 315 = .ok (.iload_n 3, 1) := by decide +kernel
theorem dL_law_316 : decode cL_law 316 = .ok (.iconst 2, 1) := by decide +kernel
theorem dL_law_317 : decode cL_law 317 = .ok (.iadd, 1) := by decide +kernel
theorem dL_law_318 : decode cL_law 318 = .ok (.iaload, 1) := by decide +kernel
theorem dL_law_319 : decode cL_law 319 = .ok (.aload_n 0, 1) := by decide +kernel
theorem dL_law_320 : decode cL_law 320 = .ok (.iload_n 3, 1) := by decide +kernel
theorem dL_law_321 : decode cL_law 321 = .ok (.iconst 3, 1) := by decide +kernel
theorem dL_law_322 : decode cL_law 322 = .ok (.iadd, 1) := by decide +kernel
theorem dL_law_323 : decode cL_law 323 = .ok (.iaload, 1) := by decide +kernel
theorem dL_law_324 : decode cL_law 324 = .ok (.invokevirtual 48, 3) := by decide +kernel
theorem dL_law_327 : decode cL_law 327 = .ok (.aload_n 2, 1) := by decide +kernel
theorem dL_law_328 : decode cL_law 328 = .ok (.aload_n 0, 1) := by decide +kernel
theorem dL_law_329 : decode cL_law 329 = .ok (.iload_n 3, 1) := by decide +kernel
theorem dL_law_330 : decode cL_law 330 = .ok (.iconst 1, 1) := by decide +kernel
theorem dL_law_331 : decode cL_law 331 = .ok (.iadd, 1) := by decide +kernel
theorem dL_law_332 : decode cL_law 332 = .ok (.iaload, 1) := by decide +kernel
theorem dL_law_333 : decode cL_law 333 = .ok (.aload_n 0, 1) := by decide +kernel
theorem dL_law_334 : decode cL_law 334 = .ok (.iload_n 3, 1) := by decide +kernel
theorem dL_law_335 : decode cL_law 335 = .ok (.iconst 2, 1) := by decide +kernel
theorem dL_law_336 : decode cL_law 336 = .ok (.iadd, 1) := by decide +kernel
theorem dL_law_337 : decode cL_law 337 = .ok (.iaload, 1) := by decide +kernel
theorem dL_law_338 : decode cL_law 338 = .ok (.aload_n 0, 1) := by decide +kernel
theorem dL_law_339 : decode cL_law 339 = .ok (.iload_n 3, 1) := by decide +kernel
theorem dL_law_340 : decode cL_law 340 = .ok (.iconst 3, 1) := by decide +kernel
theorem dL_law_341 : decode cL_law 341 = .ok (.iadd, 1) := by decide +kernel
theorem dL_law_342 : decode cL_law 342 = .ok (.iaload, 1) := by decide +kernel
theorem dL_law_343 : decode cL_law 343 = .ok (.invokevirtual 52, 3) := by decide +kernel
theorem dL_law_346 : decode cL_law 346 = .ok (.if_icmp .eq 381, 3) := by decide +kernel
theorem dL_law_349 : decode cL_law 349 = .ok (.iconst 0, 1) := by decide +kernel
theorem dL_law_350 : decode cL_law 350 = .ok (.ireturn, 1) := by decide +kernel
theorem dL_law_351 : decode cL_law 351 = .ok (.aload_n 1, 1) := by decide +kernel
theorem dL_law_352 : decode cL_law 352 = .ok (.aload_n 0, 1) := by decide +kernel
theorem dL_law_353 : decode cL_law 353 = .ok (.iload_n 3, 1) := by decide +kernel
theorem dL_law_354 : decode cL_law 354 = .ok (.iconst 1, 1) := by decide +kernel
theorem dL_law_355 : decode cL_law 355 = .ok (.iadd, 1) := by decide +kernel
theorem dL_law_356 : decode cL_law 356 = .ok (.iaload, 1) := by decide +kernel
theorem dL_law_357 : decode cL_law 357 = .ok (.aload_n 0, 1) := by decide +kernel
theorem dL_law_358 : decode cL_law 358 = .ok (.iload_n 3, 1) := by decide +kernel
theorem dL_law_359 : decode cL_law 359 = .ok (.iconst 2, 1) := by decide +kernel
theorem dL_law_360 : decode cL_law 360 = .ok (.iadd, 1) := by decide +kernel
theorem dL_law_361 : decode cL_law 361 = .ok (.iaload, 1) := by decide +kernel
theorem dL_law_362 : decode cL_law 362 = .ok (.invokevirtual 53, 3) := by decide +kernel
theorem dL_law_365 : decode cL_law 365 = .ok (.aload_n 2, 1) := by decide +kernel
theorem dL_law_366 : decode cL_law 366 = .ok (.aload_n 0, 1) := by decide +kernel
theorem dL_law_367 : decode cL_law 367 = .ok (.iload_n 3, 1) := by decide +kernel
theorem dL_law_368 : decode cL_law 368 = .ok (.iconst 1, 1) := by decide +kernel
theorem dL_law_369 : decode cL_law 369 = .ok (.iadd, 1) := by decide +kernel
theorem dL_law_370 : decode cL_law 370 = .ok (.iaload, 1) := by decide +kernel
theorem dL_law_371 : decode cL_law 371 = .ok (.aload_n 0, 1) := by decide +kernel
theorem dL_law_372 : decode cL_law 372 = .ok (.iload_n 3, 1) := by decide +kernel
theorem dL_law_373 : decode cL_law 373 = .ok (.iconst 2, 1) := by decide +kernel
theorem dL_law_374 : decode cL_law 374 = .ok (.iadd, 1) := by decide +kernel
theorem dL_law_375 : decode cL_law 375 = .ok (.iaload, 1) := by decide +kernel
theorem dL_law_376 : decode cL_law 376 = .ok (.invokevirtual 56, 3) := by decide +kernel
theorem dL_law_379 : decode cL_law 379 = .ok (.if_icmp .eq 348, 3) := by decide +kernel
theorem dL_law_382 : decode cL_law 382 = .ok (.iconst 0, 1) := by decide +kernel
theorem dL_law_383 : decode cL_law 383 = .ok (.ireturn, 1) := by decide +kernel
theorem dL_law_384 : decode cL_law 384 = .ok (.aload_n 1, 1) := by decide +kernel
theorem dL_law_385 : decode cL_law 385 = .ok (.aload_n 0, 1) := by decide +kernel
theorem dL_law_386 : decode cL_law 386 = .ok (.iload_n 3, 1) := by decide +kernel
theorem dL_law_387 : decode cL_law 387 = .ok (.iconst 1, 1) := by decide +kernel
theorem dL_law_388 : decode cL_law 388 = .ok (.iadd, 1) := by decide +kernel
theorem dL_law_389 : decode cL_law 389 = .ok (.iaload, 1) := by decide +kernel
theorem dL_law_390 : decode cL_law 390 = .ok (.aload_n 0, 1) := by decide +kernel
theorem dL_law_391 : decode cL_law 391 = .ok (.iload_n 3, 1) := by decide +kernel
theorem dL_law_392 : decode cL_law 392 = .ok (.iconst 2, 1) := by decide +kernel
theorem dL_law_393 : decode cL_law 393 = .ok (.iadd, 1) := by decide +kernel
theorem dL_law_394 : decode cL_law 394 = .ok (.iaload, 1) := by decide +kernel
theorem dL_law_395 : decode cL_law 395 = .ok (.invokevirtual 57, 3) := by decide +kernel
theorem dL_law_398 : decode cL_law 398 = .ok (.aload_n 2, 1) := by decide +kernel
theorem dL_law_399 : decode cL_law 399 = .ok (.aload_n 0, 1) := by decide +kernel
theorem dL_law_400 : decode cL_law 400 = .ok (.iload_n 3, 1) := by decide +kernel
theorem dL_law_401 : decode cL_law 401 = .ok (.iconst 1, 1) := by decide +kernel
theorem dL_law_402 : decode cL_law 402 = .ok (.iadd, 1) := by decide +kernel
theorem dL_law_403 : decode cL_law 403 = .ok (.iaload, 1) := by decide +kernel
theorem dL_law_404 : decode cL_law 404 = .ok (.aload_n 0, 1) := by decide +kernel
theorem dL_law_405 : decode cL_law 405 = .ok (.iload_n 3, 1) := by decide +kernel
theorem dL_law_406 : decode cL_law 406 = .ok (.iconst 2, 1) := by decide +kernel
theorem dL_law_407 : decode cL_law 407 = .ok (.iadd, 1) := by decide +kernel
theorem dL_law_408 : decode cL_law 408 = .ok (.iaload, 1) := by decide +kernel
theorem dL_law_409 : decode cL_law 409 = .ok (.invokevirtual 60, 3) := by decide +kernel
theorem dL_law_412 : decode cL_law 412 = .ok (.if_icmp .eq 315, 3) := by decide +kernel
theorem dL_law_415 : decode cL_law 415 = .ok (.iconst 0, 1) := by decide +kernel
theorem dL_law_416 : decode cL_law 416 = .ok (.ireturn, 1) := by decide +kernel
theorem dL_law_417 : decode cL_law 417 = .ok (.aload_n 1, 1) := by decide +kernel
theorem dL_law_418 : decode cL_law 418 = .ok (.aload_n 0, 1) := by decide +kernel
theorem dL_law_419 : decode cL_law 419 = .ok (.iload_n 3, 1) := by decide +kernel
theorem dL_law_420 : decode cL_law 420 = .ok (.iconst 1, 1) := by decide +kernel
theorem dL_law_421 : decode cL_law 421 = .ok (.iadd, 1) := by decide +kernel
theorem dL_law_422 : decode cL_law 422 = .ok (.iaload, 1) := by decide +kernel
theorem dL_law_423 : decode cL_law 423 = .ok (.aload_n 0, 1) := by decide +kernel
theorem dL_law_424 : decode cL_law 424 = .ok (.iload_n 3, 1) := by decide +kernel
theorem dL_law_425 : decode cL_law 425 = .ok (.iconst 2, 1) := by decide +kernel
theorem dL_law_426 : decode cL_law 426 = .ok (.iadd, 1) := by decide +kernel
theorem dL_law_427 : decode cL_law 427 = .ok (.iaload, 1) := by decide +kernel
theorem dL_law_428 : decode cL_law 428 = .ok (.invokevirtual 61, 3) := by decide +kernel
theorem dL_law_431 : decode cL_law 431 = .ok (.aload_n 2, 1) := by decide +kernel
theorem dL_law_432 : decode cL_law 432 = .ok (.aload_n 0, 1) := by decide +kernel
theorem dL_law_433 : decode cL_law 433 = .ok (.iload_n 3, 1) := by decide +kernel
theorem dL_law_434 : decode cL_law 434 = .ok (.iconst 1, 1) := by decide +kernel
theorem dL_law_435 : decode cL_law 435 = .ok (.iadd, 1) := by decide +kernel
theorem dL_law_436 : decode cL_law 436 = .ok (.iaload, 1) := by decide +kernel
theorem dL_law_437 : decode cL_law 437 = .ok (.aload_n 0, 1) := by decide +kernel
theorem dL_law_438 : decode cL_law 438 = .ok (.iload_n 3, 1) := by decide +kernel
theorem dL_law_439 : decode cL_law 439 = .ok (.iconst 2, 1) := by decide +kernel
theorem dL_law_440 : decode cL_law 440 = .ok (.iadd, 1) := by decide +kernel
theorem dL_law_441 : decode cL_law 441 = .ok (.iaload, 1) := by decide +kernel
theorem dL_law_442 : decode cL_law 442 = .ok (.invokevirtual 64, 3) := by decide +kernel
theorem dL_law_445 : decode cL_law 445 = .ok (.if_icmp .eq 282, 3) := by decide +kernel
theorem dL_law_448 : decode cL_law 448 = .ok (.iconst 0, 1) := by decide +kernel
theorem dL_law_449 : decode cL_law 449 = .ok (.ireturn, 1) := by decide +kernel
theorem dL_law_450 : decode cL_law 450 = .ok (.aload_n 1, 1) := by decide +kernel
theorem dL_law_451 : decode cL_law 451 = .ok (.aload_n 0, 1) := by decide +kernel
theorem dL_law_452 : decode cL_law 452 = .ok (.iload_n 3, 1) := by decide +kernel
theorem dL_law_453 : decode cL_law 453 = .ok (.iconst 1, 1) := by decide +kernel
theorem dL_law_454 : decode cL_law 454 = .ok (.iadd, 1) := by decide +kernel
theorem dL_law_455 : decode cL_law 455 = .ok (.iaload, 1) := by decide +kernel
theorem dL_law_456 : decode cL_law 456 = .ok (.invokevirtual 65, 3) := by decide +kernel
theorem dL_law_459 : decode cL_law 459 = .ok (.aload_n 2, 1) := by decide +kernel
theorem dL_law_460 : decode cL_law 460 = .ok (.aload_n 0, 1) := by decide +kernel
theorem dL_law_461 : decode cL_law 461 = .ok (.iload_n 3, 1) := by decide +kernel
theorem dL_law_462 : decode cL_law 462 = .ok (.iconst 1, 1) := by decide +kernel
theorem dL_law_463 : decode cL_law 463 = .ok (.iadd, 1) := by decide +kernel
theorem dL_law_464 : decode cL_law 464 = .ok (.iaload, 1) := by decide +kernel
theorem dL_law_465 : decode cL_law 465 = .ok (.invokevirtual 68, 3) := by decide +kernel
theorem dL_law_468 : decode cL_law 468 = .ok (.if_icmp .eq 259, 3) := by decide +kernel
theorem dL_law_471 : decode cL_law 471 = .ok (.iconst 0, 1) := by decide +kernel
theorem dL_law_472 : decode cL_law 472 = .ok (.ireturn, 1) := by decide +kernel
theorem dL_law_473 : decode cL_law 473 = .ok (.aload_n 1, 1) := by decide +kernel
theorem dL_law_474 : decode cL_law 474 = .ok (.aload_n 0, 1) := by decide +kernel
theorem dL_law_475 : decode cL_law 475 = .ok (.iload_n 3, 1) := by decide +kernel
theorem dL_law_476 : decode cL_law 476 = .ok (.iconst 1, 1) := by decide +kernel
theorem dL_law_477 : decode cL_law 477 = .ok (.iadd, 1) := by decide +kernel
theorem dL_law_478 : decode cL_law 478 = .ok (.iaload, 1) := by decide +kernel
theorem dL_law_479 : decode cL_law 479 = .ok (.aload_n 0, 1) := by decide +kernel
theorem dL_law_480 : decode cL_law 480 = .ok (.iload_n 3, 1) := by decide +kernel
theorem dL_law_481 : decode cL_law 481 = .ok (.iconst 2, 1) := by decide +kernel
theorem dL_law_482 : decode cL_law 482 = .ok (.iadd, 1) := by decide +kernel
theorem dL_law_483 : decode cL_law 483 = .ok (.iaload, 1) := by decide +kernel
theorem dL_law_484 : decode cL_law 484 = .ok (.invokevirtual 69, 3) := by decide +kernel
theorem dL_law_487 : decode cL_law 487 = .ok (.aload_n 2, 1) := by decide +kernel
theorem dL_law_488 : decode cL_law 488 = .ok (.aload_n 0, 1) := by decide +kernel
theorem dL_law_489 : decode cL_law 489 = .ok (.iload_n 3, 1) := by decide +kernel
theorem dL_law_490 : decode cL_law 490 = .ok (.iconst 1, 1) := by decide +kernel
theorem dL_law_491 : decode cL_law 491 = .ok (.iadd, 1) := by decide +kernel
theorem dL_law_492 : decode cL_law 492 = .ok (.iaload, 1) := by decide +kernel
theorem dL_law_493 : decode cL_law 493 = .ok (.aload_n 0, 1) := by decide +kernel
theorem dL_law_494 : decode cL_law 494 = .ok (.iload_n 3, 1) := by decide +kernel
theorem dL_law_495 : decode cL_law 495 = .ok (.iconst 2, 1) := by decide +kernel
theorem dL_law_496 : decode cL_law 496 = .ok (.iadd, 1) := by decide +kernel
theorem dL_law_497 : decode cL_law 497 = .ok (.iaload, 1) := by decide +kernel
theorem dL_law_498 : decode cL_law 498 = .ok (.invokevirtual 72, 3) := by decide +kernel
theorem dL_law_501 : decode cL_law 501 = .ok (.if_icmp .eq 226, 3) := by decide +kernel
theorem dL_law_504 : decode cL_law 504 = .ok (.iconst 0, 1) := by decide +kernel
theorem dL_law_505 : decode cL_law 505 = .ok (.ireturn, 1) := by decide +kernel
theorem dL_law_506 : decode cL_law 506 = .ok (.aload_n 1, 1) := by decide +kernel
theorem dL_law_507 : decode cL_law 507 = .ok (.aload_n 0, 1) := by decide +kernel
theorem dL_law_508 : decode cL_law 508 = .ok (.iload_n 3, 1) := by decide +kernel
theorem dL_law_509 : decode cL_law 509 = .ok (.iconst 1, 1) := by decide +kernel
theorem dL_law_510 : decode cL_law 510 = .ok (.iadd, 1) := by decide +kernel
theorem dL_law_511 : decode cL_law 511 = .ok (.iaload, 1) := by decide +kernel
theorem dL_law_512 : decode cL_law 512 = .ok (.aload_n 0, 1) := by decide +kernel
theorem dL_law_513 : decode cL_law 513 = .ok (.iload_n 3, 1) := by decide +kernel
theorem dL_law_514 : decode cL_law 514 = .ok (.iconst 2, 1) := by decide +kernel
theorem dL_law_515 : decode cL_law 515 = .ok (.iadd, 1) := by decide +kernel
theorem dL_law_516 : decode cL_law 516 = .ok (.iaload, 1) := by decide +kernel
theorem dL_law_517 : decode cL_law 517 = .ok (.invokevirtual 73, 3) := by decide +kernel
theorem dL_law_520 : decode cL_law 520 = .ok (.aload_n 2, 1) := by decide +kernel
theorem dL_law_521 : decode cL_law 521 = .ok (.aload_n 0, 1) := by decide +kernel
theorem dL_law_522 : decode cL_law 522 = .ok (.iload_n 3, 1) := by decide +kernel
theorem dL_law_523 : decode cL_law 523 = .ok (.iconst 1, 1) := by decide +kernel
theorem dL_law_524 : decode cL_law 524 = .ok (.iadd, 1) := by decide +kernel
theorem dL_law_525 : decode cL_law 525 = .ok (.iaload, 1) := by decide +kernel
theorem dL_law_526 : decode cL_law 526 = .ok (.aload_n 0, 1) := by decide +kernel
theorem dL_law_527 : decode cL_law 527 = .ok (.iload_n 3, 1) := by decide +kernel
theorem dL_law_528 : decode cL_law 528 = .ok (.iconst 2, 1) := by decide +kernel
theorem dL_law_529 : decode cL_law 529 = .ok (.iadd, 1) := by decide +kernel
theorem dL_law_530 : decode cL_law 530 = .ok (.iaload, 1) := by decide +kernel
theorem dL_law_531 : decode cL_law 531 = .ok (.invokevirtual 76, 3) := by decide +kernel
theorem dL_law_534 : decode cL_law 534 = .ok (.if_icmp .eq 193, 3) := by decide +kernel
theorem dL_law_537 : decode cL_law 537 = .ok (.iconst 0, 1) := by decide +kernel
theorem dL_law_538 : decode cL_law 538 = .ok (.ireturn, 1) := by decide +kernel
theorem dL_law_539 : decode cL_law 539 = .ok (.aload_n 1, 1) := by decide +kernel
theorem dL_law_540 : decode cL_law 540 = .ok (.aload_n 0, 1) := by decide +kernel
theorem dL_law_541 : decode cL_law 541 = .ok (.iload_n 3, 1) := by decide +kernel
theorem dL_law_542 : decode cL_law 542 = .ok (.iconst 1, 1) := by decide +kernel
theorem dL_law_543 : decode cL_law 543 = .ok (.iadd, 1) := by decide +kernel
theorem dL_law_544 : decode cL_law 544 = .ok (.iaload, 1) := by decide +kernel
theorem dL_law_545 : decode cL_law 545 = .ok (.invokevirtual 77, 3) := by decide +kernel
theorem dL_law_548 : decode cL_law 548 = .ok (.aload_n 2, 1) := by decide +kernel
theorem dL_law_549 : decode cL_law 549 = .ok (.aload_n 0, 1) := by decide +kernel
theorem dL_law_550 : decode cL_law 550 = .ok (.iload_n 3, 1) := by decide +kernel
theorem dL_law_551 : decode cL_law 551 = .ok (.iconst 1, 1) := by decide +kernel
theorem dL_law_552 : decode cL_law 552 = .ok (.iadd, 1) := by decide +kernel
theorem dL_law_553 : decode cL_law 553 = .ok (.iaload, 1) := by decide +kernel
theorem dL_law_554 : decode cL_law 554 = .ok (.invokevirtual 80, 3) := by decide +kernel
theorem dL_law_557 : decode cL_law 557 = .ok (.if_icmp .eq 170, 3) := by decide +kernel
theorem dL_law_560 : decode cL_law 560 = .ok (.iconst 0, 1) := by decide +kernel
theorem dL_law_561 : decode cL_law 561 = .ok (.ireturn, 1) := by decide +kernel
theorem dL_law_562 : decode cL_law 562 = .ok (.aload_n 1, 1) := by decide +kernel
theorem dL_law_563 : decode cL_law 563 = .ok (.aload_n 0, 1) := by decide +kernel
theorem dL_law_564 : decode cL_law 564 = .ok (.iload_n 3, 1) := by decide +kernel
theorem dL_law_565 : decode cL_law 565 = .ok (.iconst 1, 1) := by decide +kernel
theorem dL_law_566 : decode cL_law 566 = .ok (.iadd, 1) := by decide +kernel
theorem dL_law_567 : decode cL_law 567 = .ok (.iaload, 1) := by decide +kernel
theorem dL_law_568 : decode cL_law 568 = .ok (.invokevirtual 81, 3) := by decide +kernel
theorem dL_law_571 : decode cL_law 571 = .ok (.aload_n 2, 1) := by decide +kernel
theorem dL_law_572 : decode cL_law 572 = .ok (.aload_n 0, 1) := by decide +kernel
theorem dL_law_573 : decode cL_law 573 = .ok (.iload_n 3, 1) := by decide +kernel
theorem dL_law_574 : decode cL_law 574 = .ok (.iconst 1, 1) := by decide +kernel
theorem dL_law_575 : decode cL_law 575 = .ok (.iadd, 1) := by decide +kernel
theorem dL_law_576 : decode cL_law 576 = .ok (.iaload, 1) := by decide +kernel
theorem dL_law_577 : decode cL_law 577 = .ok (.invokevirtual 84, 3) := by decide +kernel
theorem dL_law_580 : decode cL_law 580 = .ok (.if_icmp .eq 147, 3) := by decide +kernel
theorem dL_law_583 : decode cL_law 583 = .ok (.iconst 0, 1) := by decide +kernel
theorem dL_law_584 : decode cL_law 584 = .ok (.ireturn, 1) := by decide +kernel
theorem dL_law_585 : decode cL_law 585 = .ok (.aload_n 1, 1) := by decide +kernel
theorem dL_law_586 : decode cL_law 586 = .ok (.aload_n 0, 1) := by decide +kernel
theorem dL_law_587 : decode cL_law 587 = .ok (.iload_n 3, 1) := by decide +kernel
theorem dL_law_588 : decode cL_law 588 = .ok (.iconst 1, 1) := by decide +kernel
theorem dL_law_589 : decode cL_law 589 = .ok (.iadd, 1) := by decide +kernel
theorem dL_law_590 : decode cL_law 590 = .ok (.iaload, 1) := by decide +kernel
theorem dL_law_591 : decode cL_law 591 = .ok (.invokevirtual 85, 3) := by decide +kernel
theorem dL_law_594 : decode cL_law 594 = .ok (.aload_n 2, 1) := by decide +kernel
theorem dL_law_595 : decode cL_law 595 = .ok (.aload_n 0, 1) := by decide +kernel
theorem dL_law_596 : decode cL_law 596 = .ok (.iload_n 3, 1) := by decide +kernel
theorem dL_law_597 : decode cL_law 597 = .ok (.iconst 1, 1) := by decide +kernel
theorem dL_law_598 : decode cL_law 598 = .ok (.iadd, 1) := by decide +kernel
theorem dL_law_599 : decode cL_law 599 = .ok (.iaload, 1) := by decide +kernel
theorem dL_law_600 : decode cL_law 600 = .ok (.invokevirtual 88, 3) := by decide +kernel
theorem dL_law_603 : decode cL_law 603 = .ok (.if_icmp .eq 124, 3) := by decide +kernel
theorem dL_law_606 : decode cL_law 606 = .ok (.iconst 0, 1) := by decide +kernel
theorem dL_law_607 : decode cL_law 607 = .ok (.ireturn, 1) := by decide +kernel
theorem dL_law_608 : decode cL_law 608 = .ok (.aload_n 1, 1) := by decide +kernel
theorem dL_law_609 : decode cL_law 609 = .ok (.aload_n 0, 1) := by decide +kernel
theorem dL_law_610 : decode cL_law 610 = .ok (.iload_n 3, 1) := by decide +kernel
theorem dL_law_611 : decode cL_law 611 = .ok (.iconst 1, 1) := by decide +kernel
theorem dL_law_612 : decode cL_law 612 = .ok (.iadd, 1) := by decide +kernel
theorem dL_law_613 : decode cL_law 613 = .ok (.iaload, 1) := by decide +kernel
theorem dL_law_614 : decode cL_law 614 = .ok (.invokevirtual 89, 3) := by decide +kernel
theorem dL_law_617 : decode cL_law 617 = .ok (.aload_n 2, 1) := by decide +kernel
theorem dL_law_618 : decode cL_law 618 = .ok (.aload_n 0, 1) := by decide +kernel
theorem dL_law_619 : decode cL_law 619 = .ok (.iload_n 3, 1) := by decide +kernel
theorem dL_law_620 : decode cL_law 620 = .ok (.iconst 1, 1) := by decide +kernel
theorem dL_law_621 : decode cL_law 621 = .ok (.iadd, 1) := by decide +kernel
theorem dL_law_622 : decode cL_law 622 = .ok (.iaload, 1) := by decide +kernel
theorem dL_law_623 : decode cL_law 623 = .ok (.invokevirtual 92, 3) := by decide +kernel
theorem dL_law_626 : decode cL_law 626 = .ok (.if_icmp .eq 101, 3) := by decide +kernel
theorem dL_law_629 : decode cL_law 629 = .ok (.iconst 0, 1) := by decide +kernel
theorem dL_law_630 : decode cL_law 630 = .ok (.ireturn, 1) := by decide +kernel
theorem dL_law_631 : decode cL_law 631 = .ok (.aload_n 1, 1) := by decide +kernel
theorem dL_law_632 : decode cL_law 632 = .ok (.invokevirtual 93, 3) := by decide +kernel
theorem dL_law_635 : decode cL_law 635 = .ok (.aload_n 2, 1) := by decide +kernel
theorem dL_law_636 : decode cL_law 636 = .ok (.invokevirtual 96, 3) := by decide +kernel
theorem dL_law_639 : decode cL_law 639 = .ok (.if_icmp .eq 88, 3) := by decide +kernel
theorem dL_law_642 : decode cL_law 642 = .ok (.iconst 0, 1) := by decide +kernel
theorem dL_law_643 : decode cL_law 643 = .ok (.ireturn, 1) := by decide +kernel
theorem dL_law_644 : decode cL_law 644 = .ok (.aload_n 1, 1) := by decide +kernel
theorem dL_law_645 : decode cL_law 645 = .ok (.aload_n 0, 1) := by decide +kernel
theorem dL_law_646 : decode cL_law 646 = .ok (.iload_n 3, 1) := by decide +kernel
theorem dL_law_647 : decode cL_law 647 = .ok (.iconst 1, 1) := by decide +kernel
theorem dL_law_648 : decode cL_law 648 = .ok (.iadd, 1) := by decide +kernel
theorem dL_law_649 : decode cL_law 649 = .ok (.iaload, 1) := by decide +kernel
theorem dL_law_650 : decode cL_law 650 = .ok (.invokevirtual 97, 3) := by decide +kernel
theorem dL_law_653 : decode cL_law 653 = .ok (.aload_n 2, 1) := by decide +kernel
theorem dL_law_654 : decode cL_law 654 = .ok (.aload_n 0, 1) := by decide +kernel
theorem dL_law_655 : decode cL_law 655 = .ok (.iload_n 3, 1) := by decide +kernel
theorem dL_law_656 : decode cL_law 656 = .ok (.iconst 1, 1) := by decide +kernel
theorem dL_law_657 : decode cL_law 657 = .ok (.iadd, 1) := by decide +kernel
theorem dL_law_658 : decode cL_law 658 = .ok (.iaload, 1) := by decide +kernel
theorem dL_law_659 : decode cL_law 659 = .ok (.invokevirtual 100, 3) := by decide +kernel
theorem dL_law_662 : decode cL_law 662 = .ok (.if_icmp .eq 65, 3) := by decide +kernel
theorem dL_law_665 : decode cL_law 665 = .ok (.iconst 0, 1) := by decide +kernel
theorem dL_law_666 : decode cL_law 666 = .ok (.ireturn, 1) := by decide +kernel
theorem dL_law_667 : decode cL_law 667 = .ok (.aload_n 1, 1) := by decide +kernel
theorem dL_law_668 : decode cL_law 668 = .ok (.aload_n 0, 1) := by decide +kernel
theorem dL_law_669 : decode cL_law 669 = .ok (.iload_n 3, 1) := by decide +kernel
theorem dL_law_670 : decode cL_law 670 = .ok (.iconst 1, 1) := by decide +kernel
theorem dL_law_671 : decode cL_law 671 = .ok (.iadd, 1) := by decide +kernel
theorem dL_law_672 : decode cL_law 672 = .ok (.iaload, 1) := by decide +kernel
theorem dL_law_673 : decode cL_law 673 = .ok (.invokevirtual 101, 3) := by decide +kernel
theorem dL_law_676 : decode cL_law 676 = .ok (.aload_n 2, 1) := by decide +kernel
theorem dL_law_677 : decode cL_law 677 = .ok (.aload_n 0, 1) := by decide +kernel
theorem dL_law_678 : decode cL_law 678 = .ok (.iload_n 3, 1) := by decide +kernel
theorem dL_law_679 : decode cL_law 679 = .ok (.iconst 1, 1) := by decide +kernel
theorem dL_law_680 : decode cL_law 680 = .ok (.iadd, 1) := by decide +kernel
theorem dL_law_681 : decode cL_law 681 = .ok (.iaload, 1) := by decide +kernel
theorem dL_law_682 : decode cL_law 682 = .ok (.invokevirtual 104, 3) := by decide +kernel
theorem dL_law_685 : decode cL_law 685 = .ok (.if_icmp .eq 42, 3) := by decide +kernel
theorem dL_law_688 : decode cL_law 688 = .ok (.iconst 0, 1) := by decide +kernel
theorem dL_law_689 : decode cL_law 689 = .ok (.ireturn, 1) := by decide +kernel
theorem dL_law_690 : decode cL_law 690 = .ok (.aload_n 1, 1) := by decide +kernel
theorem dL_law_691 : decode cL_law 691 = .ok (.aload_n 0, 1) := by decide +kernel
theorem dL_law_692 : decode cL_law 692 = .ok (.iload_n 3, 1) := by decide +kernel
theorem dL_law_693 : decode cL_law 693 = .ok (.iconst 1, 1) := by decide +kernel
theorem dL_law_694 : decode cL_law 694 = .ok (.iadd, 1) := by decide +kernel
theorem dL_law_695 : decode cL_law 695 = .ok (.iaload, 1) := by decide +kernel
theorem dL_law_696 : decode cL_law 696 = .ok (.invokevirtual 105, 3) := by decide +kernel
theorem dL_law_699 : decode cL_law 699 = .ok (.aload_n 2, 1) := by decide +kernel
theorem dL_law_700 : decode cL_law 700 = .ok (.aload_n 0, 1) := by decide +kernel
theorem dL_law_701 : decode cL_law 701 = .ok (.iload_n 3, 1) := by decide +kernel
theorem dL_law_702 : decode cL_law 702 = .ok (.iconst 1, 1) := by decide +kernel
theorem dL_law_703 : decode cL_law 703 = .ok (.iadd, 1) := by decide +kernel
theorem dL_law_704 : decode cL_law 704 = .ok (.iaload, 1) := by decide +kernel
theorem dL_law_705 : decode cL_law 705 = .ok (.invokevirtual 108, 3) := by decide +kernel
theorem dL_law_708 : decode cL_law 708 = .ok (.if_icmp .eq 19, 3) := by decide +kernel
theorem dL_law_711 : decode cL_law 711 = .ok (.iconst 0, 1) := by decide +kernel
theorem dL_law_712 : decode cL_law 712 = .ok (.ireturn, 1) := by decide +kernel
theorem dL_law_713 : decode cL_law 713 = .ok (.aload_n 1, 1) := by decide +kernel
theorem dL_law_714 : decode cL_law 714 = .ok (.invokevirtual 109, 3) := by decide +kernel
theorem dL_law_717 : decode cL_law 717 = .ok (.aload_n 2, 1) := by decide +kernel
theorem dL_law_718 : decode cL_law 718 = .ok (.invokevirtual 113, 3) := by decide +kernel
theorem dL_law_721 : decode cL_law 721 = .ok (.lcmp, 1) := by decide +kernel
theorem dL_law_722 : decode cL_law 722 = .ok (.ifCond .eq 5, 3) := by decide +kernel
theorem dL_law_725 : decode cL_law 725 = .ok (.iconst 0, 1) := by decide +kernel
theorem dL_law_726 : decode cL_law 726 = .ok (.ireturn, 1) := by decide +kernel
theorem dL_law_727 : decode cL_law 727 = .ok (.iinc 3 4, 3) := by decide +kernel
theorem dL_law_730 : decode cL_law 730 = .ok (.goto (-712), 3) := by decide +kernel
theorem dL_law_733 : decode cL_law 733 = .ok (.iconst 1, 1) := by decide +kernel
theorem dL_law_734 : decode cL_law 734 = .ok (.ireturn, 1) := by decide +kernel
end
section
/-! ===== the heap as a function of addresses; a method's contract over the whole of it ===== -/
abbrev qE : Type := (Nat × List Value) ⊕ (Nat × Nat × (Nat → Int)) ⊕ (Nat × Nat × (Nat → Option Nat))
abbrev qH : Type := Nat → Option qE
def vI (z : Int) : Value := .int (Int32.ofInt z)
def vL (z : Int) : Value := .long (Int64.ofInt z)
abbrev vB (P : Prop) [Decidable P] : Value := vI (if P then 1 else 0)
abbrev oB (c : Nat) (fs : List Value) : qE := .inl (c, fs)
abbrev iA (k n : Nat) (f : Nat → Int) : qE := .inr (.inl (k, n, f))
abbrev rA (k n : Nat) (f : Nat → Option Nat) : qE := .inr (.inr (k, n, f))
abbrev iR (z : Int) : Prop := -2147483648 ≤ z ∧ z < 2147483648
def aty (k : Nat) : FieldType := match k with
  | 0 => .int
  | 1 => .boolean
  | 2 => .object RX2
  | _ => .object RX0
def hU (h : qH) (a : Nat) (e : qE) : qH := fun q => if q = a then some e else h q
theorem hU_self (h : qH) (a : Nat) (e : qE) : hU h a e a = some e := by simp [hU]
theorem hU_ne {h : qH} {a q : Nat} {e : qE} (n : q ≠ a) : hU h a e q = h q := by simp [hU, n]
def qAt (D : va_G) (U : State) (H : Heap) (a : Nat) (e : qE) : Prop := match e with
  | .inl o => ∃ r : vw_C, vwCl[o.1]? = some r ∧ t_OB a (D.1 o.1) r.2.2 (D.2 o.1) H (vp_V o.2)
  | .inr (.inl x) => ∃ cA : ClassId, (ArrOfT U cA (aty x.1) ∧ va_RA U cA (aty x.1)) ∧ H[a]? = some (vp_cell cA (x.2.1, .inl (fun j => Int32.ofInt (x.2.2 j))))
  | .inr (.inr x) => ∃ cA : ClassId, (ArrOfT U cA (aty x.1) ∧ va_RA U cA (aty x.1)) ∧ H[a]? = some (vp_cell cA (x.2.1, .inr (.inr (.inr (.inr x.2.2)))))
theorem qAt.kept {D : va_G} {U : State} {H H1 : Heap} {a : Nat} {e : qE} (h : qAt D U H a e) (hq : H1[a]? = H[a]?) : qAt D U H1 a e := by
  rcases e with o | x | x
  · obtain ⟨r, h1, h2⟩ := h
    exact ⟨r, h1, h2.kept hq⟩
  · obtain ⟨cA, h1, h2⟩ := h
    exact ⟨cA, h1, hq.trans h2⟩
  · obtain ⟨cA, h1, h2⟩ := h
    exact ⟨cA, h1, hq.trans h2⟩
theorem qAt.lt {D : va_G} {U : State} {H : Heap} {a : Nat} {e : qE} (h : qAt D U H a e) : a < H.size := by
  rcases e with o | x | x
  · obtain ⟨r, h1, cell, h2, -⟩ := h
    exact (Array.getElem?_eq_some_iff.mp h2).1
  · obtain ⟨cA, h1, h2⟩ := h
    exact (Array.getElem?_eq_some_iff.mp h2).1
  · obtain ⟨cA, h1, h2⟩ := h
    exact (Array.getElem?_eq_some_iff.mp h2).1
theorem qAt.moved {D : va_G} {u U : State} {H : Heap} {a : Nat} {e : qE} (hvm : u.vm.Alike U.vm) (h : qAt D u H a e) : qAt D U H a e := by
  rcases e with o | x | x
  · exact h
  · obtain ⟨cA, h1, h2⟩ := h
    exact ⟨cA, ⟨arrOfT_moved hvm h1.1, h1.2.moved hvm⟩, h2⟩
  · obtain ⟨cA, h1, h2⟩ := h
    exact ⟨cA, ⟨arrOfT_moved hvm h1.1, h1.2.moved hvm⟩, h2⟩
def qR (D : va_G) (U : State) (H : Heap) (h : qH) (sz : Nat) : Prop := H.size = sz ∧ ∀ (a : Nat) (e : qE), h a = some e → qAt D U H a e
theorem qR.moved {D : va_G} {u U : State} {H : Heap} {h : qH} {sz : Nat} (hvm : u.vm.Alike U.vm) (hR : qR D u H h sz) : qR D U H h sz := ⟨hR.1, fun a e he => (hR.2 a e he).moved hvm⟩
theorem qR.fresh {D : va_G} {u : State} {H : Heap} {h : qH} {sz q : Nat} (hR : qR D u H h sz) (hq : sz ≤ q) : h q = none := by
  cases e : h q with
  | none => rfl
  | some x => have := (hR.2 q x e).lt; have := hR.1; omega
theorem qR.set {D : va_G} {u : State} {H H1 : Heap} {h : qH} {sz a : Nat} {e : qE} (hR : qR D u H h sz) (z : H1.size = H.size) (oq : ∀ q : Nat, q ≠ a → H1[q]? = H[q]?) (he : qAt D u H1 a e) : qR D u H1 (hU h a e) sz := by
  refine ⟨z.trans hR.1, fun q x hx => ?_⟩
  by_cases hq : q = a
  · subst hq
    rw [hU_self] at hx
    cases hx
    exact he
  · rw [hU_ne hq] at hx
    exact (hR.2 q x hx).kept (oq q hq)
theorem qR.push {D : va_G} {u : State} {H H1 : Heap} {h : qH} {sz : Nat} {e : qE} (hR : qR D u H h sz) (z : H1.size = sz + 1) (oq : ∀ q : Nat, q < sz → H1[q]? = H[q]?) (he : qAt D u H1 sz e) : qR D u H1 (hU h sz e) (sz + 1) := by
  refine ⟨z, fun q x hx => ?_⟩
  by_cases hq : q = sz
  · subst hq
    rw [hU_self] at hx
    cases hx
    exact he
  · rw [hU_ne hq] at hx
    have h1 := hR.2 q x hx
    exact h1.kept (oq q (by have := h1.lt; have := hR.1; omega))
theorem qR.one {D : va_G} {u : State} {H : Heap} {h : qH} {sz a ci : Nat} {fs : List Value} (hR : qR D u H h sz) (ha : h a = some (oB ci fs)) : va_P D vwCl [(a, .inr (ci, fs))] H := by
  intro k q hk
  have hz : k < 1 := (List.getElem?_eq_some_iff.mp hk).1
  obtain rfl : k = 0 := by omega
  cases hk
  exact hR.2 a _ ha
/-! the tables' words that a method's start holds -/
def qKK (D : va_G) (U : State) : Prop := va_K D vwCl [] U ∧ (∀ w ∈ nst, va_Nw w U) ∧ va_AO RX0 U ∧ va_AO RX2 U
theorem nst_warm {s U : State} (hW : s.WarmedH U.vm) : ∀ w ∈ nst, va_Nw w s → va_Nw w U := by
  intro w hw h
  simp only [nst, List.mem_cons, List.not_mem_nil, or_false] at hw
  rcases hw with rfl | rfl | rfl | rfl | rfl | rfl | rfl
  all_goals first | exact va_Nw.warmF hW h | exact va_Nw.warmM hW h
theorem nst_on : ∀ w ∈ nst, w.onTables = true := by
  intro w hw
  simp only [nst, List.mem_cons, List.not_mem_nil, or_false] at hw
  rcases hw with rfl | rfl | rfl | rfl | rfl | rfl | rfl <;> rfl
theorem qKK.warm {D : va_G} {s U : State} (hW : s.WarmedH U.vm) (h : qKK D s) : qKK D U := ⟨va_K.moved hW.alike h.1, fun w hw => nst_warm hW w hw (h.2.1 w hw), va_AO.moved hW.alike h.2.2.1, va_AO.moved hW.alike h.2.2.2⟩
theorem qKK.call {D : va_G} {U : State} {g : JFrame} {mk : MethodId} {a : Array Value} (h : qKK D U) : qKK D (U.calling g mk a) :=
  ⟨va_K.moved (u := U) (U := U.calling g mk a) (Vm.Alike.refl U.vm) h.1, fun w hw => va_Nw.same (u := U) (U := U.calling g mk a) (nst_on w hw) rfl (h.2.1 w hw), va_AO.moved (u := U) (U := U.calling g mk a) (Vm.Alike.refl U.vm) h.2.2.1, va_AO.moved (u := U) (U := U.calling g mk a) (Vm.Alike.refl U.vm) h.2.2.2⟩
/-! locals by their places -/
def qL (ls : Array Slot) (nL : Nat) (L : List (Option Value)) : Prop := ls.size = nL ∧ lv_wf ls ∧ ∀ (i : Nat) (v : Value), L[i]? = some (some v) → ls[i]? = some (.val v)
def qprs (L : List (Option Value)) : List (Nat × Value) := (List.range L.length).filterMap (fun i => (L[i]?.join).map (fun v => (i, v)))
theorem mem_qprs {L : List (Option Value)} {q : Nat × Value} : q ∈ qprs L ↔ L[q.1]? = some (some q.2) := by
  obtain ⟨i, v⟩ := q
  simp only [qprs, List.mem_filterMap, List.mem_range, Option.map_eq_some_iff, Prod.mk.injEq]
  constructor
  · rintro ⟨j, hj, w, hw, rfl, rfl⟩
    cases e : L[j]? with
    | none => rw [e] at hw; cases hw
    | some x => rw [e] at hw; simp only [Option.join_some] at hw; rw [hw]
  · intro h
    exact ⟨i, (List.getElem?_eq_some_iff.mp h).1, v, by rw [h]; rfl, rfl, rfl⟩
theorem qL.has {ls : Array Slot} {nL : Nat} {L : List (Option Value)} (h : qL ls nL L) : lv_has ls nL (qprs L) := ⟨h.1, h.2.1, fun q hq => h.2.2 q.1 q.2 (mem_qprs.mp hq)⟩
/-- no long's second half is at i -/
def qok (L : List (Option Value)) (i : Nat) : Bool := match i with
  | 0 => true
  | j + 1 => match L[j]? with
    | some (some v) => v.category == 1
    | _ => true
theorem qok_spec {L : List (Option Value)} {i j : Nat} {v : Value} (h : qok L i = true) (hj : L[j]? = some (some v)) (hi : j + 1 = i) : ¬ v.category = 2 := by
  subst hi
  simp only [qok, hj, beq_iff_eq] at h
  omega
theorem qL.set1 {ls : Array Slot} {nL i : Nat} {L : List (Option Value)} {v : Value} (hok : qok L i = true) (hi : i < L.length) (h : lv_has ls nL ((i, v) :: (qprs L).filter (fun q => !(q.1 == i) && !(q.1 + 1 == i && q.2.category == 2)))) : qL ls nL (L.set i (some v)) := by
  refine ⟨h.1, h.2.1, fun j w hj => ?_⟩
  by_cases hji : j = i
  · subst hji
    rw [List.getElem?_set_self hi] at hj
    cases hj
    exact h.2.2 _ List.mem_cons_self
  · rw [List.getElem?_set_ne (Ne.symm hji)] at hj
    refine h.2.2 (j, w) (List.mem_cons_of_mem _ (List.mem_filter.mpr ⟨mem_qprs.mpr hj, ?_⟩))
    have := fun e => qok_spec hok hj e
    simp only [Bool.and_eq_true, Bool.not_eq_true', beq_eq_false_iff_ne, Bool.and_eq_false_iff]
    refine ⟨hji, ?_⟩
    by_cases e : j + 1 = i
    · exact Or.inr (this e)
    · exact Or.inl e
theorem qL.set2 {ls : Array Slot} {nL i : Nat} {L : List (Option Value)} {v : Value} (hok : qok L i = true) (hi : i + 1 < L.length) (h : lv_has ls nL ((i, v) :: (qprs L).filter (fun q => !(q.1 == i) && (!(q.1 == i + 1) && !(q.1 + 1 == i && q.2.category == 2))))) : qL ls nL ((L.set i (some v)).set (i + 1) none) := by
  refine ⟨h.1, h.2.1, fun j w hj => ?_⟩
  by_cases hj1 : j = i + 1
  · subst hj1
    rw [List.getElem?_set_self (by rw [List.length_set]; exact hi)] at hj
    cases hj
  · rw [List.getElem?_set_ne (Ne.symm hj1)] at hj
    by_cases hji : j = i
    · subst hji
      rw [List.getElem?_set_self (by omega)] at hj
      cases hj
      exact h.2.2 _ List.mem_cons_self
    · rw [List.getElem?_set_ne (Ne.symm hji)] at hj
      refine h.2.2 (j, w) (List.mem_cons_of_mem _ (List.mem_filter.mpr ⟨mem_qprs.mpr hj, ?_⟩))
      have := fun e => qok_spec hok hj e
      simp only [Bool.and_eq_true, Bool.not_eq_true', beq_eq_false_iff_ne, Bool.and_eq_false_iff]
      refine ⟨hji, hj1, ?_⟩
      by_cases e : j + 1 = i
      · exact Or.inr (this e)
      · exact Or.inl e
def qent : List Value → List (Option Value)
  | [] => []
  | v :: vs => if v.category = 2 then some v :: none :: qent vs else some v :: qent vs
theorem qent_args : ∀ (vs : List Value) (o i : Nat) (v : Value), (qent vs)[i]? = some (some v) → (o + i, v) ∈ lv_args o vs := by
  intro vs
  induction vs with
  | nil => intro o i v h; simp [qent] at h
  | cons w vs ih =>
    intro o i v h
    by_cases hc : w.category = 2
    · simp only [qent, hc, if_true] at h
      simp only [lv_args, hc, if_true]
      match i, h with
      | 0, h => simp at h; subst h; exact List.mem_cons_self
      | 1, h => simp at h
      | i + 2, h =>
        have := ih (o + 2) i v (by simpa using h)
        exact List.mem_cons_of_mem _ (by rw [show o + (i + 2) = o + 2 + i by omega]; exact this)
    · simp only [qent, hc, if_false] at h
      simp only [lv_args, hc, if_false]
      match i, h with
      | 0, h => simp at h; subst h; exact List.mem_cons_self
      | i + 1, h =>
        have := ih (o + 1) i v (by simpa using h)
        exact List.mem_cons_of_mem _ (by rw [show o + (i + 1) = o + 1 + i by omega]; exact this)
theorem qL_entry (av : List Value) {n : Nat} (h : (lg_sl av).length ≤ n) (x : Nat) : qL ((lg_sl av ++ List.replicate (n - (lg_sl av).length) Slot.unset).toArray) n (qent av ++ List.replicate x none) := by
  have e := lv_entry av h
  refine ⟨e.1, e.2.1, fun i v hi => ?_⟩
  by_cases hl : i < (qent av).length
  · rw [List.getElem?_append_left hl] at hi
    have := qent_args av 0 i v hi
    rw [Nat.zero_add] at this
    exact e.2.2 _ this
  · rw [List.getElem?_append_right (by omega)] at hi
    have := List.mem_of_getElem? hi
    simp at this
/-! the judgement at an instruction, the contract of a method -/
def mR (M : MI) (mc ms : Nat) : Room := { frames := M.2.2.2.2.1, cells := mc, slots := ms, locals := M.2.2.2.2.2 }
def qF (M : MI) (p : Program) (s : State) (m : MethodId) (args : Array Value) (meth : Method) (c : Code) : Prop :=
  p.tables.exec = Jvm.exec ∧ c.code = M.2.1 ∧ c.maxLocals = M.2.2.1 ∧ s.vm.findClass M.1.cls = some m.cls ∧ (∀ w ∈ gt, w.before args s = true) ∧ meth.sig.returnType = M.2.2.2.1 ∧ meth.locks = false ∧ meth.name = M.1.name
def qA (h0 : qH) (sz0 : Nat) : Nat → Prop := fun q => h0 q ≠ none ∨ sz0 ≤ q
abbrev qG : Type := va_G → List Frame → Array Value → State → State → Prop
def qV (l : Launch) (M : MI) (R : Room) (EX : State → Array Value → Prop) (G : qG) (h0 : qH) (sz0 : Nat) (k n : Nat) (h : qH) (sz : Nat) (pc : Nat) (L : List (Option Value)) (st : List Value) : Prop :=
  ∀ (D : va_G) (p : Program) (e : Env) (s : State) (m : MethodId) (args : Array Value) (below : List Frame) (meth : Method) (c : Code) (H : Heap) (locs : List Loc) (ls : Array Slot),
    qF M p s m args meth c → qKK D s → EX s args → s.heap.size = sz0 → qR D s H h sz → va_S (qA h0 sz0) s.heap H locs → (∀ q, h q ≠ none → qA h0 sz0 q) → qL ls M.2.2.1 L →
    W p l e R s m args below meth c H locs k n (G D below args s) (F0 m pc ls st)
def qQ (D : va_G) (h0 : qH) (sz0 : Nat) (Q : Option Value → qH → Nat → Prop) : Array Value → State → Outcome → State → Prop := fun _ st o t =>
  ∃ (v : Option Value) (h' : qH) (sz' : Nat), o = .returned v ∧ Q v h' sz' ∧ qR D t t.heap h' sz' ∧ (∀ q, h' q ≠ none → qA h0 sz0 q) ∧ sz0 ≤ sz' ∧ ∀ q, q < sz0 → h0 q = none → t.heap[q]? = st.heap[q]?
def qM (h0 : qH) (sz0 mc ms : Nat) (Q : Option Value → qH → Nat → Prop) : qG := fun D below args s => MQ below (qQ D h0 sz0 Q) args s mc ms (qA h0 sz0)
abbrev qVM (l : Launch) (M : MI) (mc ms : Nat) (h0 : qH) (sz0 : Nat) (Q : Option Value → qH → Nat → Prop) (k n : Nat) (h : qH) (sz : Nat) (pc : Nat) (L : List (Option Value)) (st : List Value) : Prop :=
  qV l M (mR M mc ms) (fun _ _ => True) (qM h0 sz0 mc ms Q) h0 sz0 k n h sz pc L st
def qC (l : Launch) (M : MI) (mc ms : Nat) (av : List Value) (h : qH) (sz : Nat) (Q : Option Value → qH → Nat → Prop) : Prop :=
  ∀ D : va_G, Met l M.1 (Cond.code M.1 M.2.1 M.2.2.1 M.2.2.2.1 :: gt) (mR M mc ms) (va_Pc av (fun U => qKK D U ∧ qR D U U.heap h sz)) (qQ D h sz Q) mc ms (qA h sz)
/-- a method that changes nothing -/
abbrev qRd (l : Launch) (M : MI) (av : List Value) (h : qH) (sz : Nat) (w : Value) : Prop := qC l M 0 0 av h sz (fun v h' sz' => v = some w ∧ h' = h ∧ sz' = sz)
theorem qC.of {l : Launch} {M : MI} {mc ms : Nat} {av : List Value} {h : qH} {sz : Nat} {Q : Option Value → qH → Nat → Prop} (x : Nat) (hp : plainName M.1.cls = true) (hlen : (lg_sl av).length ≤ M.2.2.1) (kk : qVM l M mc ms h sz Q 0 0 h sz 0 (qent av ++ List.replicate x none) []) : qC l M mc ms av h sz Q := by
  intro D
  refine Met.ofW (cc := M.2.1) (maxL := M.2.2.1) (ret := M.2.2.2.1) hp rfl ?_
  intro p e s m args below meth c s₁ B hml hv
  obtain ⟨rfl, hK, hR⟩ := hv
  have hts := atoms_spec (ws := Cond.code M.1 M.2.1 M.2.2.1 M.2.2.2.1 :: gt) B.pre
  rw [lg_entry_eq]
  exact kk D p e s m _ below meth c s.heap [] _ ⟨B.exec, B.bytes, hml, findClass_of_methodNamed B.named, fun w hw => hts w (List.mem_cons_of_mem _ hw), B.returns, B.notSynchronized, (name_of_methodNamed B.named B.method).1⟩ hK trivial hR.1 hR va_S.rf (fun q hq => Or.inl hq) (qL_entry av hlen x)
theorem qC.mono {l : Launch} {M : MI} {mc ms : Nat} {av : List Value} {h : qH} {sz : Nat} {Q Q' : Option Value → qH → Nat → Prop} (hc : qC l M mc ms av h sz Q) (hq : ∀ v h' sz', Q v h' sz' → Q' v h' sz') : qC l M mc ms av h sz Q' := by
  intro D p e ha hcc hk s m args below hf happ hp hX
  obtain ⟨t, o, a1, b1, b2, ⟨v, h', sz', r1, r2, r3⟩, b4⟩ := hc D p e ha hcc hk s m args below hf happ hp hX
  exact ⟨t, o, a1, b1, b2, ⟨v, h', sz', r1, hq _ _ _ r2, r3⟩, b4⟩
section QV
variable {l : Launch} {M : MI} {R : Room} {EX : State → Array Value → Prop} {G : qG} {h0 : qH} {sz0 k n : Nat} {h : qH} {sz pc : Nat} {L : List (Option Value)} {st : List Value}
theorem qV.step {pc' : Nat} {st' : List Value} (f : ∀ (p : Program) (e : Env) (s : State) (m : MethodId) (args : Array Value) (below : List Frame) (meth : Method) (c : Code) (H : Heap) (locs : List Loc) (ls : Array Slot) (Z : State → Prop), p.tables.exec = Jvm.exec → c.code = M.2.1 → W p l e R s m args below meth c H locs k n Z (F0 m pc' ls st') → W p l e R s m args below meth c H locs k n Z (F0 m pc ls st))
    (kk : qV l M R EX G h0 sz0 k n h sz pc' L st') : qV l M R EX G h0 sz0 k n h sz pc L st :=
  fun D p e s m args below meth c H locs ls hF hK hE hz hR hS hA hL => f p e s m args below meth c H locs ls _ hF.1 hF.2.1 (kk D p e s m args below meth c H locs ls hF hK hE hz hR hS hA hL)
theorem qV_iconst {z : Int} (hd : decode M.2.1 pc = .ok (.iconst z, 1)) (kk : qV l M R EX G h0 sz0 k n h sz (pc + 1) L (vI z :: st)) : qV l M R EX G h0 sz0 k n h sz pc L st :=
  qV.step (fun _ _ _ _ _ _ _ _ _ _ _ _ hx hb k => lv_iconst hx hb hd rfl k) kk
theorem qV_bipush {z : Int} (hd : decode M.2.1 pc = .ok (.bipush z, 2)) (hz : (Int8.ofInt z).toInt32 = Int32.ofInt z) (kk : qV l M R EX G h0 sz0 k n h sz (pc + 2) L (vI z :: st)) : qV l M R EX G h0 sz0 k n h sz pc L st :=
  qV.step (fun _ _ _ _ _ _ _ _ _ _ _ _ hx hb k => lv_bipush hx hb hd hz k) kk
theorem qV_sipush {z : Int} (hd : decode M.2.1 pc = .ok (.sipush z, 3)) (hz : (Int16.ofInt z).toInt32 = Int32.ofInt z) (kk : qV l M R EX G h0 sz0 k n h sz (pc + 3) L (vI z :: st)) : qV l M R EX G h0 sz0 k n h sz pc L st :=
  qV.step (fun _ _ _ _ _ _ _ _ _ _ _ _ hx hb k => lv_sipush hx hb hd hz k) kk
theorem qV_anull (hd : decode M.2.1 pc = .ok (.aconst_null, 1)) (kk : qV l M R EX G h0 sz0 k n h sz (pc + 1) L (.null :: st)) : qV l M R EX G h0 sz0 k n h sz pc L st :=
  qV.step (fun _ _ _ _ _ _ _ _ _ _ _ _ hx hb k => lv_null hx hb hd k) kk
theorem qV_iload_n {j : Fin 4} (i : Nat) {z : Int} (hd : decode M.2.1 pc = .ok (.iload_n j, 1)) (hi : (j : Nat) = i) (hl : L[i]? = some (some (vI z))) (kk : qV l M R EX G h0 sz0 k n h sz (pc + 1) L (vI z :: st)) : qV l M R EX G h0 sz0 k n h sz pc L st :=
  fun D p e s m args below meth c H locs ls hF hK hE hz hR hS hA hL => lv_iload_n hF.1 hF.2.1 hd hi (hL.2.2 i _ hl) (kk D p e s m args below meth c H locs ls hF hK hE hz hR hS hA hL)
theorem qV_iload (i : Nat) {z : Int} (hd : decode M.2.1 pc = .ok (.iload i, 2)) (hl : L[i]? = some (some (vI z))) (kk : qV l M R EX G h0 sz0 k n h sz (pc + 2) L (vI z :: st)) : qV l M R EX G h0 sz0 k n h sz pc L st :=
  fun D p e s m args below meth c H locs ls hF hK hE hz hR hS hA hL => lv_iload hF.1 hF.2.1 hd (hL.2.2 i _ hl) (kk D p e s m args below meth c H locs ls hF hK hE hz hR hS hA hL)
theorem qV_lload_n {j : Fin 4} (i : Nat) {z : Int} (hd : decode M.2.1 pc = .ok (.lload_n j, 1)) (hi : (j : Nat) = i) (hl : L[i]? = some (some (vL z))) (kk : qV l M R EX G h0 sz0 k n h sz (pc + 1) L (vL z :: st)) : qV l M R EX G h0 sz0 k n h sz pc L st :=
  fun D p e s m args below meth c H locs ls hF hK hE hz hR hS hA hL => lv_lload_n hF.1 hF.2.1 hd hi (hL.2.2 i _ hl) (kk D p e s m args below meth c H locs ls hF hK hE hz hR hS hA hL)
theorem qV_aload_n {j : Fin 4} (i : Nat) {a : Nat} (hd : decode M.2.1 pc = .ok (.aload_n j, 1)) (hi : (j : Nat) = i) (hl : L[i]? = some (some (.ref a))) (kk : qV l M R EX G h0 sz0 k n h sz (pc + 1) L (.ref a :: st)) : qV l M R EX G h0 sz0 k n h sz pc L st :=
  fun D p e s m args below meth c H locs ls hF hK hE hz hR hS hA hL => lv_aload_n hF.1 hF.2.1 hd hi (hL.2.2 i _ hl) (kk D p e s m args below meth c H locs ls hF hK hE hz hR hS hA hL)
theorem qV_aload (i : Nat) {a : Nat} (hd : decode M.2.1 pc = .ok (.aload i, 2)) (hl : L[i]? = some (some (.ref a))) (kk : qV l M R EX G h0 sz0 k n h sz (pc + 2) L (.ref a :: st)) : qV l M R EX G h0 sz0 k n h sz pc L st :=
  fun D p e s m args below meth c H locs ls hF hK hE hz hR hS hA hL => lv_aload hF.1 hF.2.1 hd (hL.2.2 i _ hl) (kk D p e s m args below meth c H locs ls hF hK hE hz hR hS hA hL)
theorem qV_aload_nN {j : Fin 4} (i : Nat) (hd : decode M.2.1 pc = .ok (.aload_n j, 1)) (hi : (j : Nat) = i) (hl : L[i]? = some (some .null)) (kk : qV l M R EX G h0 sz0 k n h sz (pc + 1) L (.null :: st)) : qV l M R EX G h0 sz0 k n h sz pc L st :=
  fun D p e s m args below meth c H locs ls hF hK hE hz hR hS hA hL => lv_aload_nN hF.1 hF.2.1 hd hi (hL.2.2 i _ hl) (kk D p e s m args below meth c H locs ls hF hK hE hz hR hS hA hL)
theorem qL.len {ls : Array Slot} {nL i : Nat} {L : List (Option Value)} (h : qL ls nL L) (hn : decide (i < nL) = true) : i < nL := of_decide_eq_true hn
theorem qV_istore_n {j : Fin 4} (i : Nat) {z : Int} (hd : decode M.2.1 pc = .ok (.istore_n j, 1)) (hi : (j : Nat) = i) (hn : i < M.2.2.1) (hl : i < L.length) (hok : qok L i = true) (kk : qV l M R EX G h0 sz0 k n h sz (pc + 1) (L.set i (some (vI z))) st) : qV l M R EX G h0 sz0 k n h sz pc L (vI z :: st) :=
  fun D p e s m args below meth c H locs ls hF hK hE hz hR hS hA hL => lv_istore_n hF.1 hF.2.1 hd hi hL.has hn rfl (fun ls' h' => kk D p e s m args below meth c H locs ls' hF hK hE hz hR hS hA (qL.set1 hok hl h'))
theorem qV_istore (i : Nat) {z : Int} (hd : decode M.2.1 pc = .ok (.istore i, 2)) (hn : i < M.2.2.1) (hl : i < L.length) (hok : qok L i = true) (kk : qV l M R EX G h0 sz0 k n h sz (pc + 2) (L.set i (some (vI z))) st) : qV l M R EX G h0 sz0 k n h sz pc L (vI z :: st) :=
  fun D p e s m args below meth c H locs ls hF hK hE hz hR hS hA hL => lv_istore hF.1 hF.2.1 hd hL.has hn rfl (fun ls' h' => kk D p e s m args below meth c H locs ls' hF hK hE hz hR hS hA (qL.set1 hok hl h'))
theorem qV_lstore_n {j : Fin 4} (i : Nat) {z : Int} (hd : decode M.2.1 pc = .ok (.lstore_n j, 1)) (hi : (j : Nat) = i) (hn : i + 1 < M.2.2.1) (hl : i + 1 < L.length) (hok : qok L i = true) (kk : qV l M R EX G h0 sz0 k n h sz (pc + 1) ((L.set i (some (vL z))).set (i + 1) none) st) : qV l M R EX G h0 sz0 k n h sz pc L (vL z :: st) :=
  fun D p e s m args below meth c H locs ls hF hK hE hz hR hS hA hL => lv_lstore_n hF.1 hF.2.1 hd hi hL.has hn rfl (fun ls' h' => kk D p e s m args below meth c H locs ls' hF hK hE hz hR hS hA (qL.set2 hok hl h'))
theorem qV_astore_n {j : Fin 4} (i : Nat) {a : Nat} (hd : decode M.2.1 pc = .ok (.astore_n j, 1)) (hi : (j : Nat) = i) (hn : i < M.2.2.1) (hl : i < L.length) (hok : qok L i = true) (kk : qV l M R EX G h0 sz0 k n h sz (pc + 1) (L.set i (some (.ref a))) st) : qV l M R EX G h0 sz0 k n h sz pc L (.ref a :: st) :=
  fun D p e s m args below meth c H locs ls hF hK hE hz hR hS hA hL => lv_astore_n hF.1 hF.2.1 hd hi hL.has hn rfl (fun ls' h' => kk D p e s m args below meth c H locs ls' hF hK hE hz hR hS hA (qL.set1 hok hl h'))
theorem qV_astore (i : Nat) {a : Nat} (hd : decode M.2.1 pc = .ok (.astore i, 2)) (hn : i < M.2.2.1) (hl : i < L.length) (hok : qok L i = true) (kk : qV l M R EX G h0 sz0 k n h sz (pc + 2) (L.set i (some (.ref a))) st) : qV l M R EX G h0 sz0 k n h sz pc L (.ref a :: st) :=
  fun D p e s m args below meth c H locs ls hF hK hE hz hR hS hA hL => lv_astore hF.1 hF.2.1 hd hL.has hn rfl (fun ls' h' => kk D p e s m args below meth c H locs ls' hF hK hE hz hR hS hA (qL.set1 hok hl h'))
theorem qV_astore_nN {j : Fin 4} (i : Nat) (hd : decode M.2.1 pc = .ok (.astore_n j, 1)) (hi : (j : Nat) = i) (hn : i < M.2.2.1) (hl : i < L.length) (hok : qok L i = true) (kk : qV l M R EX G h0 sz0 k n h sz (pc + 1) (L.set i (some .null)) st) : qV l M R EX G h0 sz0 k n h sz pc L (.null :: st) :=
  fun D p e s m args below meth c H locs ls hF hK hE hz hR hS hA hL => lv_astore_nN hF.1 hF.2.1 hd hi hL.has hn rfl (fun ls' h' => kk D p e s m args below meth c H locs ls' hF hK hE hz hR hS hA (qL.set1 hok hl h'))
theorem qV_iinc (i : Nat) {z d : Int} (hd : decode M.2.1 pc = .ok (.iinc i d, 3)) (hv : L[i]? = some (some (vI z))) (hn : i < M.2.2.1) (hl : i < L.length) (hok : qok L i = true) (kk : qV l M R EX G h0 sz0 k n h sz (pc + 3) (L.set i (some (vI (z + d)))) st) : qV l M R EX G h0 sz0 k n h sz pc L st :=
  fun D p e s m args below meth c H locs ls hF hK hE hz hR hS hA hL => by
    obtain ⟨q, hq⟩ := List.getElem?_of_mem (mem_qprs (q := (i, vI z)).mpr hv)
    exact lv_iinc hF.1 hF.2.1 hd hL.has hq (show Int32.ofInt z + Int32.ofInt d = Int32.ofInt (z + d) from (Int32.ofInt_add z d).symm) hn rfl (fun ls' h' => kk D p e s m args below meth c H locs ls' hF hK hE hz hR hS hA (qL.set1 hok hl h'))
theorem qV_iadd {a b : Int} (hd : decode M.2.1 pc = .ok (.iadd, 1)) (kk : qV l M R EX G h0 sz0 k n h sz (pc + 1) L (vI (a + b) :: st)) : qV l M R EX G h0 sz0 k n h sz pc L (vI b :: vI a :: st) :=
  qV.step (fun _ _ _ _ _ _ _ _ _ _ _ _ hx hb k => lv_iadd hx hb hd (by rw [← Int32.ofInt_add]; exact k)) kk
theorem qV_isub {a b : Int} (hd : decode M.2.1 pc = .ok (.isub, 1)) (kk : qV l M R EX G h0 sz0 k n h sz (pc + 1) L (vI (a - b) :: st)) : qV l M R EX G h0 sz0 k n h sz pc L (vI b :: vI a :: st) :=
  qV.step (fun _ _ _ _ _ _ _ _ _ _ _ _ hx hb k => lv_isub hx hb hd (by rw [← Int32.ofInt_sub]; exact k)) kk
theorem qV_imul {a b : Int} (hd : decode M.2.1 pc = .ok (.imul, 1)) (kk : qV l M R EX G h0 sz0 k n h sz (pc + 1) L (vI (a * b) :: st)) : qV l M R EX G h0 sz0 k n h sz pc L (vI b :: vI a :: st) :=
  qV.step (fun _ _ _ _ _ _ _ _ _ _ _ _ hx hb k => lv_imul hx hb hd (by rw [← Int32.ofInt_mul]; exact k)) kk
theorem iR_toInt {z : Int} (h : iR z) : (Int32.ofInt z).toInt = z := Int32.toInt_ofInt_of_le (by have := h.1; omega) (by have := h.2; omega)
theorem iR_ne0 {z : Int} (h : iR z) (h0 : z ≠ 0) : ¬ Int32.ofInt z = 0 := fun e => h0 (by
  have := congrArg Int32.toInt e
  rw [iR_toInt h] at this
  simpa using this)
theorem iR_div {a b : Int} (ha : 0 ≤ a) (ha2 : a < 2147483648) (hb : 0 < b) (hb2 : b < 2147483648) : Int32.ofInt a / Int32.ofInt b = Int32.ofInt (a / b) := by
  have hq : 0 ≤ a / b := Int.ediv_nonneg ha (by omega)
  have hq2 : a / b ≤ a := Int.ediv_le_self b ha
  apply Int32.toInt.inj
  rw [Int32.toInt_div_of_ne_left, iR_toInt ⟨by omega, ha2⟩, iR_toInt ⟨by omega, hb2⟩, iR_toInt ⟨by omega, by omega⟩, Int.tdiv_eq_ediv_of_nonneg ha]
  intro e
  have := congrArg Int32.toInt e
  rw [iR_toInt ⟨by omega, ha2⟩] at this
  have h2 : Int32.minValue.toInt = -2147483648 := by decide
  omega
theorem qV_idiv {a b : Int} (hd : decode M.2.1 pc = .ok (.idiv, 1)) (hr : 0 ≤ a ∧ a < 2147483648 ∧ 0 < b ∧ b < 2147483648) (kk : qV l M R EX G h0 sz0 k n h sz (pc + 1) L (vI (a / b) :: st)) : qV l M R EX G h0 sz0 k n h sz pc L (vI b :: vI a :: st) :=
  qV.step (fun _ _ _ _ _ _ _ _ _ _ _ _ hx hb k => lv_idiv hx hb hd (iR_ne0 ⟨by omega, hr.2.2.2⟩ (by omega)) (by rw [iR_div hr.1 hr.2.1 hr.2.2.1 hr.2.2.2]; exact k)) kk
theorem qV_irem {a b : Int} (hd : decode M.2.1 pc = .ok (.irem, 1)) (hr : 0 ≤ a ∧ a < 2147483648 ∧ 0 < b ∧ b < 2147483648) (kk : qV l M R EX G h0 sz0 k n h sz (pc + 1) L (vI (a % b) :: st)) : qV l M R EX G h0 sz0 k n h sz pc L (vI b :: vI a :: st) :=
  qV.step (fun _ _ _ _ _ _ _ _ _ _ _ _ hx hb k => lv_irem hx hb hd (iR_ne0 ⟨by omega, hr.2.2.2⟩ (by omega)) (by
    rw [iR_div hr.1 hr.2.1 hr.2.2.1 hr.2.2.2, ← Int32.ofInt_mul, ← Int32.ofInt_sub, show a - a / b * b = a % b by rw [Int.emod_def, Int.mul_comm b]]; exact k)) kk
theorem iR_i2l {a : Int} (hr : iR a) : (Int32.ofInt a).toInt64 = Int64.ofInt a := by
  have h1 : Int32.minValue.toInt = -2147483648 := by decide
  have h2 : Int32.maxValue.toInt = 2147483647 := by decide
  exact Int32.toInt64_ofInt (by rw [h1]; exact hr.1) (by rw [h2]; have := hr.2; omega)
theorem qV_i2l {a : Int} (hd : decode M.2.1 pc = .ok (.i2l, 1)) (hr : iR a) (kk : qV l M R EX G h0 sz0 k n h sz (pc + 1) L (vL a :: st)) : qV l M R EX G h0 sz0 k n h sz pc L (vI a :: st) :=
  qV.step (fun _ _ _ _ _ _ _ _ _ _ _ _ hx hb k => lv_i2l hx hb hd (iR_i2l hr) k) kk
theorem qV_ladd {a b : Int} (hd : decode M.2.1 pc = .ok (.ladd, 1)) (kk : qV l M R EX G h0 sz0 k n h sz (pc + 1) L (vL (a + b) :: st)) : qV l M R EX G h0 sz0 k n h sz pc L (vL b :: vL a :: st) :=
  qV.step (fun _ _ _ _ _ _ _ _ _ _ _ _ hx hb k => lv_ladd hx hb hd (by rw [← Int64.ofInt_add]; exact k)) kk
theorem qV_lmul {a b : Int} (hd : decode M.2.1 pc = .ok (.lmul, 1)) (kk : qV l M R EX G h0 sz0 k n h sz (pc + 1) L (vL (a * b) :: st)) : qV l M R EX G h0 sz0 k n h sz pc L (vL b :: vL a :: st) :=
  qV.step (fun _ _ _ _ _ _ _ _ _ _ _ _ hx hb k => lv_lmul hx hb hd (by rw [← Int64.ofInt_mul]; exact k)) kk
theorem qV_ldc2 {idx : Nat} {cz : Int64} (z : Int) (hz : Int64.ofInt z = cz) (hd : decode M.2.1 pc = .ok (.ldc2_w idx, 3)) (hw : Cond.constantLong M.1.cls idx cz ∈ gt) (kk : qV l M R EX G h0 sz0 k n h sz (pc + 3) L (vL z :: st)) : qV l M R EX G h0 sz0 k n h sz pc L st := by
  subst hz
  exact fun D p e s m args below meth c H locs ls hF hK hE hz hR hS hA hL => lv_ldc2 hF.1 hF.2.1 hF.2.2.2.1 (hF.2.2.2.2.1 _ hw) hd (kk D p e s m args below meth c H locs ls hF hK hE hz hR hS hA hL)
theorem qV_dup {v : Value} (hd : decode M.2.1 pc = .ok (.dup, 1)) (hv : v.category = 1) (kk : qV l M R EX G h0 sz0 k n h sz (pc + 1) L (v :: v :: st)) : qV l M R EX G h0 sz0 k n h sz pc L (v :: st) :=
  qV.step (fun _ _ _ _ _ _ _ _ _ _ _ _ hx hb k => lv_dup hx hb hd hv k) kk
theorem qV_dup2 {v w : Value} (hd : decode M.2.1 pc = .ok (.dup2, 1)) (hv : v.category = 1) (hw : w.category = 1) (kk : qV l M R EX G h0 sz0 k n h sz (pc + 1) L (v :: w :: v :: w :: st)) : qV l M R EX G h0 sz0 k n h sz pc L (v :: w :: st) :=
  qV.step (fun _ _ _ _ _ _ _ _ _ _ _ _ hx hb k => lv_dup2_11 hx hb hd hv hw k) kk
theorem qV_goto {off : Int} (tgt : Nat) (hd : decode M.2.1 pc = .ok (.goto off, 3)) (ht : (pc : Int) + off = (tgt : Int)) (kk : qV l M R EX G h0 sz0 k n h sz tgt L st) : qV l M R EX G h0 sz0 k n h sz pc L st :=
  qV.step (fun _ _ _ _ _ _ _ _ _ _ _ _ hx hb k => lv_goto hx hb hd ht k) kk
/-- two ways on -/
theorem qV.fork {P : Prop} {pc1 pc2 : Nat} {st1 : List Value} (f : ∀ (p : Program) (e : Env) (s : State) (m : MethodId) (args : Array Value) (below : List Frame) (meth : Method) (c : Code) (H : Heap) (locs : List Loc) (ls : Array Slot) (Z : State → Prop), p.tables.exec = Jvm.exec → c.code = M.2.1 → (P → W p l e R s m args below meth c H locs k n Z (F0 m pc1 ls st1)) → (¬ P → W p l e R s m args below meth c H locs k n Z (F0 m pc2 ls st1)) → W p l e R s m args below meth c H locs k n Z (F0 m pc ls st))
    (kt : P → qV l M R EX G h0 sz0 k n h sz pc1 L st1) (kf : ¬ P → qV l M R EX G h0 sz0 k n h sz pc2 L st1) : qV l M R EX G h0 sz0 k n h sz pc L st :=
  fun D p e s m args below meth c H locs ls hF hK hE hz hR hS hA hL => f p e s m args below meth c H locs ls _ hF.1 hF.2.1 (fun q => kt q D p e s m args below meth c H locs ls hF hK hE hz hR hS hA hL) (fun q => kf q D p e s m args below meth c H locs ls hF hK hE hz hR hS hA hL)
theorem iR_lt {a b : Int} (ha : iR a) (hb : iR b) : Int32.ofInt a < Int32.ofInt b ↔ a < b := by rw [Int32.lt_iff_toInt_lt, iR_toInt ha, iR_toInt hb]
theorem iR_le {a b : Int} (ha : iR a) (hb : iR b) : Int32.ofInt a ≤ Int32.ofInt b ↔ a ≤ b := by rw [Int32.le_iff_toInt_le, iR_toInt ha, iR_toInt hb]
theorem iR_eq {a b : Int} (ha : iR a) (hb : iR b) : Int32.ofInt a = Int32.ofInt b ↔ a = b := ⟨fun e => by have := congrArg Int32.toInt e; rwa [iR_toInt ha, iR_toInt hb] at this, fun e => by rw [e]⟩
theorem qV_icmp_lt {a b off : Int} (tgt : Nat) (hd : decode M.2.1 pc = .ok (.if_icmp .lt off, 3)) (ht : (pc : Int) + off = (tgt : Int)) (ha : iR a) (hb : iR b) (kt : a < b → qV l M R EX G h0 sz0 k n h sz tgt L st) (kf : ¬ a < b → qV l M R EX G h0 sz0 k n h sz (pc + 3) L st) : qV l M R EX G h0 sz0 k n h sz pc L (vI b :: vI a :: st) :=
  qV.fork (P := a < b) (fun _ _ _ _ _ _ _ _ _ _ _ _ hx hc k1 k2 => lv_icmp_lt hx hc hd ht (fun q => k1 ((iR_lt ha hb).mp q)) (fun q => k2 (fun z => q ((iR_lt ha hb).mpr z)))) kt kf
theorem qV_icmp_ge {a b off : Int} (tgt : Nat) (hd : decode M.2.1 pc = .ok (.if_icmp .ge off, 3)) (ht : (pc : Int) + off = (tgt : Int)) (ha : iR a) (hb : iR b) (kt : b ≤ a → qV l M R EX G h0 sz0 k n h sz tgt L st) (kf : ¬ b ≤ a → qV l M R EX G h0 sz0 k n h sz (pc + 3) L st) : qV l M R EX G h0 sz0 k n h sz pc L (vI b :: vI a :: st) :=
  qV.fork (P := b ≤ a) (fun _ _ _ _ _ _ _ _ _ _ _ _ hx hc k1 k2 => lv_icmp_ge hx hc hd ht (fun q => k1 ((iR_le hb ha).mp q)) (fun q => k2 (fun z => q ((iR_le hb ha).mpr z)))) kt kf
theorem qV_icmp_gt {a b off : Int} (tgt : Nat) (hd : decode M.2.1 pc = .ok (.if_icmp .gt off, 3)) (ht : (pc : Int) + off = (tgt : Int)) (ha : iR a) (hb : iR b) (kt : b < a → qV l M R EX G h0 sz0 k n h sz tgt L st) (kf : ¬ b < a → qV l M R EX G h0 sz0 k n h sz (pc + 3) L st) : qV l M R EX G h0 sz0 k n h sz pc L (vI b :: vI a :: st) :=
  qV.fork (P := b < a) (fun _ _ _ _ _ _ _ _ _ _ _ _ hx hc k1 k2 => lv_icmp_gt hx hc hd ht (fun q => k1 ((iR_lt hb ha).mp q)) (fun q => k2 (fun z => q ((iR_lt hb ha).mpr z)))) kt kf
theorem qV_icmp_le {a b off : Int} (tgt : Nat) (hd : decode M.2.1 pc = .ok (.if_icmp .le off, 3)) (ht : (pc : Int) + off = (tgt : Int)) (ha : iR a) (hb : iR b) (kt : a ≤ b → qV l M R EX G h0 sz0 k n h sz tgt L st) (kf : ¬ a ≤ b → qV l M R EX G h0 sz0 k n h sz (pc + 3) L st) : qV l M R EX G h0 sz0 k n h sz pc L (vI b :: vI a :: st) :=
  qV.fork (P := a ≤ b) (fun _ _ _ _ _ _ _ _ _ _ _ _ hx hc k1 k2 => lv_icmp_le hx hc hd ht (fun q => k1 ((iR_le ha hb).mp q)) (fun q => k2 (fun z => q ((iR_le ha hb).mpr z)))) kt kf
theorem qV_icmp_eq {a b off : Int} (tgt : Nat) (hd : decode M.2.1 pc = .ok (.if_icmp .eq off, 3)) (ht : (pc : Int) + off = (tgt : Int)) (ha : iR a) (hb : iR b) (kt : a = b → qV l M R EX G h0 sz0 k n h sz tgt L st) (kf : ¬ a = b → qV l M R EX G h0 sz0 k n h sz (pc + 3) L st) : qV l M R EX G h0 sz0 k n h sz pc L (vI b :: vI a :: st) :=
  qV.fork (P := a = b) (fun _ _ _ _ _ _ _ _ _ _ _ _ hx hc k1 k2 => lv_icmp_eq hx hc hd ht (fun q => k1 ((iR_eq ha hb).mp q)) (fun q => k2 (fun z => q ((iR_eq ha hb).mpr z)))) kt kf
theorem qV_icmp_ne {a b off : Int} (tgt : Nat) (hd : decode M.2.1 pc = .ok (.if_icmp .ne off, 3)) (ht : (pc : Int) + off = (tgt : Int)) (ha : iR a) (hb : iR b) (kt : ¬ a = b → qV l M R EX G h0 sz0 k n h sz tgt L st) (kf : a = b → qV l M R EX G h0 sz0 k n h sz (pc + 3) L st) : qV l M R EX G h0 sz0 k n h sz pc L (vI b :: vI a :: st) :=
  qV.fork (P := ¬ a = b) (fun _ _ _ _ _ _ _ _ _ _ _ _ hx hc k1 k2 => lv_icmp_ne hx hc hd ht (fun q => k1 (fun z => q ((iR_eq ha hb).mpr z))) (fun q => k2 (fun z => z ((iR_eq ha hb).mp q)))) kt (fun q => kf (Classical.byContradiction q))
/-- the same number twice -/
theorem qV_same {v : Value} {z off : Int} (tgt : Nat) (hv : v = vI z) (hd : decode M.2.1 pc = .ok (.if_icmp .eq off, 3)) (ht : (pc : Int) + off = (tgt : Int)) (kt : qV l M R EX G h0 sz0 k n h sz tgt L st) : qV l M R EX G h0 sz0 k n h sz pc L (v :: v :: st) := by
  subst hv
  exact qV.fork (P := True) (st1 := st) (pc2 := pc + 3) (fun _ _ _ _ _ _ _ _ _ _ _ _ hx hc k1 k2 => lv_icmp_eq hx hc hd ht (fun q => k1 trivial) (fun q => absurd rfl q)) (fun _ => kt) (fun q => absurd trivial q)
theorem iR_lt0 {a : Int} (ha : iR a) : Int32.ofInt a < 0 ↔ a < 0 := iR_lt (b := 0) ha ⟨by decide, by decide⟩
theorem iR_le0 {a : Int} (ha : iR a) : Int32.ofInt a ≤ 0 ↔ a ≤ 0 := iR_le (b := 0) ha ⟨by decide, by decide⟩
theorem iR_0lt {a : Int} (ha : iR a) : 0 < Int32.ofInt a ↔ 0 < a := iR_lt (a := 0) ⟨by decide, by decide⟩ ha
theorem iR_0le {a : Int} (ha : iR a) : 0 ≤ Int32.ofInt a ↔ 0 ≤ a := iR_le (a := 0) ⟨by decide, by decide⟩ ha
theorem iR_eq0 {a : Int} (ha : iR a) : Int32.ofInt a = 0 ↔ a = 0 := iR_eq (b := 0) ha ⟨by decide, by decide⟩
theorem qV_iflt {a off : Int} (tgt : Nat) (hd : decode M.2.1 pc = .ok (.ifCond .lt off, 3)) (ht : (pc : Int) + off = (tgt : Int)) (ha : iR a) (kt : a < 0 → qV l M R EX G h0 sz0 k n h sz tgt L st) (kf : ¬ a < 0 → qV l M R EX G h0 sz0 k n h sz (pc + 3) L st) : qV l M R EX G h0 sz0 k n h sz pc L (vI a :: st) :=
  qV.fork (P := a < 0) (fun _ _ _ _ _ _ _ _ _ _ _ _ hx hc k1 k2 => lv_if_lt hx hc hd ht (fun q => k1 ((iR_lt0 ha).mp q)) (fun q => k2 (fun z => q ((iR_lt0 ha).mpr z)))) kt kf
theorem qV_ifle {a off : Int} (tgt : Nat) (hd : decode M.2.1 pc = .ok (.ifCond .le off, 3)) (ht : (pc : Int) + off = (tgt : Int)) (ha : iR a) (kt : a ≤ 0 → qV l M R EX G h0 sz0 k n h sz tgt L st) (kf : ¬ a ≤ 0 → qV l M R EX G h0 sz0 k n h sz (pc + 3) L st) : qV l M R EX G h0 sz0 k n h sz pc L (vI a :: st) :=
  qV.fork (P := a ≤ 0) (fun _ _ _ _ _ _ _ _ _ _ _ _ hx hc k1 k2 => lv_if_le hx hc hd ht (fun q => k1 ((iR_le0 ha).mp q)) (fun q => k2 (fun z => q ((iR_le0 ha).mpr z)))) kt kf
theorem qV_ifgt {a off : Int} (tgt : Nat) (hd : decode M.2.1 pc = .ok (.ifCond .gt off, 3)) (ht : (pc : Int) + off = (tgt : Int)) (ha : iR a) (kt : 0 < a → qV l M R EX G h0 sz0 k n h sz tgt L st) (kf : ¬ 0 < a → qV l M R EX G h0 sz0 k n h sz (pc + 3) L st) : qV l M R EX G h0 sz0 k n h sz pc L (vI a :: st) :=
  qV.fork (P := 0 < a) (fun _ _ _ _ _ _ _ _ _ _ _ _ hx hc k1 k2 => lv_if_gt hx hc hd ht (fun q => k1 ((iR_0lt ha).mp q)) (fun q => k2 (fun z => q ((iR_0lt ha).mpr z)))) kt kf
theorem qV_ifge {a off : Int} (tgt : Nat) (hd : decode M.2.1 pc = .ok (.ifCond .ge off, 3)) (ht : (pc : Int) + off = (tgt : Int)) (ha : iR a) (kt : 0 ≤ a → qV l M R EX G h0 sz0 k n h sz tgt L st) (kf : ¬ 0 ≤ a → qV l M R EX G h0 sz0 k n h sz (pc + 3) L st) : qV l M R EX G h0 sz0 k n h sz pc L (vI a :: st) :=
  qV.fork (P := 0 ≤ a) (fun _ _ _ _ _ _ _ _ _ _ _ _ hx hc k1 k2 => lv_if_ge hx hc hd ht (fun q => k1 ((iR_0le ha).mp q)) (fun q => k2 (fun z => q ((iR_0le ha).mpr z)))) kt kf
theorem qV_ifeq {a off : Int} (tgt : Nat) (hd : decode M.2.1 pc = .ok (.ifCond .eq off, 3)) (ht : (pc : Int) + off = (tgt : Int)) (ha : iR a) (kt : a = 0 → qV l M R EX G h0 sz0 k n h sz tgt L st) (kf : ¬ a = 0 → qV l M R EX G h0 sz0 k n h sz (pc + 3) L st) : qV l M R EX G h0 sz0 k n h sz pc L (vI a :: st) :=
  qV.fork (P := a = 0) (fun _ _ _ _ _ _ _ _ _ _ _ _ hx hc k1 k2 => lv_if_eq hx hc hd ht (fun q => k1 ((iR_eq0 ha).mp q)) (fun q => k2 (fun z => q ((iR_eq0 ha).mpr z)))) kt kf
theorem qV_ifne {a off : Int} (tgt : Nat) (hd : decode M.2.1 pc = .ok (.ifCond .ne off, 3)) (ht : (pc : Int) + off = (tgt : Int)) (ha : iR a) (kt : ¬ a = 0 → qV l M R EX G h0 sz0 k n h sz tgt L st) (kf : a = 0 → qV l M R EX G h0 sz0 k n h sz (pc + 3) L st) : qV l M R EX G h0 sz0 k n h sz pc L (vI a :: st) :=
  qV.fork (P := ¬ a = 0) (fun _ _ _ _ _ _ _ _ _ _ _ _ hx hc k1 k2 => lv_if_ne hx hc hd ht (fun q => k1 (fun z => q ((iR_eq0 ha).mpr z))) (fun q => k2 (fun z => z ((iR_eq0 ha).mp q)))) kt (fun q => kf (Classical.byContradiction q))
theorem iR_B (P : Prop) [Decidable P] : iR (if P then 1 else 0) := by split <;> exact ⟨by decide, by decide⟩
theorem qV_ifeqB {P : Prop} [Decidable P] {off : Int} (tgt : Nat) (hd : decode M.2.1 pc = .ok (.ifCond .eq off, 3)) (ht : (pc : Int) + off = (tgt : Int)) (kt : ¬ P → qV l M R EX G h0 sz0 k n h sz tgt L st) (kf : P → qV l M R EX G h0 sz0 k n h sz (pc + 3) L st) : qV l M R EX G h0 sz0 k n h sz pc L (vB P :: st) :=
  qV_ifeq tgt hd ht (iR_B P) (fun q => kt (fun z => by rw [if_pos z] at q; cases q)) (fun q => kf (Classical.byContradiction fun z => q (if_neg z)))
theorem qV_ifneB {P : Prop} [Decidable P] {off : Int} (tgt : Nat) (hd : decode M.2.1 pc = .ok (.ifCond .ne off, 3)) (ht : (pc : Int) + off = (tgt : Int)) (kt : P → qV l M R EX G h0 sz0 k n h sz tgt L st) (kf : ¬ P → qV l M R EX G h0 sz0 k n h sz (pc + 3) L st) : qV l M R EX G h0 sz0 k n h sz pc L (vB P :: st) :=
  qV_ifne tgt hd ht (iR_B P) (fun q => kt (Classical.byContradiction fun z => q (if_neg z))) (fun q => kf (fun z => by rw [if_pos z] at q; cases q))
theorem qV_ifnonnull {a : Nat} {off : Int} (tgt : Nat) (hd : decode M.2.1 pc = .ok (.ifnonnull off, 3)) (ht : (pc : Int) + off = (tgt : Int)) (kk : qV l M R EX G h0 sz0 k n h sz tgt L st) : qV l M R EX G h0 sz0 k n h sz pc L (.ref a :: st) :=
  qV.step (fun _ _ _ _ _ _ _ _ _ _ _ _ hx hb k => lv_ifnonnull hx hb hd ht k) kk
theorem qV_ifnull {a : Nat} {off : Int} (hd : decode M.2.1 pc = .ok (.ifnull off, 3)) (kk : qV l M R EX G h0 sz0 k n h sz (pc + 3) L st) : qV l M R EX G h0 sz0 k n h sz pc L (.ref a :: st) :=
  qV.step (fun _ _ _ _ _ _ _ _ _ _ _ _ hx hb k => lv_ifnull hx hb hd k) kk
theorem qV_ifnullN {off : Int} (tgt : Nat) (hd : decode M.2.1 pc = .ok (.ifnull off, 3)) (ht : (pc : Int) + off = (tgt : Int)) (kk : qV l M R EX G h0 sz0 k n h sz tgt L st) : qV l M R EX G h0 sz0 k n h sz pc L (.null :: st) :=
  qV.step (fun _ _ _ _ _ _ _ _ _ _ _ _ hx hb k => lv_ifnullN hx hb hd ht k) kk
theorem qV_ifnonnullN {off : Int} (hd : decode M.2.1 pc = .ok (.ifnonnull off, 3)) (kk : qV l M R EX G h0 sz0 k n h sz (pc + 3) L st) : qV l M R EX G h0 sz0 k n h sz pc L (.null :: st) :=
  qV.step (fun _ _ _ _ _ _ _ _ _ _ _ _ hx hb k => lv_ifnonnullN hx hb hd k) kk
end QV
end
section
theorem le_b {a b : Nat} (h : Nat.ble a b = true) : a ≤ b := Nat.le_of_ble_eq_true h
section QW
variable {l : Launch} {M : MI} {R : Room} {EX : State → Array Value → Prop} {G : qG} {h0 : qH} {sz0 k n : Nat} {h : qH} {sz pc : Nat} {L : List (Option Value)} {st : List Value}
theorem qV_get {ci N idx a : Nat} {C : String} {T : u_T} {ty : Nat → FieldType} {fs : List Value} {v : Value} (hk : qK ci C T N ty) (kf : Nat) (hkN : kf < N) (hlk : Cond.fieldLink M.1.cls idx C (T kf).2.1 (T kf).2.2.1 ∈ gt) (hown : (T kf).1 = C) (hd : decode M.2.1 pc = .ok (.getfield idx, 3)) (ha : h a = some (oB ci fs)) (hv : fs[kf]? = some v) (kk : qV l M R EX G h0 sz0 k n h sz (pc + 3) L (v :: st)) : qV l M R EX G h0 sz0 k n h sz pc L (.ref a :: st) :=
  fun D p e s m args below meth c H locs ls hF hK hE hz hR hS hA hL => va_get hF.1 hF.2.1 hF.2.2.2.2.1 hk.2.1 hF.2.2.2.1 hK.1 (hR.one ha) 0 rfl hk.1 kf hkN (hF.2.2.2.2.1 _ hlk) (fun x hx => by rw [hown] at hx; exact hx) hv hd (kk D p e s m args below meth c H locs ls hF hK hE hz hR hS hA hL)
theorem qV_getN {ci N idx a : Nat} {C host : String} {T : u_T} {ty : Nat → FieldType} {fs : List Value} {v : Value} (hk : qK ci C T N ty) (kf : Nat) (hkN : kf < N) (hlk : Cond.fieldLinkNest M.1.cls idx C (T kf).2.1 (T kf).2.2.1 host ∈ nst) (hown : (T kf).1 = C) (hd : decode M.2.1 pc = .ok (.getfield idx, 3)) (ha : h a = some (oB ci fs)) (hv : fs[kf]? = some v) (kk : qV l M R EX G h0 sz0 k n h sz (pc + 3) L (v :: st)) : qV l M R EX G h0 sz0 k n h sz pc L (.ref a :: st) :=
  fun D p e s m args below meth c H locs ls hF hK hE hz hR hS hA hL => va_getN hF.1 hF.2.1 hF.2.2.2.2.1 hk.2.1 hF.2.2.2.1 hK.1 (hR.one ha) 0 rfl hk.1 kf hkN (va_Nw.use rfl (hK.2.1 _ hlk)) (fun x hx => by rw [hown] at hx; exact hx) hv hd (kk D p e s m args below meth c H locs ls hF hK hE hz hR hS hA hL)
theorem qA_set {h0 h : qH} {sz0 a : Nat} {e e0 : qE} (hA : ∀ q, h q ≠ none → qA h0 sz0 q) (ha : h a = some e0) : ∀ q, hU h a e q ≠ none → qA h0 sz0 q := fun q hq => by
  by_cases hqa : q = a
  · subst hqa
    exact hA q (by rw [ha]; exact fun z => by cases z)
  · rw [hU_ne hqa] at hq
    exact hA q hq
theorem qV_put {ci N idx a : Nat} {C : String} {T : u_T} {ty : Nat → FieldType} {fs : List Value} {v : Value} (hk : qK ci C T N ty) (kf : Nat) (hkN : kf < N) (hlk : Cond.fieldLink M.1.cls idx C (T kf).2.1 (T kf).2.2.1 ∈ gt) (hown : (T kf).1 = C) (hfin : (T kf).2.2.2 = false) (hn : narrow (ty kf) v = v) (hfit : fits (ty kf) v = true) (hd : decode M.2.1 pc = .ok (.putfield idx, 3)) (ha : h a = some (oB ci fs)) (hl : kf < fs.length) (kk : qV l M R EX G h0 sz0 k n (hU h a (oB ci (fs.set kf v))) sz (pc + 3) L st) : qV l M R EX G h0 sz0 k n h sz pc L (v :: .ref a :: st) := by
  intro D p e s m args below meth c H locs ls hF hK hE hz hR hS hA hL
  obtain ⟨hc, hin, hty, hnm⟩ := hk
  have hts := hF.2.2.2.2.1
  have hap := va_apart (own := M.1.cls) hts hin ty hty hnm hK.1 hc
  obtain ⟨r, h1, cell, q1, q2, q3, q4⟩ := hR.2 a _ ha
  have hr : r = (C, T, N) := Option.some.inj (h1.symm.trans hc)
  subst hr
  obtain ⟨hSl, hfc, kC, hkC, hkind⟩ := hK.1.1 ci _ hc
  obtain ⟨cf, kf', fi, f, hi, hsl⟩ := hSl kf hkN
  have hlay := hts _ (hin _ (u_in_lay hkN))
  unfold u_lay at hlay
  rw [if_neg (by rw [hfin]; decide)] at hlay
  have hst := (u_facts hfc hkC (u_lays hts hin hkN) hi).1
  have h6 := u_store hfc hkC hkind hlay hi (hty kf hkN) hn hfit
  refine W.putK hF.1 hF.2.1 (f := f) ⟨hF.2.2.2.1, hts _ hlk, ⟨_, _, _, by rw [hown] at hi; exact hi⟩, hst⟩ (by rw [q2]; exact h6) q1 q3 (by rw [hsl]; exact k2_hasslot (q4 kf hkN)) rfl rfl hd fun H' e1 e2 e3 => ?_
  rw [hsl] at e1 ⊢
  exact kk D p e s m args below meth c H' _ ls hF hK hE hz (hR.set e2 e3 ⟨_, hc, t_OB.to (V := updV (vp_V fs) kf v) ⟨_, e1, q2, q3, t_set q4 hap hkN v⟩ (fun j _ => vp_updV_set hl v j)⟩) (hS.put e2 e3 (hA a (by rw [ha]; exact fun z => by cases z))) (qA_set hA ha) hL
theorem qV_putF {ci N idx a : Nat} {C : String} {T : u_T} {ty : Nat → FieldType} {fs : List Value} {v : Value} (hk : qK ci C T N ty) (kf : Nat) (hkN : kf < N) (hlk : Cond.fieldLink M.1.cls idx C (T kf).2.1 (T kf).2.2.1 ∈ gt) (hown : (T kf).1 = C) (hfin : (T kf).2.2.2 = true) (hcls : C = M.1.cls) (hinit : M.1.name = "<init>") (hn : narrow (ty kf) v = v) (hfit : fits (ty kf) v = true) (hd : decode M.2.1 pc = .ok (.putfield idx, 3)) (ha : h a = some (oB ci fs)) (hl : kf < fs.length) (kk : qV l M R EX G h0 sz0 k n (hU h a (oB ci (fs.set kf v))) sz (pc + 3) L st) : qV l M R EX G h0 sz0 k n h sz pc L (v :: .ref a :: st) := by
  intro D p e s m args below meth c H locs ls hF hK hE hz hR hS hA hL
  obtain ⟨hc, hin, hty, hnm⟩ := hk
  have hts := hF.2.2.2.2.1
  have hap := va_apart (own := M.1.cls) hts hin ty hty hnm hK.1 hc
  obtain ⟨r, h1, cell, q1, q2, q3, q4⟩ := hR.2 a _ ha
  have hr : r = (C, T, N) := Option.some.inj (h1.symm.trans hc)
  subst hr
  obtain ⟨hSl, hfc, kC, hkC, hkind⟩ := hK.1.1 ci _ hc
  obtain ⟨cf, kf', fi, f, hi, hsl⟩ := hSl kf hkN
  have hlay := hts _ (hin _ (u_in_lay hkN))
  unfold u_lay at hlay
  rw [if_pos hfin] at hlay
  have hst := (u_facts hfc hkC (u_lays hts hin hkN) hi).1
  have hcf : m.cls = cf := by
    obtain ⟨_, _, c', _, _, _, -, -, hf', -, -, -, hown2, -⟩ := Cond.laysFinal_spec hlay
    have e1 : c' = cf := by have := hi.symm.trans hf'; simp at this; exact this.1.symm
    rw [hown, hcls] at hown2
    rw [← e1]; exact Option.some.inj (hF.2.2.2.1.symm.trans hown2)
  have h6 := u_fits hfc hkC hkind (Or.inr hlay) hi (hty kf hkN) hn hfit
  refine W.putFinK hF.1 hF.2.1 hF.2.2.2.1 (hts _ hlk) (by rw [hown] at hi; exact hi) hst hcf (hF.2.2.2.2.2.2.2.trans hinit) (by rw [q2]; exact h6) q1 q3 (by rw [hsl]; exact k2_hasslot (q4 kf hkN)) rfl rfl hd fun H' e1 e2 e3 => ?_
  rw [hsl] at e1 ⊢
  exact kk D p e s m args below meth c H' _ ls hF hK hE hz (hR.set e2 e3 ⟨_, hc, t_OB.to (V := updV (vp_V fs) kf v) ⟨_, e1, q2, q3, t_set q4 hap hkN v⟩ (fun j _ => vp_updV_set hl v j)⟩) (hS.put e2 e3 (hA a (by rw [ha]; exact fun z => by cases z))) (qA_set hA ha) hL
theorem iR_in {z : Int} {N : Nat} (h : 0 ≤ z ∧ z < N ∧ z < 2147483648) : vp_in (Int32.ofInt z) N := vp_in_iff.mpr (by rw [iR_toInt ⟨by omega, h.2.2⟩]; exact ⟨h.1, h.2.1⟩)
theorem iR_cl {z : Int} (h : 0 ≤ z ∧ z < 2147483648) : (Int32.ofInt z).toNatClampNeg = z.toNat := Int32.toNatClampNeg_ofInt_of_le (by omega) (by omega)
theorem qV_iald {a N : Nat} {f : Nat → Int} {z : Int} (hd : decode M.2.1 pc = .ok (.iaload, 1)) (ha : h a = some (iA 0 N f)) (hz : 0 ≤ z ∧ z < N ∧ z < 2147483648) (kk : qV l M R EX G h0 sz0 k n h sz (pc + 1) L (vI (f z.toNat) :: st)) : qV l M R EX G h0 sz0 k n h sz pc L (vI z :: .ref a :: st) := by
  intro D p e s m args below meth c H locs ls hF hK hE hz' hR hS hA hL
  obtain ⟨cA, hT, hc⟩ := hR.2 a _ ha
  have hin := iR_in hz
  have hlt : (Int32.ofInt z).toNatClampNeg < N := Nat.not_le.mp fun q => hin (Or.inr q)
  refine W.iald (v := .int (Int32.ofInt (f z.toNat))) hF.1 hF.2.1 hc (hT.1 N (fun j => .int (Int32.ofInt (f j)))) (fun q => by cases q) (by show ¬ (_ ∨ (arrV _ _ _).slots.size ≤ _); rw [arrV_size]; exact hin) (by show (arrV _ _ _).slots[_]? = _; rw [arrV_read _ _ hlt, iR_cl ⟨hz.1, hz.2.2⟩]) rfl rfl hd ?_
  exact kk D p e s m args below meth c H locs ls hF hK hE hz' hR hS hA hL
theorem qV_zald {a N : Nat} {f : Nat → Int} {z : Int} (hd : decode M.2.1 pc = .ok (.baload, 1)) (ha : h a = some (iA 1 N f)) (hz : 0 ≤ z ∧ z < N ∧ z < 2147483648) (kk : qV l M R EX G h0 sz0 k n h sz (pc + 1) L (vI (f z.toNat) :: st)) : qV l M R EX G h0 sz0 k n h sz pc L (vI z :: .ref a :: st) := by
  intro D p e s m args below meth c H locs ls hF hK hE hz' hR hS hA hL
  obtain ⟨cA, hT, hc⟩ := hR.2 a _ ha
  have hin := iR_in hz
  have hlt : (Int32.ofInt z).toNatClampNeg < N := Nat.not_le.mp fun q => hin (Or.inr q)
  refine W.zald (v := .int (Int32.ofInt (f z.toNat))) hF.1 hF.2.1 hc (hT.1 N (fun j => .int (Int32.ofInt (f j)))) (fun q => by cases q) (by show ¬ (_ ∨ (arrV _ _ _).slots.size ≤ _); rw [arrV_size]; exact hin) (by show (arrV _ _ _).slots[_]? = _; rw [arrV_read _ _ hlt, iR_cl ⟨hz.1, hz.2.2⟩]) rfl rfl hd ?_
  exact kk D p e s m args below meth c H locs ls hF hK hE hz' hR hS hA hL
theorem qV_aald {a N kd : Nat} {f : Nat → Option Nat} {z : Int} (hkd : (aty kd).isReference = true) (hd : decode M.2.1 pc = .ok (.aaload, 1)) (ha : h a = some (rA kd N f)) (hz : 0 ≤ z ∧ z < N ∧ z < 2147483648) (kk : qV l M R EX G h0 sz0 k n h sz (pc + 1) L (va_rf (f z.toNat) :: st)) : qV l M R EX G h0 sz0 k n h sz pc L (vI z :: .ref a :: st) := by
  intro D p e s m args below meth c H locs ls hF hK hE hz' hR hS hA hL
  obtain ⟨cA, hT, hc⟩ := hR.2 a _ ha
  have hin := iR_in hz
  have hlt : (Int32.ofInt z).toNatClampNeg < N := Nat.not_le.mp fun q => hin (Or.inr q)
  refine W.aald (v := va_rf (f z.toNat)) (ty := aty kd) hF.1 hF.2.1 hc (hT.1 N (fun j => va_rf (f j))) hkd (fun q => by cases q) (by show ¬ (_ ∨ (arrV _ _ _).slots.size ≤ _); rw [arrV_size]; exact hin) (by show (arrV _ _ _).slots[_]? = _; rw [arrV_read _ _ hlt, iR_cl ⟨hz.1, hz.2.2⟩]) rfl rfl hd ?_
  exact kk D p e s m args below meth c H locs ls hF hK hE hz' hR hS hA hL
theorem qV_alen {a N kd : Nat} {f : Nat → Int} (hd : decode M.2.1 pc = .ok (.arraylength, 1)) (ha : h a = some (iA kd N f)) (kk : qV l M R EX G h0 sz0 k n h sz (pc + 1) L (vI N :: st)) : qV l M R EX G h0 sz0 k n h sz pc L (.ref a :: st) := by
  intro D p e s m args below meth c H locs ls hF hK hE hz' hR hS hA hL
  obtain ⟨cA, hT, hc⟩ := hR.2 a _ ha
  exact W.alen (n := Int32.ofInt N) hF.1 hF.2.1 hc (hT.1 N (fun j => .int (Int32.ofInt (f j)))) (by rw [vp_cell_i, arrV_size] <;> rfl) rfl rfl hd (kk D p e s m args below meth c H locs ls hF hK hE hz' hR hS hA hL)
theorem qV_alenR {a N kd : Nat} {f : Nat → Option Nat} (hd : decode M.2.1 pc = .ok (.arraylength, 1)) (ha : h a = some (rA kd N f)) (kk : qV l M R EX G h0 sz0 k n h sz (pc + 1) L (vI N :: st)) : qV l M R EX G h0 sz0 k n h sz pc L (.ref a :: st) := by
  intro D p e s m args below meth c H locs ls hF hK hE hz' hR hS hA hL
  obtain ⟨cA, hT, hc⟩ := hR.2 a _ ha
  exact W.alen (n := Int32.ofInt N) hF.1 hF.2.1 hc (hT.1 N (fun j => va_rf (f j))) (by rw [vp_cell_q, arrV_size] <;> rfl) rfl rfl hd (kk D p e s m args below meth c H locs ls hF hK hE hz' hR hS hA hL)
theorem qV_iast {a N : Nat} {f : Nat → Int} {z x : Int} (hd : decode M.2.1 pc = .ok (.iastore, 1)) (ha : h a = some (iA 0 N f)) (hz : 0 ≤ z ∧ z < N ∧ z < 2147483648) (kk : qV l M R EX G h0 sz0 k n (hU h a (iA 0 N (va_up f z.toNat x))) sz (pc + 1) L st) : qV l M R EX G h0 sz0 k n h sz pc L (vI x :: vI z :: .ref a :: st) := by
  intro D p e s m args below meth c H locs ls hF hK hE hz' hR hS hA hL
  obtain ⟨cA, hT, hc⟩ := hR.2 a _ ha
  have hin := iR_in hz
  refine W.iast hF.1 hF.2.1 hc (hT.1 N (fun j => .int (Int32.ofInt (f j)))) (fun q => by cases q) (by show ¬ (_ ∨ (arrV _ _ _).slots.size ≤ _); rw [arrV_size]; exact hin) rfl rfl hd fun H1 e1 z1 oq => ?_
  refine kk D p e s m args below meth c H1 _ ls hF hK hE hz' (hR.set z1 oq ⟨cA, hT, ?_⟩) (hS.put z1 oq (hA a (by rw [ha]; exact fun z => by cases z))) (qA_set hA ha) hL
  rw [e1, vp_cell_i, vp_cell_i, arrV_store, iR_cl ⟨hz.1, hz.2.2⟩]
  congr 2
  funext q
  by_cases hq : q = z.toNat
  · subst hq
    simp [updV, va_up]
  · simp [updV, va_up, hq]
theorem qV_zast {a N : Nat} {f : Nat → Int} {z x : Int} (hx : x = 0 ∨ x = 1) (hd : decode M.2.1 pc = .ok (.bastore, 1)) (ha : h a = some (iA 1 N f)) (hz : 0 ≤ z ∧ z < N ∧ z < 2147483648) (kk : qV l M R EX G h0 sz0 k n (hU h a (iA 1 N (va_up f z.toNat x))) sz (pc + 1) L st) : qV l M R EX G h0 sz0 k n h sz pc L (vI x :: vI z :: .ref a :: st) := by
  intro D p e s m args below meth c H locs ls hF hK hE hz' hR hS hA hL
  obtain ⟨cA, hT, hc⟩ := hR.2 a _ ha
  have hin := iR_in hz
  have hnx : narrow .boolean (.int (Int32.ofInt x)) = .int (Int32.ofInt x) := by rcases hx with rfl | rfl <;> rfl
  refine W.zast hF.1 hF.2.1 hc (hT.1 N (fun j => .int (Int32.ofInt (f j)))) (fun q => by cases q) (by show ¬ (_ ∨ (arrV _ _ _).slots.size ≤ _); rw [arrV_size]; exact hin) rfl rfl hd fun H1 e1 z1 oq => ?_
  refine kk D p e s m args below meth c H1 _ ls hF hK hE hz' (hR.set z1 oq ⟨cA, hT, ?_⟩) (hS.put z1 oq (hA a (by rw [ha]; exact fun z => by cases z))) (qA_set hA ha) hL
  rw [e1, hnx, vp_cell_i, vp_cell_i, arrV_store, iR_cl ⟨hz.1, hz.2.2⟩]
  congr 2
  funext q
  by_cases hq : q = z.toNat
  · subst hq
    simp [updV, va_up]
  · simp [updV, va_up, hq]
theorem qV_aast {a N kd v ci : Nat} {f : Nat → Option Nat} {z : Int} {C : String} {T : u_T} {N' : Nat} {ty : Nat → FieldType} {fs : List Value} (hk : qK ci C T N' ty) (hkd : aty kd = .object C) (hd : decode M.2.1 pc = .ok (.aastore, 1)) (ha : h a = some (rA kd N f)) (hv : h v = some (oB ci fs)) (hz : 0 ≤ z ∧ z < N ∧ z < 2147483648) (kk : qV l M R EX G h0 sz0 k n (hU h a (rA kd N (va_up f z.toNat (some v)))) sz (pc + 1) L st) : qV l M R EX G h0 sz0 k n h sz pc L (.ref v :: vI z :: .ref a :: st) := by
  intro D p e s m args below meth c H locs ls hF hK hE hz' hR hS hA hL
  obtain ⟨cA, hT, hc⟩ := hR.2 a _ ha
  have hin := iR_in hz
  have hlt : (Int32.ofInt z).toNatClampNeg < N := Nat.not_le.mp fun q => hin (Or.inr q)
  have h0' : ¬ Int32.ofInt z < 0 := fun q => hin (Or.inl q)
  obtain ⟨r', hr', cellV, g1, g2, g3, -⟩ := hR.2 v _ hv
  have hcls := (hK.1.1 ci _ hk.1).2
  have hT2 : va_RA s cA (.object C) := by rw [← hkd]; exact hT.2
  obtain ⟨kA, comp, k1, k2, k3, -⟩ := hT2
  have hcomp : comp = D.1 ci := Option.some.inj (k3.symm.trans hcls.1)
  subst hcomp
  obtain ⟨kC, hkC, -⟩ := hcls.2
  refine W.aast hF.1 hF.2.1 hc (fun q h => by cases h) (fun h => by cases h) k1 k2 rfl hkC ⟨h0', by show _ < (arrV _ _ _).slots.size; rw [arrV_size]; exact hlt⟩ g1 (fun q h => by rw [g3] at h; cases h) (by rw [g2]; exact hkC) (by rw [g2]; exact va_assign hcls) rfl rfl hd fun H1 e1 z1 oq => ?_
  refine kk D p e s m args below meth c H1 _ ls hF hK hE hz' (hR.set z1 oq ⟨cA, hT, ?_⟩) (hS.put z1 oq (hA a (by rw [ha]; exact fun z => by cases z))) (qA_set hA ha) hL
  rw [e1, vp_cell_q, vp_cell_q, arrV_store, iR_cl ⟨hz.1, hz.2.2⟩]
  congr 2
  funext q
  by_cases hq : q = z.toNat
  · subst hq
    simp [updV, va_up, va_rf]
  · simp [updV, va_up, hq]
theorem qS_push {h0 : qH} {sz0 : Nat} {s : State} {H H1 : Heap} {locs : List Loc} (hS : va_S (qA h0 sz0) s.heap H locs) (z1 : H1.size = H.size + 1) (o1 : ∀ q, q < H.size → H1[q]? = H[q]?) : va_S (qA h0 sz0) s.heap H1 locs :=
  ⟨Nat.le_trans hS.1 (by omega), fun x h1 h2 => (o1 x (Nat.lt_of_lt_of_le h1 hS.1)).trans (hS.2.1 x h1 h2), hS.2.2⟩
theorem qA_push {h0 h : qH} {sz0 sz : Nat} {e : qE} (hA : ∀ q, h q ≠ none → qA h0 sz0 q) (hle : sz0 ≤ sz) : ∀ q, hU h sz e q ≠ none → qA h0 sz0 q := fun q hq => by
  by_cases hqa : q = sz
  · subst hqa
    exact Or.inr hle
  · rw [hU_ne hqa] at hq
    exact hA q hq
theorem qV_new {ci N idx : Nat} {C : String} {T : u_T} {ty : Nat → FieldType} (fs : List Value) (hk : qK ci C T N ty) (hlk : Cond.classLink M.1.cls idx C ∈ gt) (hins : Cond.instantiable C N ∈ gt) (hini : Cond.initialized C ∈ gt) (hfs : ∀ j, j < N → defaultValue (ty j) = vp_V fs j) (hd : decode M.2.1 pc = .ok (.new idx, 3)) (hkc : k + 1 ≤ R.cells) (hkn : n + N ≤ R.slots) (kk : qV l M R EX G h0 sz0 (k + 1) (n + N) (hU h sz (oB ci fs)) (sz + 1) (pc + 3) L (.ref sz :: st)) : qV l M R EX G h0 sz0 k n h sz pc L st := by
  intro D p e s m args below meth c H locs ls hF hK hE hz hR hS hA hL
  have hts := hF.2.2.2.2.1
  have hKn := hK.1.1 ci _ hk.1
  obtain ⟨rfl, -⟩ := id hR
  refine W.newcK hF.1 hF.2.1 hF.2.2.2.1 (hts _ hlk) (hts _ hins) (hts _ hini) rfl hd hkc hkn hKn.2.1 rfl fun H1 kC hkC e1 z1 o1 => ?_
  exact kk D p e s m args below meth c H1 locs ls hF hK hE hz (hR.push z1 o1 ⟨_, hk.1, (u_born ty hts hk.2.1 hKn hkC e1 hk.2.2.1).to hfs⟩) (qS_push hS z1 o1) (qA_push hA (by have := hS.1; omega)) hL
theorem qV_newi {kd : Nat} {at0 : ArrayType} {z : Int} (hty : newarray.typeOf at0 = aty kd) (hdf : defaultValue (aty kd) = .int 0) (hwa : Cond.arrayClass (newarray.typeOf at0) ∈ gt) (hra : ∀ (s : State) (cA : ClassId), s.vm.findClass ("[" ++ (aty kd).toString) = some cA → va_RA s cA (aty kd)) (hd : decode M.2.1 pc = .ok (.newarray at0, 2)) (hz : 0 ≤ z ∧ z ≤ 100000) (hb : componentBytes (aty kd) ≤ 8) (hkc : k + 1 ≤ R.cells) (hkn : n + z.toNat ≤ R.slots) (kk : qV l M R EX G h0 sz0 (k + 1) (n + z.toNat) (hU h sz (iA kd z.toNat (fun _ => 0))) (sz + 1) (pc + 2) L (.ref sz :: st)) : qV l M R EX G h0 sz0 k n h sz pc L (vI z :: st) := by
  intro D p e s m args below meth c H locs ls hF hK hE hz' hR hS hA hL
  have hts := hF.2.2.2.2.1
  obtain ⟨rfl, -⟩ := id hR
  have hn0 : ¬ Int32.ofInt z < 0 := fun q => by have := (iR_lt0 ⟨by omega, by omega⟩).mp q; omega
  refine va_newaK (g := F0 m pc ls (vI z :: st)) hF.1 hF.2.1 (hts _ hwa) rfl hd rfl hn0 (iR_cl ⟨hz.1, by omega⟩) (by
    rw [hty]
    calc z.toNat * componentBytes (aty kd) ≤ 100000 * 8 := Nat.mul_le_mul (by omega) hb
      _ ≤ 536870912 := by decide) hkc hkn rfl fun H1 cA e1 z1 o1 hAr hNm => ?_
  rw [hty] at e1 hAr hNm
  exact kk D p e s m args below meth c H1 locs ls hF hK hE hz' (hR.push z1 o1 ⟨cA, ⟨hAr, hra s cA hNm⟩, by rw [e1, hdf]; rfl⟩) (qS_push hS z1 o1) (qA_push hA (by have := hS.1; omega)) hL
theorem qV_newr {kd idx : Nat} {C : String} {z : Int} (hty : aty kd = .object C) (hlk : Cond.classLink M.1.cls idx C ∈ gt) (hover : ∀ (D : va_G) (s : State), qKK D s → va_AO C s) (hd : decode M.2.1 pc = .ok (.anewarray idx, 3)) (hz : 0 ≤ z ∧ z ≤ 100000) (hkc : k + 1 ≤ R.cells) (hkn : n + z.toNat ≤ R.slots) (kk : qV l M R EX G h0 sz0 (k + 1) (n + z.toNat) (hU h sz (rA kd z.toNat (fun _ => none))) (sz + 1) (pc + 3) L (.ref sz :: st)) : qV l M R EX G h0 sz0 k n h sz pc L (vI z :: st) := by
  intro D p e s m args below meth c H locs ls hF hK hE hz' hR hS hA hL
  have hts := hF.2.2.2.2.1
  obtain ⟨rfl, -⟩ := id hR
  have hn0 : ¬ Int32.ofInt z < 0 := fun q => by have := (iR_lt0 ⟨by omega, by omega⟩).mp q; omega
  have hcl := iR_cl (z := z) ⟨hz.1, by omega⟩
  refine W.anew (g := F0 m pc ls (vI z :: st)) hF.1 hF.2.1 hF.2.2.2.1 (hts _ hlk) (va_AO.use (hover D s hK)) rfl hd rfl hn0 (by rw [hcl]; omega) hkc (by rw [hcl]; exact hkn) fun cA kA comp f1 f2 f3 f4 => ?_
  rw [hcl]
  generalize hH1 : H.push ({ cls := cA, slots := Array.replicate z.toNat .null, vm := .none } : Cell) = H1
  have z1 : H1.size = H.size + 1 := by rw [← hH1, Array.size_push]
  have e1 : H1[H.size]? = some (arrV cA z.toNat (fun _ => .null)) := by rw [← hH1, Array.getElem?_push_size, ← arrV_new]
  have o1 : ∀ q : Nat, q < H.size → H1[q]? = H[q]? := fun q hq => by rw [← hH1, Array.getElem?_push, if_neg (Nat.ne_of_lt hq)]
  have hAr : ArrOfT s cA (.object C) := fun N z => ⟨(fun k h => by cases h), kA, f2, comp, f3⟩
  exact kk D p e s m args below meth c H1 locs ls hF hK hE hz' (hR.push z1 o1 ⟨cA, by
    show ArrOfT s cA (aty kd) ∧ va_RA s cA (aty kd)
    rw [hty]
    exact ⟨hAr, kA, comp, f2, f3, f4, f1⟩, by rw [e1]; rfl⟩) (qS_push hS z1 o1) (qA_push hA (by have := hS.1; omega)) hL
theorem qV_objinit {idx a : Nat} (hlk : Cond.methodLink M.1.cls idx objectInit ∈ gt) (hd : decode M.2.1 pc = .ok (.invokespecial idx, 3)) (hfr : 1 ≤ R.frames) (hlo : (st.map fun v => v.category).sum + 12 ≤ R.locals) (kk : qV l M R EX G h0 sz0 k n h sz (pc + 3) L st) : qV l M R EX G h0 sz0 k n h sz pc L (.ref a :: st) := by
  intro D p e s m args below meth c H locs ls hF hK hE hz hR hS hA hL
  have hts := hF.2.2.2.2.1
  exact W.objInit hF.1 hF.2.1 hF.2.2.2.1 (hts _ hlk) (hts _ wi_obj) (hts _ wc_obj) rfl (hL.1.trans hF.2.2.1.symm) rfl hd hfr (by show 2 * 0 + _ + 12 ≤ _; omega) (kk D p e s m args below meth c H locs ls hF hK hE hz hR hS hA hL)
/-! calls -/
theorem qV.call {mc' ms' : Nat} {av rest : List Value} {Q' : Option Value → qH → Nat → Prop}
    (hr : ∀ (D : va_G) (p : Program) (e : Env) (s : State) (m : MethodId) (args : Array Value) (below : List Frame) (meth : Method) (c : Code) (H : Heap) (locs : List Loc) (ls : Array Slot), qF M p s m args meth c → qKK D s → qR D s H h sz → ls.size = M.2.2.1 → va_Run p l e R s m args below meth c H locs k n mc' ms' (F0 m pc ls st) rest (qQ D h sz Q' av.toArray) (qA h sz))
    (kk : ∀ v h' sz', Q' v h' sz' → qV l M R EX G h0 sz0 (k + mc') (n + ms') h' sz' (pc + 3) L (v.toList ++ rest)) : qV l M R EX G h0 sz0 k n h sz pc L st := by
  intro D p e s m args below meth c H locs ls hF hK hE hz hR hS hA hL T hT X
  obtain ⟨v, st₀, t, T', Lc, e0, X', hLc, e1, e2, ⟨v', h', sz', hv, hQ, hR', hdom, hle, hfr⟩, stp⟩ := hr D p e s m args below meth c H locs ls hF hK hR hL.1 T hT X
  cases hv
  have hvm : s.vm.Alike t.vm := by rw [← e2]; exact X'.warmed.alike
  have hR1 : qR D s T'.heap h' sz' := by rw [e1]; exact hR'.moved hvm.symm
  have hle0 : sz0 ≤ sz := by have := hS.1; have := hR.1; omega
  have hfree : ∀ q, qA h sz q → qA h0 sz0 q := fun q hq => hq.elim (hA q) (fun z => Or.inr (by omega))
  have hS1 : va_S (qA h0 sz0) s.heap T'.heap (locs ++ Lc) := by
    refine ⟨by rw [hz, hR1.1]; omega, fun q h1 h2 => ?_, fun q hq => ?_⟩
    · have hq0 : h q = none := by
        cases hh : h q with
        | none => rfl
        | some x => exact absurd (hA q (by rw [hh]; exact fun z => by cases z)) h2
      rw [e1, hfr q (by omega) hq0, e0]
      exact hS.2.1 q h1 h2
    · rcases List.mem_append.mp hq with hq | hq
      · exact hS.2.2 q hq
      · exact hfree _ (hLc q hq)
  obtain ⟨t2, a1, b1⟩ := kk v h' sz' hQ D p e s m args below meth c T'.heap (locs ++ Lc) ls hF hK hE hz hR1 hS1 (fun q hq => hfree q (hdom q hq)) hL T' rfl X'
  exact ⟨t2, stp t2 a1, b1⟩
theorem qBlind (D : va_G) (av : List Value) (h : qH) (sz : Nat) : FrameBlind (va_Pc av (fun U => qKK D U ∧ qR D U U.heap h sz)) := fun a U g mk hq => ⟨hq.1, hq.2.1.call, qR.moved (u := U) (U := U.calling g mk a) (Vm.Alike.refl U.vm) hq.2.2⟩
def qNh (M : MI) (a : Nat) : Prop := Cond.initialized M.1.cls ∈ gt ∧ Cond.code M.1 M.2.1 M.2.2.1 M.2.2.2.1 ∈ gt ∧ (M.1.cls ≠ "java/lang/invoke/MethodHandle" ∧ M.1.cls ≠ "java/lang/invoke/VarHandle") ∧ (parseMethodDescriptor M.1.desc).map (fun d => d.parameters.length) = some a
def qNv (M : MI) (a : Nat) : Prop := qNh M a ∧ Cond.instanceMethod M.1 ∈ gt ∧ Cond.selects M.1.cls M.1 M.1 ∈ gt
def qNs (M : MI) (a : Nat) : Prop := qNh M a ∧ Cond.static M.1 ∈ gt
def qNi (M : MI) (a : Nat) : Prop := qNh M a ∧ M.1.name = "<init>" ∧ M.2.2.2.1 = none ∧ Cond.instanceMethod M.1 ∈ gt
theorem qpay {M' : MI} {s : State} {args : Array Value} (hts : ∀ w ∈ gt, w.before args s = true) (hc : Cond.code M'.1 M'.2.1 M'.2.2.1 M'.2.2.2.1 ∈ gt) : ∀ w ∈ (Cond.code M'.1 M'.2.1 M'.2.2.1 M'.2.2.2.1 :: gt), ∀ (a' : Array Value) (U : State), s.WarmedH U.vm → w.before a' U = true :=
  pay_in hts (fun w hw => (List.mem_cons.mp hw).elim (fun e => by rw [e]; exact gt_good _ hc) (fun h => gt_good w h))
theorem qlen {M' : MI} {a : Nat} (hN : qNh M' a) : ∀ sig, parseMethodDescriptor M'.1.desc = some sig → a = sig.parameters.length := fun sig hs => by
  have h2 := hN.2.2.2
  rw [hs] at h2
  exact (Option.some.inj h2).symm
theorem qCB {M' : MI} {p : Program} {s : State} {m : MethodId} {args : Array Value} {meth : Method} {c : Code} {idx mc' ms' a : Nat} (hF : qF M p s m args meth c) (hN : qNh M' a) (hlk : Cond.methodLink M.1.cls idx M'.1 ∈ gt) (hrm : M'.2.2.2.2.1 + 1 ≤ R.frames ∧ 8 + (M'.2.2.1 + 11) + M'.2.2.2.2.2 ≤ R.locals) : CallB R s args M.1.cls idx M'.1 M'.2.1 M'.2.2.1 M'.2.2.2.1 (Cond.code M'.1 M'.2.1 M'.2.2.1 M'.2.2.2.1 :: gt) (mR M' mc' ms') mc' ms' a :=
  have hts := hF.2.2.2.2.1
  ⟨rfl, rfl, hrm.1, hrm.2, qpay hts hN.2.1, List.mem_cons_self, hts _ hN.2.1, hts _ hN.1, hN.2.2.1, qlen hN, hts _ hlk⟩
theorem qV_callV {M' : MI} {mc' ms' idx b ci N : Nat} {As rest fs : List Value} {T : u_T} {ty : Nat → FieldType} {Q' : Option Value → qH → Nat → Prop} (hc : qC l M' mc' ms' (.ref b :: As) h sz Q') (hN : qNv M' As.length) (hk : qK ci M'.1.cls T N ty) (hlk : Cond.methodLink M.1.cls idx M'.1 ∈ gt) (hd : decode M.2.1 pc = .ok (.invokevirtual idx, 3)) (ha : h b = some (oB ci fs)) (hrm : M'.2.2.2.2.1 + 1 ≤ R.frames ∧ 8 + (M'.2.2.1 + 11) + M'.2.2.2.2.2 ≤ R.locals) (hcs : k + mc' ≤ R.cells ∧ n + ms' ≤ R.slots) (hst : st = As.reverse ++ .ref b :: rest) (hcat : (rest.map fun v => v.category).sum ≤ 8)
    (kk : ∀ v h' sz', Q' v h' sz' → qV l M R EX G h0 sz0 (k + mc') (n + ms') h' sz' (pc + 3) L (v.toList ++ rest)) : qV l M R EX G h0 sz0 k n h sz pc L st := by
  refine qV.call (av := .ref b :: As) (fun D p e s m args below meth c H locs ls hF hK hR hsz => ?_) kk
  have hts := hF.2.2.2.2.1
  exact va_runV (As := As) (rest := rest) ⟨hF.1, hF.2.1, hF.2.2.1, hF.2.2.2.1, hts⟩ (hc D) ⟨qCB hF hN.1 hlk hrm, hts _ hN.2.1, hts _ hN.2.2⟩ ⟨qBlind D _ h sz, va_recv hK.1 (hR.one ha) hk.1 (q0 := 0) rfl, fun U hU hW => ⟨rfl, hK.warm hW, by rw [hU]; exact hR.moved hW.alike⟩⟩ rfl rfl hsz hst (lv_room hcat) hd hcs
theorem qV_callS {M' : MI} {mc' ms' idx : Nat} {As rest : List Value} {Q' : Option Value → qH → Nat → Prop} (hc : qC l M' mc' ms' As h sz Q') (hN : qNs M' As.length) (hlk : Cond.methodLink M.1.cls idx M'.1 ∈ gt) (hd : decode M.2.1 pc = .ok (.invokestatic idx, 3)) (hrm : M'.2.2.2.2.1 + 1 ≤ R.frames ∧ 8 + (M'.2.2.1 + 11) + M'.2.2.2.2.2 ≤ R.locals) (hcs : k + mc' ≤ R.cells ∧ n + ms' ≤ R.slots) (hst : st = As.reverse ++ rest) (hcat : (rest.map fun v => v.category).sum ≤ 8)
    (kk : ∀ v h' sz', Q' v h' sz' → qV l M R EX G h0 sz0 (k + mc') (n + ms') h' sz' (pc + 3) L (v.toList ++ rest)) : qV l M R EX G h0 sz0 k n h sz pc L st := by
  refine qV.call (av := As) (fun D p e s m args below meth c H locs ls hF hK hR hsz => ?_) kk
  have hts := hF.2.2.2.2.1
  exact va_runS (As := As) (rest := rest) ⟨hF.1, hF.2.1, hF.2.2.1, hF.2.2.2.1, hts⟩ (hc D) ⟨qCB hF hN.1 hlk hrm, hts _ hN.2⟩ ⟨qBlind D _ h sz, fun U hU hW => ⟨rfl, hK.warm hW, by rw [hU]; exact hR.moved hW.alike⟩⟩ rfl rfl hsz hst (lv_room hcat) hd hcs
theorem qV_callI {M' : MI} {mc' ms' idx b : Nat} {As rest : List Value} {Q' : Option Value → qH → Nat → Prop} (hc : qC l M' mc' ms' (.ref b :: As) h sz Q') (hN : qNi M' As.length) (hlk : Cond.methodLink M.1.cls idx M'.1 ∈ gt) (hd : decode M.2.1 pc = .ok (.invokespecial idx, 3)) (hrm : M'.2.2.2.2.1 + 1 ≤ R.frames ∧ 8 + (M'.2.2.1 + 11) + M'.2.2.2.2.2 ≤ R.locals) (hcs : k + mc' ≤ R.cells ∧ n + ms' ≤ R.slots) (hst : st = As.reverse ++ .ref b :: rest) (hcat : (rest.map fun v => v.category).sum ≤ 8)
    (kk : ∀ v h' sz', Q' v h' sz' → qV l M R EX G h0 sz0 (k + mc') (n + ms') h' sz' (pc + 3) L (v.toList ++ rest)) : qV l M R EX G h0 sz0 k n h sz pc L st := by
  refine qV.call (av := .ref b :: As) (fun D p e s m args below meth c H locs ls hF hK hR hsz => ?_) kk
  have hts := hF.2.2.2.2.1
  have hcb := qCB (R := R) (mc' := mc') (ms' := ms') hF hN.1 hlk hrm
  have hM := hc D
  rw [hN.2.2.1] at hcb hM
  exact va_runI (As := As) (rest := rest) ⟨hF.1, hF.2.1, hF.2.2.1, hF.2.2.2.1, hts⟩ hM ⟨hcb, hN.2.1, hts _ hN.2.2.2⟩ ⟨qBlind D _ h sz, fun U hU hW => ⟨rfl, hK.warm hW, by rw [hU]; exact hR.moved hW.alike⟩⟩ rfl rfl hsz hst (lv_room hcat) hd hcs
theorem qCN {M' : MI} {p : Program} {s : State} {m : MethodId} {args : Array Value} {meth : Method} {c : Code} {D : va_G} {idx mc' ms' a : Nat} {host : String} (hF : qF M p s m args meth c) (hK : qKK D s) (hN : qNh M' a) (hlk : Cond.methodLinkNest M.1.cls idx M'.1 host ∈ nst) (hrm : M'.2.2.2.2.1 + 1 ≤ R.frames ∧ 8 + (M'.2.2.1 + 11) + M'.2.2.2.2.2 ≤ R.locals) : va_CN R s args M.1.cls idx M'.1 host M'.2.1 M'.2.2.1 M'.2.2.2.1 (Cond.code M'.1 M'.2.1 M'.2.2.1 M'.2.2.2.1 :: gt) (mR M' mc' ms') mc' ms' a :=
  have hts := hF.2.2.2.2.1
  ⟨⟨rfl, rfl, hrm.1, hrm.2, qpay hts hN.2.1, List.mem_cons_self⟩, hts _ hN.2.1, hts _ hN.1, hN.2.2.1, qlen hN, va_Nw.use rfl (hK.2.1 _ hlk)⟩
theorem qV_callSN {M' : MI} {mc' ms' idx : Nat} {host : String} {As rest : List Value} {Q' : Option Value → qH → Nat → Prop} (hc : qC l M' mc' ms' As h sz Q') (hN : qNs M' As.length) (hlk : Cond.methodLinkNest M.1.cls idx M'.1 host ∈ nst) (hd : decode M.2.1 pc = .ok (.invokestatic idx, 3)) (hrm : M'.2.2.2.2.1 + 1 ≤ R.frames ∧ 8 + (M'.2.2.1 + 11) + M'.2.2.2.2.2 ≤ R.locals) (hcs : k + mc' ≤ R.cells ∧ n + ms' ≤ R.slots) (hst : st = As.reverse ++ rest) (hcat : (rest.map fun v => v.category).sum ≤ 8)
    (kk : ∀ v h' sz', Q' v h' sz' → qV l M R EX G h0 sz0 (k + mc') (n + ms') h' sz' (pc + 3) L (v.toList ++ rest)) : qV l M R EX G h0 sz0 k n h sz pc L st := by
  refine qV.call (av := As) (fun D p e s m args below meth c H locs ls hF hK hR hsz => ?_) kk
  have hts := hF.2.2.2.2.1
  exact va_runSN (As := As) (rest := rest) ⟨hF.1, hF.2.1, hF.2.2.1, hF.2.2.2.1, hts⟩ (hc D) ⟨qCN hF hK hN.1 hlk hrm, hts _ hN.2, trivial⟩ ⟨qBlind D _ h sz, fun U hU hW => ⟨rfl, hK.warm hW, by rw [hU]; exact hR.moved hW.alike⟩⟩ rfl rfl hsz hst (lv_room hcat) hd hcs
theorem qV_callIN {M' : MI} {mc' ms' idx b : Nat} {host : String} {As rest : List Value} {Q' : Option Value → qH → Nat → Prop} (hc : qC l M' mc' ms' (.ref b :: As) h sz Q') (hN : qNi M' As.length) (hlk : Cond.methodLinkNest M.1.cls idx M'.1 host ∈ nst) (hd : decode M.2.1 pc = .ok (.invokespecial idx, 3)) (hrm : M'.2.2.2.2.1 + 1 ≤ R.frames ∧ 8 + (M'.2.2.1 + 11) + M'.2.2.2.2.2 ≤ R.locals) (hcs : k + mc' ≤ R.cells ∧ n + ms' ≤ R.slots) (hst : st = As.reverse ++ .ref b :: rest) (hcat : (rest.map fun v => v.category).sum ≤ 8)
    (kk : ∀ v h' sz', Q' v h' sz' → qV l M R EX G h0 sz0 (k + mc') (n + ms') h' sz' (pc + 3) L (v.toList ++ rest)) : qV l M R EX G h0 sz0 k n h sz pc L st := by
  refine qV.call (av := .ref b :: As) (fun D p e s m args below meth c H locs ls hF hK hR hsz => ?_) kk
  have hts := hF.2.2.2.2.1
  have hcb := qCN (R := R) (mc' := mc') (ms' := ms') hF hK hN.1 hlk hrm
  have hM := hc D
  rw [hN.2.2.1] at hcb hM
  exact va_runIN (As := As) (rest := rest) ⟨hF.1, hF.2.1, hF.2.2.1, hF.2.2.2.1, hts⟩ hM ⟨hcb, hN.2.1, hts _ hN.2.2.2⟩ ⟨qBlind D _ h sz, fun U hU hW => ⟨rfl, hK.warm hW, by rw [hU]; exact hR.moved hW.alike⟩⟩ rfl rfl hsz hst (lv_room hcat) hd hcs
theorem qV_fix {k' n' pc' : Nat} {st' : List Value} (kk : qV l M R EX G h0 sz0 k' n' h sz pc' L st') (e1 : k = k') (e2 : n = n') (e3 : pc = pc') (e4 : st = st') : qV l M R EX G h0 sz0 k n h sz pc L st := by subst e1; subst e2; subst e3; subst e4; exact kk
theorem qV_heap {h' : qH} {sz' : Nat} (kk : qV l M R EX G h0 sz0 k n h' sz' pc L st) (e1 : h = h') (e2 : sz = sz') : qV l M R EX G h0 sz0 k n h sz pc L st := by subst e1; subst e2; exact kk
/-! the end of a method -/
theorem qEnd {D : va_G} {s t : State} {H : Heap} {locs : List Loc} {args : Array Value} {Q : Option Value → qH → Nat → Prop} {v : Option Value} (hz : s.heap.size = sz0) (hR : qR D s H h sz) (hS : va_S (qA h0 sz0) s.heap H locs) (hA : ∀ q, h q ≠ none → qA h0 sz0 q) (hq : Q v h sz) (ht : t.heap = H) (hW : s.WarmedH t.vm) : qQ D h0 sz0 Q args s (.returned v) t :=
  ⟨v, h, sz, rfl, hq, by rw [ht]; exact hR.moved hW.alike, hA, by have := hS.1; have := hR.1; omega, fun q h1 h2 => by
    rw [ht]
    exact hS.2.1 q (by omega) (fun z => z.elim (fun y => y h2) (fun y => by omega))⟩
variable {mc ms : Nat} {Q : Option Value → qH → Nat → Prop}
theorem qV_iret {z : Int} (hd : decode M.2.1 pc = .ok (.ireturn, 1)) (hr : M.2.2.2.1 = some .int) (hk : k ≤ mc) (hn : n ≤ ms) (hq : Q (some (vI z)) h sz) : qVM l M mc ms h0 sz0 Q k n h sz pc L [vI z] := by
  intro D p e s m args below meth c H locs ls hF hK hE hz hR hS hA hL
  refine W.widen hk hn ?_
  exact W.iret hF.1 hF.2.1 (hF.2.2.2.2.2.1.trans hr) (fun t ht hW => qEnd hz hR hS hA hq ht hW) hS.2.2 hd hF.2.2.2.2.2.2.1
theorem qV_zret {z : Int} (hd : decode M.2.1 pc = .ok (.ireturn, 1)) (hr : M.2.2.2.1 = some .boolean) (hz1 : z = 0 ∨ z = 1) (hk : k ≤ mc) (hn : n ≤ ms) (hq : Q (some (vI z)) h sz) : qVM l M mc ms h0 sz0 Q k n h sz pc L [vI z] := by
  intro D p e s m args below meth c H locs ls hF hK hE hz hR hS hA hL
  refine W.widen hk hn ?_
  exact W.zret hF.1 hF.2.1 (hF.2.2.2.2.2.1.trans hr) (by rcases hz1 with rfl | rfl <;> rfl) (fun t ht hW => qEnd hz hR hS hA hq ht hW) hS.2.2 hd hF.2.2.2.2.2.2.1
theorem qV_lret {z : Int} (hd : decode M.2.1 pc = .ok (.lreturn, 1)) (hr : M.2.2.2.1 = some .long) (hk : k ≤ mc) (hn : n ≤ ms) (hq : Q (some (vL z)) h sz) : qVM l M mc ms h0 sz0 Q k n h sz pc L [vL z] := by
  intro D p e s m args below meth c H locs ls hF hK hE hz hR hS hA hL
  refine W.widen hk hn ?_
  exact W.lret hF.1 hF.2.1 (hF.2.2.2.2.2.1.trans hr) (fun t ht hW => qEnd hz hR hS hA hq ht hW) hS.2.2 hd hF.2.2.2.2.2.2.1
theorem qV_vret (hd : decode M.2.1 pc = .ok (.return_, 1)) (hr : M.2.2.2.1 = none) (hk : k ≤ mc) (hn : n ≤ ms) (hq : Q none h sz) : qVM l M mc ms h0 sz0 Q k n h sz pc L [] := by
  intro D p e s m args below meth c H locs ls hF hK hE hz hR hS hA hL
  refine W.widen hk hn ?_
  exact W.vret hF.1 hF.2.1 (hF.2.2.2.2.2.1.trans hr) (fun t ht hW => qEnd hz hR hS hA hq ht hW) hS.2.2 hd hF.2.2.2.2.2.2.1
theorem qV_aret {v : Value} {rt : FieldType} (hd : decode M.2.1 pc = .ok (.areturn, 1)) (hr : M.2.2.2.1 = some rt) (hrt : (∃ n, rt = .object n) ∨ ∃ t, rt = .array t) (hv : v = .null ∨ ∃ a, v = .ref a) (hk : k ≤ mc) (hn : n ≤ ms) (hq : Q (some v) h sz) : qVM l M mc ms h0 sz0 Q k n h sz pc L [v] := by
  intro D p e s m args below meth c H locs ls hF hK hE hz hR hS hA hL
  refine W.widen hk hn ?_
  exact W.aret hF.1 hF.2.1 (hF.2.2.2.2.2.1.trans hr) hrt hv (fun t ht hW => qEnd hz hR hS hA hq ht hW) hS.2.2 hd hF.2.2.2.2.2.2.1
end QW
end
section
theorem nX0_init : qNi mX0_init 0 := ⟨⟨wn_X0, wcX0_init, by decide +kernel, by decide +kernel⟩, rfl, rfl, wiX0_init⟩
theorem nX0_takesOver : qNv mX0_takesOver 3 := ⟨⟨wn_X0, wcX0_takesOver, by decide +kernel, by decide +kernel⟩, wiX0_takesOver, wvX0_takesOver⟩
theorem nX0_beginsBehind : qNv mX0_beginsBehind 1 := ⟨⟨wn_X0, wcX0_beginsBehind, by decide +kernel, by decide +kernel⟩, wiX0_beginsBehind, wvX0_beginsBehind⟩
theorem nX0_meets : qNv mX0_meets 2 := ⟨⟨wn_X0, wcX0_meets, by decide +kernel, by decide +kernel⟩, wiX0_meets, wvX0_meets⟩
theorem nX0_bytesMore : qNv mX0_bytesMore 0 := ⟨⟨wn_X0, wcX0_bytesMore, by decide +kernel, by decide +kernel⟩, wiX0_bytesMore, wvX0_bytesMore⟩
theorem nX1_init : qNi mX1_init 0 := ⟨⟨wn_X1, wcX1_init, by decide +kernel, by decide +kernel⟩, rfl, rfl, wiX1_init⟩
theorem nX1_size : qNv mX1_size 0 := ⟨⟨wn_X1, wcX1_size, by decide +kernel, by decide +kernel⟩, wiX1_size, wvX1_size⟩
theorem nX1_forgets : qNv mX1_forgets 0 := ⟨⟨wn_X1, wcX1_forgets, by decide +kernel, by decide +kernel⟩, wiX1_forgets, wvX1_forgets⟩
theorem nX1_latestPage : qNv mX1_latestPage 0 := ⟨⟨wn_X1, wcX1_latestPage, by decide +kernel, by decide +kernel⟩, wiX1_latestPage, wvX1_latestPage⟩
theorem nX1_remembers : qNv mX1_remembers 1 := ⟨⟨wn_X1, wcX1_remembers, by decide +kernel, by decide +kernel⟩, wiX1_remembers, wvX1_remembers⟩
theorem nX1_restores : qNv mX1_restores 1 := ⟨⟨wn_X1, wcX1_restores, by decide +kernel, by decide +kernel⟩, wiX1_restores, wvX1_restores⟩
theorem nX2_init : qNi mX2_init 1 := ⟨⟨wn_X2, wcX2_init, by decide +kernel, by decide +kernel⟩, rfl, rfl, wiX2_init⟩
theorem nX2_becomes : qNv mX2_becomes 1 := ⟨⟨wn_X2, wcX2_becomes, by decide +kernel, by decide +kernel⟩, wiX2_becomes, wvX2_becomes⟩
theorem nX2_replaces : qNv mX2_replaces 3 := ⟨⟨wn_X2, wcX2_replaces, by decide +kernel, by decide +kernel⟩, wiX2_replaces, wvX2_replaces⟩
theorem nX2_takesOut : qNv mX2_takesOut 2 := ⟨⟨wn_X2, wcX2_takesOut, by decide +kernel, by decide +kernel⟩, wiX2_takesOut, wvX2_takesOut⟩
theorem nX2_putsIn : qNv mX2_putsIn 2 := ⟨⟨wn_X2, wcX2_putsIn, by decide +kernel, by decide +kernel⟩, wiX2_putsIn, wvX2_putsIn⟩
theorem nX2_placeAfterTaking : qNs mX2_placeAfterTaking 3 := ⟨⟨wn_X2, wcX2_placeAfterTaking, by decide +kernel, by decide +kernel⟩, wtX2_placeAfterTaking⟩
theorem nX2_placeAfterPutting : qNs mX2_placeAfterPutting 3 := ⟨⟨wn_X2, wcX2_placeAfterPutting, by decide +kernel, by decide +kernel⟩, wtX2_placeAfterPutting⟩
theorem nX2_shrinksChunks : qNv mX2_shrinksChunks 2 := ⟨⟨wn_X2, wcX2_shrinksChunks, by decide +kernel, by decide +kernel⟩, wiX2_shrinksChunks, wvX2_shrinksChunks⟩
theorem nX2_joinsChunks : qNv mX2_joinsChunks 1 := ⟨⟨wn_X2, wcX2_joinsChunks, by decide +kernel, by decide +kernel⟩, wiX2_joinsChunks, wvX2_joinsChunks⟩
theorem nX2_growsChunk : qNv mX2_growsChunk 2 := ⟨⟨wn_X2, wcX2_growsChunk, by decide +kernel, by decide +kernel⟩, wiX2_growsChunk, wvX2_growsChunk⟩
theorem nX2_splitsChunk : qNv mX2_splitsChunk 2 := ⟨⟨wn_X2, wcX2_splitsChunk, by decide +kernel, by decide +kernel⟩, wiX2_splitsChunk, wvX2_splitsChunk⟩
theorem nX2_chunkOfByteAhead : qNv mX2_chunkOfByteAhead 1 := ⟨⟨wn_X2, wcX2_chunkOfByteAhead, by decide +kernel, by decide +kernel⟩, wiX2_chunkOfByteAhead, wvX2_chunkOfByteAhead⟩
theorem nX2_chunkBegin : qNv mX2_chunkBegin 1 := ⟨⟨wn_X2, wcX2_chunkBegin, by decide +kernel, by decide +kernel⟩, wiX2_chunkBegin, wvX2_chunkBegin⟩
theorem nX2_markPlace : qNv mX2_markPlace 1 := ⟨⟨wn_X2, wcX2_markPlace, by decide +kernel, by decide +kernel⟩, wiX2_markPlace, wvX2_markPlace⟩
theorem nX2_putMark : qNv mX2_putMark 2 := ⟨⟨wn_X2, wcX2_putMark, by decide +kernel, by decide +kernel⟩, wiX2_putMark, wvX2_putMark⟩
theorem nX2_marksSet : qNv mX2_marksSet 0 := ⟨⟨wn_X2, wcX2_marksSet, by decide +kernel, by decide +kernel⟩, wiX2_marksSet, wvX2_marksSet⟩
theorem nX2_markFrom : qNv mX2_markFrom 1 := ⟨⟨wn_X2, wcX2_markFrom, by decide +kernel, by decide +kernel⟩, wiX2_markFrom, wvX2_markFrom⟩
theorem nX2_readsLetter : qNv mX2_readsLetter 0 := ⟨⟨wn_X2, wcX2_readsLetter, by decide +kernel, by decide +kernel⟩, wiX2_readsLetter, wvX2_readsLetter⟩
theorem nX3_init : qNi mX3_init 1 := ⟨⟨wn_X3, wcX3_init, by decide +kernel, by decide +kernel⟩, rfl, rfl, wiX3_init⟩
theorem nX3_size : qNv mX3_size 0 := ⟨⟨wn_X3, wcX3_size, by decide +kernel, by decide +kernel⟩, wiX3_size, wvX3_size⟩
theorem nX3_get : qNv mX3_get 1 := ⟨⟨wn_X3, wcX3_get, by decide +kernel, by decide +kernel⟩, wiX3_get, wvX3_get⟩
theorem nX3_set : qNv mX3_set 2 := ⟨⟨wn_X3, wcX3_set, by decide +kernel, by decide +kernel⟩, wiX3_set, wvX3_set⟩
theorem nX3_add : qNv mX3_add 1 := ⟨⟨wn_X3, wcX3_add, by decide +kernel, by decide +kernel⟩, wiX3_add, wvX3_add⟩
theorem nX3_empties : qNv mX3_empties 0 := ⟨⟨wn_X3, wcX3_empties, by decide +kernel, by decide +kernel⟩, wiX3_empties, wvX3_empties⟩
theorem nX3_shortensTo : qNv mX3_shortensTo 1 := ⟨⟨wn_X3, wcX3_shortensTo, by decide +kernel, by decide +kernel⟩, wiX3_shortensTo, wvX3_shortensTo⟩
theorem nX3_copies : qNv mX3_copies 1 := ⟨⟨wn_X3, wcX3_copies, by decide +kernel, by decide +kernel⟩, wiX3_copies, wvX3_copies⟩
theorem nX3_opens : qNv mX3_opens 2 := ⟨⟨wn_X3, wcX3_opens, by decide +kernel, by decide +kernel⟩, wiX3_opens, wvX3_opens⟩
theorem nX3_closes : qNv mX3_closes 2 := ⟨⟨wn_X3, wcX3_closes, by decide +kernel, by decide +kernel⟩, wiX3_closes, wvX3_closes⟩
theorem nX3_mixedInto : qNv mX3_mixedInto 1 := ⟨⟨wn_X3, wcX3_mixedInto, by decide +kernel, by decide +kernel⟩, wiX3_mixedInto, wvX3_mixedInto⟩
theorem nX4_init : qNi mX4_init 0 := ⟨⟨wn_X4, wcX4_init, by decide +kernel, by decide +kernel⟩, rfl, rfl, wiX4_init⟩
theorem nX4_size : qNv mX4_size 0 := ⟨⟨wn_X4, wcX4_size, by decide +kernel, by decide +kernel⟩, wiX4_size, wvX4_size⟩
theorem nX4_empties : qNv mX4_empties 0 := ⟨⟨wn_X4, wcX4_empties, by decide +kernel, by decide +kernel⟩, wiX4_empties, wvX4_empties⟩
theorem nX4_slot : qNv mX4_slot 1 := ⟨⟨wn_X4, wcX4_slot, by decide +kernel, by decide +kernel⟩, wiX4_slot, wvX4_slot⟩
theorem nX4_touches : qNv mX4_touches 2 := ⟨⟨wn_X4, wcX4_touches, by decide +kernel, by decide +kernel⟩, wiX4_touches, wvX4_touches⟩
theorem nX4_growth : qNv mX4_growth 0 := ⟨⟨wn_X4, wcX4_growth, by decide +kernel, by decide +kernel⟩, wiX4_growth, wvX4_growth⟩
theorem nX4_adds : qNv mX4_adds 3 := ⟨⟨wn_X4, wcX4_adds, by decide +kernel, by decide +kernel⟩, wiX4_adds, wvX4_adds⟩
theorem nX4_isBehind : qNv mX4_isBehind 2 := ⟨⟨wn_X4, wcX4_isBehind, by decide +kernel, by decide +kernel⟩, wiX4_isBehind, wvX4_isBehind⟩
theorem nX4_changesAll : qNv mX4_changesAll 1 := ⟨⟨wn_X4, wcX4_changesAll, by decide +kernel, by decide +kernel⟩, wiX4_changesAll, wvX4_changesAll⟩
theorem nX5_init : qNi mX5_init 0 := ⟨⟨wn_X5, wcX5_init, by decide +kernel, by decide +kernel⟩, rfl, rfl, wiX5_init⟩
theorem nX5_startsOver : qNv mX5_startsOver 0 := ⟨⟨wn_X5, wcX5_startsOver, by decide +kernel, by decide +kernel⟩, wiX5_startsOver, wvX5_startsOver⟩
theorem nX5_addsPlace : qNv mX5_addsPlace 4 := ⟨⟨wn_X5, wcX5_addsPlace, by decide +kernel, by decide +kernel⟩, wiX5_addsPlace, wvX5_addsPlace⟩
theorem nX5_measures : qNv mX5_measures 1 := ⟨⟨wn_X5, wcX5_measures, by decide +kernel, by decide +kernel⟩, wiX5_measures, wvX5_measures⟩
theorem nX5_rowOf : qNv mX5_rowOf 1 := ⟨⟨wn_X5, wcX5_rowOf, by decide +kernel, by decide +kernel⟩, wiX5_rowOf, wvX5_rowOf⟩
theorem nX5_ahead : qNv mX5_ahead 2 := ⟨⟨wn_X5, wcX5_ahead, by decide +kernel, by decide +kernel⟩, wiX5_ahead, wvX5_ahead⟩
theorem nX5_between : qNv mX5_between 3 := ⟨⟨wn_X5, wcX5_between, by decide +kernel, by decide +kernel⟩, wiX5_between, wvX5_between⟩
theorem nX5_lastPlace : qNv mX5_lastPlace 0 := ⟨⟨wn_X5, wcX5_lastPlace, by decide +kernel, by decide +kernel⟩, wiX5_lastPlace, wvX5_lastPlace⟩
theorem nX5_total : qNv mX5_total 1 := ⟨⟨wn_X5, wcX5_total, by decide +kernel, by decide +kernel⟩, wiX5_total, wvX5_total⟩
theorem nX5_placeBy : qNv mX5_placeBy 2 := ⟨⟨wn_X5, wcX5_placeBy, by decide +kernel, by decide +kernel⟩, wiX5_placeBy, wvX5_placeBy⟩
theorem nX5_farthest : qNv mX5_farthest 4 := ⟨⟨wn_X5, wcX5_farthest, by decide +kernel, by decide +kernel⟩, wiX5_farthest, wvX5_farthest⟩
theorem nX5_lines : qNv mX5_lines 0 := ⟨⟨wn_X5, wcX5_lines, by decide +kernel, by decide +kernel⟩, wiX5_lines, wvX5_lines⟩
theorem nX5_lineBegin : qNv mX5_lineBegin 1 := ⟨⟨wn_X5, wcX5_lineBegin, by decide +kernel, by decide +kernel⟩, wiX5_lineBegin, wvX5_lineBegin⟩
theorem nX5_lineEnd : qNv mX5_lineEnd 1 := ⟨⟨wn_X5, wcX5_lineEnd, by decide +kernel, by decide +kernel⟩, wiX5_lineEnd, wvX5_lineEnd⟩
theorem nX5_lineWidth : qNv mX5_lineWidth 1 := ⟨⟨wn_X5, wcX5_lineWidth, by decide +kernel, by decide +kernel⟩, wiX5_lineWidth, wvX5_lineWidth⟩
theorem nX5_lineByWidth : qNv mX5_lineByWidth 1 := ⟨⟨wn_X5, wcX5_lineByWidth, by decide +kernel, by decide +kernel⟩, wiX5_lineByWidth, wvX5_lineByWidth⟩
theorem nX5_sortsLines : qNv mX5_sortsLines 0 := ⟨⟨wn_X5, wcX5_sortsLines, by decide +kernel, by decide +kernel⟩, wiX5_sortsLines, wvX5_sortsLines⟩
theorem nX6_init : qNi mX6_init 0 := ⟨⟨wn_X6, wcX6_init, by decide +kernel, by decide +kernel⟩, rfl, rfl, wiX6_init⟩
theorem nX6_type : qNv mX6_type 1 := ⟨⟨wn_X6, wcX6_type, by decide +kernel, by decide +kernel⟩, wiX6_type, wvX6_type⟩
theorem nX6_clear : qNv mX6_clear 0 := ⟨⟨wn_X6, wcX6_clear, by decide +kernel, by decide +kernel⟩, wiX6_clear, wvX6_clear⟩
theorem nX6_edits : qNv mX6_edits 2 := ⟨⟨wn_X6, wcX6_edits, by decide +kernel, by decide +kernel⟩, wiX6_edits, wvX6_edits⟩
theorem nX6_stages : qNv mX6_stages 2 := ⟨⟨wn_X6, wcX6_stages, by decide +kernel, by decide +kernel⟩, wiX6_stages, wvX6_stages⟩
theorem nX6_does : qNv mX6_does 0 := ⟨⟨wn_X6, wcX6_does, by decide +kernel, by decide +kernel⟩, wiX6_does, wvX6_does⟩
theorem nX6_drops : qNv mX6_drops 0 := ⟨⟨wn_X6, wcX6_drops, by decide +kernel, by decide +kernel⟩, wiX6_drops, wvX6_drops⟩
theorem nX6_undo : qNv mX6_undo 0 := ⟨⟨wn_X6, wcX6_undo, by decide +kernel, by decide +kernel⟩, wiX6_undo, wvX6_undo⟩
theorem nX6_at : qNv mX6_at 1 := ⟨⟨wn_X6, wcX6_at, by decide +kernel, by decide +kernel⟩, wiX6_at, wvX6_at⟩
theorem nX6_tells : qNv mX6_tells 3 := ⟨⟨wn_X6, wcX6_tells, by decide +kernel, by decide +kernel⟩, wiX6_tells, wvX6_tells⟩
theorem nX6_spot : qNv mX6_spot 2 := ⟨⟨wn_X6, wcX6_spot, by decide +kernel, by decide +kernel⟩, wiX6_spot, wvX6_spot⟩
theorem nX6_column : qNv mX6_column 2 := ⟨⟨wn_X6, wcX6_column, by decide +kernel, by decide +kernel⟩, wiX6_column, wvX6_column⟩
theorem nX6_line : qNv mX6_line 2 := ⟨⟨wn_X6, wcX6_line, by decide +kernel, by decide +kernel⟩, wiX6_line, wvX6_line⟩
theorem nX6_wide : qNv mX6_wide 1 := ⟨⟨wn_X6, wcX6_wide, by decide +kernel, by decide +kernel⟩, wiX6_wide, wvX6_wide⟩
theorem nX6_chunk : qNv mX6_chunk 2 := ⟨⟨wn_X6, wcX6_chunk, by decide +kernel, by decide +kernel⟩, wiX6_chunk, wvX6_chunk⟩
theorem nX6_marks : qNv mX6_marks 2 := ⟨⟨wn_X6, wcX6_marks, by decide +kernel, by decide +kernel⟩, wiX6_marks, wvX6_marks⟩
theorem nX6_lifts : qNv mX6_lifts 1 := ⟨⟨wn_X6, wcX6_lifts, by decide +kernel, by decide +kernel⟩, wiX6_lifts, wvX6_lifts⟩
theorem nX6_mark : qNv mX6_mark 1 := ⟨⟨wn_X6, wcX6_mark, by decide +kernel, by decide +kernel⟩, wiX6_mark, wvX6_mark⟩
theorem nX6_next : qNv mX6_next 1 := ⟨⟨wn_X6, wcX6_next, by decide +kernel, by decide +kernel⟩, wiX6_next, wvX6_next⟩
theorem nX6_seeks : qNv mX6_seeks 1 := ⟨⟨wn_X6, wcX6_seeks, by decide +kernel, by decide +kernel⟩, wiX6_seeks, wvX6_seeks⟩
theorem nX6_reads : qNv mX6_reads 0 := ⟨⟨wn_X6, wcX6_reads, by decide +kernel, by decide +kernel⟩, wiX6_reads, wvX6_reads⟩
theorem nX6_keep : qNv mX6_keep 1 := ⟨⟨wn_X6, wcX6_keep, by decide +kernel, by decide +kernel⟩, wiX6_keep, wvX6_keep⟩
theorem nX6_back : qNv mX6_back 1 := ⟨⟨wn_X6, wcX6_back, by decide +kernel, by decide +kernel⟩, wiX6_back, wvX6_back⟩
theorem nX6_count : qNv mX6_count 1 := ⟨⟨wn_X6, wcX6_count, by decide +kernel, by decide +kernel⟩, wiX6_count, wvX6_count⟩
theorem nX6_digest : qNv mX6_digest 0 := ⟨⟨wn_X6, wcX6_digest, by decide +kernel, by decide +kernel⟩, wiX6_digest, wvX6_digest⟩
theorem nX6_isPlace : qNv mX6_isPlace 1 := ⟨⟨wn_X6, wcX6_isPlace, by decide +kernel, by decide +kernel⟩, wiX6_isPlace, wvX6_isPlace⟩
theorem nX6_isStretch : qNv mX6_isStretch 2 := ⟨⟨wn_X6, wcX6_isStretch, by decide +kernel, by decide +kernel⟩, wiX6_isStretch, wvX6_isStretch⟩
theorem nX6_isLine : qNv mX6_isLine 1 := ⟨⟨wn_X6, wcX6_isLine, by decide +kernel, by decide +kernel⟩, wiX6_isLine, wvX6_isLine⟩
theorem nX6_isMeasure : qNs mX6_isMeasure 1 := ⟨⟨wn_X6, wcX6_isMeasure, by decide +kernel, by decide +kernel⟩, wtX6_isMeasure⟩
theorem nX6_isName : qNs mX6_isName 1 := ⟨⟨wn_X6, wcX6_isName, by decide +kernel, by decide +kernel⟩, wtX6_isName⟩
theorem nX6_measureInLine : qNs mX6_measureInLine 1 := ⟨⟨wn_X6, wcX6_measureInLine, by decide +kernel, by decide +kernel⟩, wtX6_measureInLine⟩
theorem nX6_widestPart : qNv mX6_widestPart 2 := ⟨⟨wn_X6, wcX6_widestPart, by decide +kernel, by decide +kernel⟩, wiX6_widestPart, wvX6_widestPart⟩
theorem nX6_beginsLetter : qNs mX6_beginsLetter 1 := ⟨⟨wn_X6, wcX6_beginsLetter, by decide +kernel, by decide +kernel⟩, wtX6_beginsLetter⟩
theorem nX6_cellsOf : qNs mX6_cellsOf 1 := ⟨⟨wn_X6, wcX6_cellsOf, by decide +kernel, by decide +kernel⟩, wtX6_cellsOf⟩
theorem nX7_init : qNi mX7_init 0 := ⟨⟨wn_X7, wcX7_init, by decide +kernel, by decide +kernel⟩, rfl, rfl, wiX7_init⟩
theorem nX7_in : qNs mX7_in 3 := ⟨⟨wn_X7, wcX7_in, by decide +kernel, by decide +kernel⟩, wtX7_in⟩
theorem nX7_isPlace : qNv mX7_isPlace 1 := ⟨⟨wn_X7, wcX7_isPlace, by decide +kernel, by decide +kernel⟩, wiX7_isPlace, wvX7_isPlace⟩
theorem nX7_byteAt : qNv mX7_byteAt 1 := ⟨⟨wn_X7, wcX7_byteAt, by decide +kernel, by decide +kernel⟩, wiX7_byteAt, wvX7_byteAt⟩
theorem nX7_chunkAt : qNv mX7_chunkAt 1 := ⟨⟨wn_X7, wcX7_chunkAt, by decide +kernel, by decide +kernel⟩, wiX7_chunkAt, wvX7_chunkAt⟩
theorem nX7_opens : qNv mX7_opens 2 := ⟨⟨wn_X7, wcX7_opens, by decide +kernel, by decide +kernel⟩, wiX7_opens, wvX7_opens⟩
theorem nX7_putting : qNv mX7_putting 4 := ⟨⟨wn_X7, wcX7_putting, by decide +kernel, by decide +kernel⟩, wiX7_putting, wvX7_putting⟩
theorem nX7_goes : qNs mX7_goes 3 := ⟨⟨wn_X7, wcX7_goes, by decide +kernel, by decide +kernel⟩, wtX7_goes⟩
theorem nX7_taking : qNv mX7_taking 2 := ⟨⟨wn_X7, wcX7_taking, by decide +kernel, by decide +kernel⟩, wiX7_taking, wvX7_taking⟩
theorem nX7_edit : qNv mX7_edit 5 := ⟨⟨wn_X7, wcX7_edit, by decide +kernel, by decide +kernel⟩, wiX7_edit, wvX7_edit⟩
theorem nX7_keeps : qNv mX7_keeps 0 := ⟨⟨wn_X7, wcX7_keeps, by decide +kernel, by decide +kernel⟩, wiX7_keeps, wvX7_keeps⟩
theorem nX7_type : qNv mX7_type 1 := ⟨⟨wn_X7, wcX7_type, by decide +kernel, by decide +kernel⟩, wiX7_type, wvX7_type⟩
theorem nX7_clear : qNv mX7_clear 0 := ⟨⟨wn_X7, wcX7_clear, by decide +kernel, by decide +kernel⟩, wiX7_clear, wvX7_clear⟩
theorem nX7_isEdit : qNv mX7_isEdit 2 := ⟨⟨wn_X7, wcX7_isEdit, by decide +kernel, by decide +kernel⟩, wiX7_isEdit, wvX7_isEdit⟩
theorem nX7_edits : qNv mX7_edits 2 := ⟨⟨wn_X7, wcX7_edits, by decide +kernel, by decide +kernel⟩, wiX7_edits, wvX7_edits⟩
theorem nX7_stages : qNv mX7_stages 2 := ⟨⟨wn_X7, wcX7_stages, by decide +kernel, by decide +kernel⟩, wiX7_stages, wvX7_stages⟩
theorem nX7_does : qNv mX7_does 0 := ⟨⟨wn_X7, wcX7_does, by decide +kernel, by decide +kernel⟩, wiX7_does, wvX7_does⟩
theorem nX7_drops : qNv mX7_drops 0 := ⟨⟨wn_X7, wcX7_drops, by decide +kernel, by decide +kernel⟩, wiX7_drops, wvX7_drops⟩
theorem nX7_undo : qNv mX7_undo 0 := ⟨⟨wn_X7, wcX7_undo, by decide +kernel, by decide +kernel⟩, wiX7_undo, wvX7_undo⟩
theorem nX7_isLetter : qNs mX7_isLetter 1 := ⟨⟨wn_X7, wcX7_isLetter, by decide +kernel, by decide +kernel⟩, wtX7_isLetter⟩
theorem nX7_has : qNs mX7_has 2 := ⟨⟨wn_X7, wcX7_has, by decide +kernel, by decide +kernel⟩, wtX7_has⟩
theorem nX7_measure : qNv mX7_measure 3 := ⟨⟨wn_X7, wcX7_measure, by decide +kernel, by decide +kernel⟩, wiX7_measure, wvX7_measure⟩
theorem nX7_at : qNv mX7_at 1 := ⟨⟨wn_X7, wcX7_at, by decide +kernel, by decide +kernel⟩, wiX7_at, wvX7_at⟩
theorem nX7_lineAt : qNv mX7_lineAt 1 := ⟨⟨wn_X7, wcX7_lineAt, by decide +kernel, by decide +kernel⟩, wiX7_lineAt, wvX7_lineAt⟩
theorem nX7_beyond : qNv mX7_beyond 4 := ⟨⟨wn_X7, wcX7_beyond, by decide +kernel, by decide +kernel⟩, wiX7_beyond, wvX7_beyond⟩
theorem nX7_tells : qNv mX7_tells 3 := ⟨⟨wn_X7, wcX7_tells, by decide +kernel, by decide +kernel⟩, wiX7_tells, wvX7_tells⟩
theorem nX7_spot : qNv mX7_spot 2 := ⟨⟨wn_X7, wcX7_spot, by decide +kernel, by decide +kernel⟩, wiX7_spot, wvX7_spot⟩
theorem nX7_lines : qNv mX7_lines 0 := ⟨⟨wn_X7, wcX7_lines, by decide +kernel, by decide +kernel⟩, wiX7_lines, wvX7_lines⟩
theorem nX7_isLine : qNv mX7_isLine 1 := ⟨⟨wn_X7, wcX7_isLine, by decide +kernel, by decide +kernel⟩, wiX7_isLine, wvX7_isLine⟩
theorem nX7_endOf : qNv mX7_endOf 1 := ⟨⟨wn_X7, wcX7_endOf, by decide +kernel, by decide +kernel⟩, wiX7_endOf, wvX7_endOf⟩
theorem nX7_column : qNv mX7_column 2 := ⟨⟨wn_X7, wcX7_column, by decide +kernel, by decide +kernel⟩, wiX7_column, wvX7_column⟩
theorem nX7_line : qNv mX7_line 2 := ⟨⟨wn_X7, wcX7_line, by decide +kernel, by decide +kernel⟩, wiX7_line, wvX7_line⟩
theorem nX7_cellsOf : qNv mX7_cellsOf 1 := ⟨⟨wn_X7, wcX7_cellsOf, by decide +kernel, by decide +kernel⟩, wiX7_cellsOf, wvX7_cellsOf⟩
theorem nX7_wide : qNv mX7_wide 1 := ⟨⟨wn_X7, wcX7_wide, by decide +kernel, by decide +kernel⟩, wiX7_wide, wvX7_wide⟩
theorem nX7_chunk : qNv mX7_chunk 2 := ⟨⟨wn_X7, wcX7_chunk, by decide +kernel, by decide +kernel⟩, wiX7_chunk, wvX7_chunk⟩
theorem nX7_isName : qNs mX7_isName 1 := ⟨⟨wn_X7, wcX7_isName, by decide +kernel, by decide +kernel⟩, wtX7_isName⟩
theorem nX7_marksOf : qNv mX7_marksOf 0 := ⟨⟨wn_X7, wcX7_marksOf, by decide +kernel, by decide +kernel⟩, wiX7_marksOf, wvX7_marksOf⟩
theorem nX7_told : qNs mX7_told 1 := ⟨⟨wn_X7, wcX7_told, by decide +kernel, by decide +kernel⟩, wtX7_told⟩
theorem nX7_marks : qNv mX7_marks 2 := ⟨⟨wn_X7, wcX7_marks, by decide +kernel, by decide +kernel⟩, wiX7_marks, wvX7_marks⟩
theorem nX7_lifts : qNv mX7_lifts 1 := ⟨⟨wn_X7, wcX7_lifts, by decide +kernel, by decide +kernel⟩, wiX7_lifts, wvX7_lifts⟩
theorem nX7_mark : qNv mX7_mark 1 := ⟨⟨wn_X7, wcX7_mark, by decide +kernel, by decide +kernel⟩, wiX7_mark, wvX7_mark⟩
theorem nX7_next : qNv mX7_next 1 := ⟨⟨wn_X7, wcX7_next, by decide +kernel, by decide +kernel⟩, wiX7_next, wvX7_next⟩
theorem nX7_seeks : qNv mX7_seeks 1 := ⟨⟨wn_X7, wcX7_seeks, by decide +kernel, by decide +kernel⟩, wiX7_seeks, wvX7_seeks⟩
theorem nX7_reads : qNv mX7_reads 0 := ⟨⟨wn_X7, wcX7_reads, by decide +kernel, by decide +kernel⟩, wiX7_reads, wvX7_reads⟩
theorem nX7_keep : qNv mX7_keep 1 := ⟨⟨wn_X7, wcX7_keep, by decide +kernel, by decide +kernel⟩, wiX7_keep, wvX7_keep⟩
theorem nX7_back : qNv mX7_back 1 := ⟨⟨wn_X7, wcX7_back, by decide +kernel, by decide +kernel⟩, wiX7_back, wvX7_back⟩
theorem nX7_count : qNv mX7_count 1 := ⟨⟨wn_X7, wcX7_count, by decide +kernel, by decide +kernel⟩, wiX7_count, wvX7_count⟩
theorem nX7_digest : qNv mX7_digest 0 := ⟨⟨wn_X7, wcX7_digest, by decide +kernel, by decide +kernel⟩, wiX7_digest, wvX7_digest⟩
theorem nJ9_max_7cf53 : qNs mJ9_max_7cf53 2 := ⟨⟨wn_J9, wcJ9_max_7cf53, by decide +kernel, by decide +kernel⟩, wtJ9_max_7cf53⟩
theorem nJ9_min_7cf53 : qNs mJ9_min_7cf53 2 := ⟨⟨wn_J9, wcJ9_min_7cf53, by decide +kernel, by decide +kernel⟩, wtJ9_min_7cf53⟩
/-- a method without an answer; one with an answer and a new heap -/
abbrev qVo (l : Launch) (M : MI) (mc ms : Nat) (av : List Value) (h : qH) (sz : Nat) (P : qH → Nat → Prop) : Prop := qC l M mc ms av h sz (fun v h2 sz2 => v = none ∧ P h2 sz2)
abbrev qRt (l : Launch) (M : MI) (mc ms : Nat) (av : List Value) (h : qH) (sz : Nat) (P : Value → qH → Nat → Prop) : Prop := qC l M mc ms av h sz (fun v h2 sz2 => ∃ w, v = some w ∧ P w h2 sz2)
section QC
variable {l : Launch} {M : MI} {R : Room} {EX : State → Array Value → Prop} {G : qG} {h0 : qH} {sz0 k n : Nat} {h : qH} {sz pc : Nat} {L : List (Option Value)} {st : List Value}
theorem qV_rdV {M' : MI} {idx b ci N : Nat} {As rest fs : List Value} {T : u_T} {ty : Nat → FieldType}  {w : Value} (hc : qRd l M' (.ref b :: As) h sz w) (hN : qNv M' As.length) (hk : qK ci M'.1.cls T N ty) (hlk : Cond.methodLink M.1.cls idx M'.1 ∈ gt) (hd : decode M.2.1 pc = .ok (.invokevirtual idx, 3)) (ha : h b = some (oB ci fs)) (hrm : M'.2.2.2.2.1 + 1 ≤ R.frames ∧ 8 + (M'.2.2.1 + 11) + M'.2.2.2.2.2 ≤ R.locals) (hcs : k ≤ R.cells ∧ n ≤ R.slots) (hst : st = As.reverse ++ .ref b :: rest) (hcat : (rest.map fun v => v.category).sum ≤ 8)
    (kk : qV l M R EX G h0 sz0 k n h sz (pc + 3) L (w :: rest)) : qV l M R EX G h0 sz0 k n h sz pc L st := qV_callV hc hN hk hlk hd ha hrm hcs hst hcat (fun v h2 sz2 e => by obtain ⟨rfl, rfl, rfl⟩ := e; exact kk)
theorem qV_voV {M' : MI} {mc' ms' idx b ci N : Nat} {As rest fs : List Value} {T : u_T} {ty : Nat → FieldType}  {P : qH → Nat → Prop} (hc : qVo l M' mc' ms' (.ref b :: As) h sz P) (hN : qNv M' As.length) (hk : qK ci M'.1.cls T N ty) (hlk : Cond.methodLink M.1.cls idx M'.1 ∈ gt) (hd : decode M.2.1 pc = .ok (.invokevirtual idx, 3)) (ha : h b = some (oB ci fs)) (hrm : M'.2.2.2.2.1 + 1 ≤ R.frames ∧ 8 + (M'.2.2.1 + 11) + M'.2.2.2.2.2 ≤ R.locals) (hcs : k + mc' ≤ R.cells ∧ n + ms' ≤ R.slots) (hst : st = As.reverse ++ .ref b :: rest) (hcat : (rest.map fun v => v.category).sum ≤ 8)
    (kk : ∀ h2 sz2, P h2 sz2 → qV l M R EX G h0 sz0 (k + mc') (n + ms') h2 sz2 (pc + 3) L rest) : qV l M R EX G h0 sz0 k n h sz pc L st := qV_callV hc hN hk hlk hd ha hrm hcs hst hcat (fun v h2 sz2 e => by obtain ⟨rfl, e⟩ := e; exact kk h2 sz2 e)
theorem qV_rtV {M' : MI} {mc' ms' idx b ci N : Nat} {As rest fs : List Value} {T : u_T} {ty : Nat → FieldType}  {P : Value → qH → Nat → Prop} (hc : qRt l M' mc' ms' (.ref b :: As) h sz P) (hN : qNv M' As.length) (hk : qK ci M'.1.cls T N ty) (hlk : Cond.methodLink M.1.cls idx M'.1 ∈ gt) (hd : decode M.2.1 pc = .ok (.invokevirtual idx, 3)) (ha : h b = some (oB ci fs)) (hrm : M'.2.2.2.2.1 + 1 ≤ R.frames ∧ 8 + (M'.2.2.1 + 11) + M'.2.2.2.2.2 ≤ R.locals) (hcs : k + mc' ≤ R.cells ∧ n + ms' ≤ R.slots) (hst : st = As.reverse ++ .ref b :: rest) (hcat : (rest.map fun v => v.category).sum ≤ 8)
    (kk : ∀ w h2 sz2, P w h2 sz2 → qV l M R EX G h0 sz0 (k + mc') (n + ms') h2 sz2 (pc + 3) L (w :: rest)) : qV l M R EX G h0 sz0 k n h sz pc L st := qV_callV hc hN hk hlk hd ha hrm hcs hst hcat (fun v h2 sz2 e => by obtain ⟨w, rfl, e⟩ := e; exact kk w h2 sz2 e)
theorem qV_rdS {M' : MI} {idx : Nat} {As rest : List Value}  {w : Value} (hc : qRd l M' As h sz w) (hN : qNs M' As.length) (hlk : Cond.methodLink M.1.cls idx M'.1 ∈ gt) (hd : decode M.2.1 pc = .ok (.invokestatic idx, 3)) (hrm : M'.2.2.2.2.1 + 1 ≤ R.frames ∧ 8 + (M'.2.2.1 + 11) + M'.2.2.2.2.2 ≤ R.locals) (hcs : k ≤ R.cells ∧ n ≤ R.slots) (hst : st = As.reverse ++ rest) (hcat : (rest.map fun v => v.category).sum ≤ 8)
    (kk : qV l M R EX G h0 sz0 k n h sz (pc + 3) L (w :: rest)) : qV l M R EX G h0 sz0 k n h sz pc L st := qV_callS hc hN hlk hd hrm hcs hst hcat (fun v h2 sz2 e => by obtain ⟨rfl, rfl, rfl⟩ := e; exact kk)
theorem qV_voS {M' : MI} {mc' ms' idx : Nat} {As rest : List Value}  {P : qH → Nat → Prop} (hc : qVo l M' mc' ms' As h sz P) (hN : qNs M' As.length) (hlk : Cond.methodLink M.1.cls idx M'.1 ∈ gt) (hd : decode M.2.1 pc = .ok (.invokestatic idx, 3)) (hrm : M'.2.2.2.2.1 + 1 ≤ R.frames ∧ 8 + (M'.2.2.1 + 11) + M'.2.2.2.2.2 ≤ R.locals) (hcs : k + mc' ≤ R.cells ∧ n + ms' ≤ R.slots) (hst : st = As.reverse ++ rest) (hcat : (rest.map fun v => v.category).sum ≤ 8)
    (kk : ∀ h2 sz2, P h2 sz2 → qV l M R EX G h0 sz0 (k + mc') (n + ms') h2 sz2 (pc + 3) L rest) : qV l M R EX G h0 sz0 k n h sz pc L st := qV_callS hc hN hlk hd hrm hcs hst hcat (fun v h2 sz2 e => by obtain ⟨rfl, e⟩ := e; exact kk h2 sz2 e)
theorem qV_rtS {M' : MI} {mc' ms' idx : Nat} {As rest : List Value}  {P : Value → qH → Nat → Prop} (hc : qRt l M' mc' ms' As h sz P) (hN : qNs M' As.length) (hlk : Cond.methodLink M.1.cls idx M'.1 ∈ gt) (hd : decode M.2.1 pc = .ok (.invokestatic idx, 3)) (hrm : M'.2.2.2.2.1 + 1 ≤ R.frames ∧ 8 + (M'.2.2.1 + 11) + M'.2.2.2.2.2 ≤ R.locals) (hcs : k + mc' ≤ R.cells ∧ n + ms' ≤ R.slots) (hst : st = As.reverse ++ rest) (hcat : (rest.map fun v => v.category).sum ≤ 8)
    (kk : ∀ w h2 sz2, P w h2 sz2 → qV l M R EX G h0 sz0 (k + mc') (n + ms') h2 sz2 (pc + 3) L (w :: rest)) : qV l M R EX G h0 sz0 k n h sz pc L st := qV_callS hc hN hlk hd hrm hcs hst hcat (fun v h2 sz2 e => by obtain ⟨w, rfl, e⟩ := e; exact kk w h2 sz2 e)
theorem qV_rdSN {M' : MI} {idx : Nat} {host : String} {As rest : List Value}  {w : Value} (hc : qRd l M' As h sz w) (hN : qNs M' As.length) (hlk : Cond.methodLinkNest M.1.cls idx M'.1 host ∈ nst) (hd : decode M.2.1 pc = .ok (.invokestatic idx, 3)) (hrm : M'.2.2.2.2.1 + 1 ≤ R.frames ∧ 8 + (M'.2.2.1 + 11) + M'.2.2.2.2.2 ≤ R.locals) (hcs : k ≤ R.cells ∧ n ≤ R.slots) (hst : st = As.reverse ++ rest) (hcat : (rest.map fun v => v.category).sum ≤ 8)
    (kk : qV l M R EX G h0 sz0 k n h sz (pc + 3) L (w :: rest)) : qV l M R EX G h0 sz0 k n h sz pc L st := qV_callSN hc hN hlk hd hrm hcs hst hcat (fun v h2 sz2 e => by obtain ⟨rfl, rfl, rfl⟩ := e; exact kk)
theorem qV_voI {M' : MI} {mc' ms' idx b : Nat} {As rest : List Value}  {P : qH → Nat → Prop} (hc : qVo l M' mc' ms' (.ref b :: As) h sz P) (hN : qNi M' As.length) (hlk : Cond.methodLink M.1.cls idx M'.1 ∈ gt) (hd : decode M.2.1 pc = .ok (.invokespecial idx, 3)) (hrm : M'.2.2.2.2.1 + 1 ≤ R.frames ∧ 8 + (M'.2.2.1 + 11) + M'.2.2.2.2.2 ≤ R.locals) (hcs : k + mc' ≤ R.cells ∧ n + ms' ≤ R.slots) (hst : st = As.reverse ++ .ref b :: rest) (hcat : (rest.map fun v => v.category).sum ≤ 8)
    (kk : ∀ h2 sz2, P h2 sz2 → qV l M R EX G h0 sz0 (k + mc') (n + ms') h2 sz2 (pc + 3) L rest) : qV l M R EX G h0 sz0 k n h sz pc L st := qV_callI hc hN hlk hd hrm hcs hst hcat (fun v h2 sz2 e => by obtain ⟨rfl, e⟩ := e; exact kk h2 sz2 e)
theorem qV_voIN {M' : MI} {mc' ms' idx b : Nat} {host : String} {As rest : List Value}  {P : qH → Nat → Prop} (hc : qVo l M' mc' ms' (.ref b :: As) h sz P) (hN : qNi M' As.length) (hlk : Cond.methodLinkNest M.1.cls idx M'.1 host ∈ nst) (hd : decode M.2.1 pc = .ok (.invokespecial idx, 3)) (hrm : M'.2.2.2.2.1 + 1 ≤ R.frames ∧ 8 + (M'.2.2.1 + 11) + M'.2.2.2.2.2 ≤ R.locals) (hcs : k + mc' ≤ R.cells ∧ n + ms' ≤ R.slots) (hst : st = As.reverse ++ .ref b :: rest) (hcat : (rest.map fun v => v.category).sum ≤ 8)
    (kk : ∀ h2 sz2, P h2 sz2 → qV l M R EX G h0 sz0 (k + mc') (n + ms') h2 sz2 (pc + 3) L rest) : qV l M R EX G h0 sz0 k n h sz pc L st := qV_callIN hc hN hlk hd hrm hcs hst hcat (fun v h2 sz2 e => by obtain ⟨rfl, e⟩ := e; exact kk h2 sz2 e)
theorem wc_max : Cond.code Lib.Math.max.name Lib.Math.max.code 2 (some .int) ∈ gt := by
  have h : Cond.code Lib.Math.max.name Lib.Math.max.code 2 (some .int) = Cond.code mJ9_max_7cf53.1 mJ9_max_7cf53.2.1 mJ9_max_7cf53.2.2.1 mJ9_max_7cf53.2.2.2.1 := by decide +kernel
  rw [h]; exact wcJ9_max_7cf53
theorem wc_min : Cond.code Lib.Math.min.name Lib.Math.min.code 2 (some .int) ∈ gt := by
  have h : Cond.code Lib.Math.min.name Lib.Math.min.code 2 (some .int) = Cond.code mJ9_min_7cf53.1 mJ9_min_7cf53.2.1 mJ9_min_7cf53.2.2.1 mJ9_min_7cf53.2.2.2.1 := by decide +kernel
  rw [h]; exact wcJ9_min_7cf53
theorem qV_max {idx : Nat} {a b : Int} (hlk : Cond.methodLink M.1.cls idx yJ9_max_7cf53 ∈ gt) (hd : decode M.2.1 pc = .ok (.invokestatic idx, 3)) (ha : iR a) (hb : iR b) (hfr : 1 ≤ R.frames) (hcs : k ≤ R.cells ∧ n ≤ R.slots) (hlo : (st.map fun v => v.category).sum + 13 ≤ R.locals) (kk : qV l M R EX G h0 sz0 k n h sz (pc + 3) L (vI (max a b) :: st)) : qV l M R EX G h0 sz0 k n h sz pc L (vI b :: vI a :: st) := by
  intro D p e s m args below meth c H locs ls hF hK hE hz hR hS hA hL
  have hts := hF.2.2.2.2.1
  refine va_mmax hF.1 hF.2.1 (hF.2.2.1.trans hL.1.symm) hF.2.2.2.1 (hts _ hlk) (hts _ wtJ9_max_7cf53) (hts _ wn_J9) (hts _ wc_max) hfr hlo hcs.1 hcs.2 hd ?_
  have e1 : (if Int32.ofInt a < Int32.ofInt b then Int32.ofInt b else Int32.ofInt a) = Int32.ofInt (max a b) := by
    by_cases hab : a < b
    · rw [if_pos ((iR_lt ha hb).mpr hab), show max a b = b by omega]
    · rw [if_neg (fun q => hab ((iR_lt ha hb).mp q)), show max a b = a by omega]
  rw [e1]
  exact kk D p e s m args below meth c H locs ls hF hK hE hz hR hS hA hL
theorem qV_min {idx : Nat} {a b : Int} (hlk : Cond.methodLink M.1.cls idx yJ9_min_7cf53 ∈ gt) (hd : decode M.2.1 pc = .ok (.invokestatic idx, 3)) (ha : iR a) (hb : iR b) (hfr : 1 ≤ R.frames) (hcs : k ≤ R.cells ∧ n ≤ R.slots) (hlo : (st.map fun v => v.category).sum + 13 ≤ R.locals) (kk : qV l M R EX G h0 sz0 k n h sz (pc + 3) L (vI (min a b) :: st)) : qV l M R EX G h0 sz0 k n h sz pc L (vI b :: vI a :: st) := by
  intro D p e s m args below meth c H locs ls hF hK hE hz hR hS hA hL
  have hts := hF.2.2.2.2.1
  refine va_mmin hF.1 hF.2.1 (hF.2.2.1.trans hL.1.symm) hF.2.2.2.1 (hts _ hlk) (hts _ wtJ9_min_7cf53) (hts _ wn_J9) (hts _ wc_min) hfr hlo hcs.1 hcs.2 hd ?_
  have e1 : (if Int32.ofInt b < Int32.ofInt a then Int32.ofInt b else Int32.ofInt a) = Int32.ofInt (min a b) := by
    by_cases hab : b < a
    · first | rw [if_pos ((iR_lt hb ha).mpr hab), show min a b = b by omega] | rw [if_neg (fun q => by have := (iR_le ha hb).mp q; omega), show min a b = b by omega] | rw [if_neg (fun q => by have := (iR_lt ha hb).mp q; omega), show min a b = b by omega]
    · first | rw [if_neg (fun q => hab ((iR_lt hb ha).mp q)), show min a b = a by omega] | rw [if_pos ((iR_le ha hb).mpr (by omega)), show min a b = a by omega]
  rw [e1]
  exact kk D p e s m args below meth c H locs ls hF hK hE hz hR hS hA hL
end QC
end
section
section QT
variable {l : Launch} {M : MI} {R : Room} {EX : State → Array Value → Prop} {G : qG} {h0 : qH} {sz0 k n : Nat} {h : qH} {sz pc : Nat} {L : List (Option Value)} {st : List Value}
theorem qV_tswIn {x dflt lo hi off : Int} {offs : Array Int} {len : Nat} (tgt : Nat) (hd : decode M.2.1 pc = .ok (.tableswitch dflt lo hi offs, len)) (hx : iR x) (h1 : lo ≤ x) (h2 : x ≤ hi) (ho : offs[(x - lo).toNat]? = some off) (ht : (pc : Int) + off = (tgt : Int)) (kk : qV l M R EX G h0 sz0 k n h sz tgt L st) : qV l M R EX G h0 sz0 k n h sz pc L (vI x :: st) :=
  qV.step (fun _ _ _ _ _ _ _ _ _ _ _ _ hx' hb k => lv_tableIn hx' hb hd (by rw [iR_toInt hx]; omega) (by rw [iR_toInt hx]; omega) (by rw [iR_toInt hx]; exact ho) ht k) kk
theorem qV_tswOut {x dflt lo hi : Int} {offs : Array Int} {len : Nat} (tgt : Nat) (hd : decode M.2.1 pc = .ok (.tableswitch dflt lo hi offs, len)) (hx : iR x) (h1 : x < lo ∨ hi < x) (ht : (pc : Int) + dflt = (tgt : Int)) (kk : qV l M R EX G h0 sz0 k n h sz tgt L st) : qV l M R EX G h0 sz0 k n h sz pc L (vI x :: st) :=
  qV.step (fun _ _ _ _ _ _ _ _ _ _ _ _ hx' hb k => lv_tableOut hx' hb hd (by rw [iR_toInt hx]; exact h1) ht k) kk
end QT
end
section
/-! ===== what the texts are, in numbers ===== -/
def csum (C : Nat → Int) : Nat → Int
  | 0 => 0
  | k + 1 => csum C k + C k
theorem csum_succ (C : Nat → Int) (k : Nat) : csum C (k + 1) = csum C k + C k := rfl
theorem csum_congr {C C' : Nat → Int} : ∀ {m : Nat}, (∀ j, j < m → C j = C' j) → csum C m = csum C' m
  | 0, _ => rfl
  | m + 1, e => by simp only [csum]; rw [csum_congr (fun j hj => e j (by omega)), e m (by omega)]
theorem csum_mono {C : Nat → Int} {c : Nat} (h : ∀ j, j < c → 0 ≤ C j) {a : Nat} : ∀ {b : Nat}, a ≤ b → b ≤ c → csum C a ≤ csum C b
  | 0, h1, _ => by have : a = 0 := by omega
                   subst this; exact Int.le_refl _
  | b + 1, h1, h2 => by
    by_cases e : a = b + 1
    · subst e; exact Int.le_refl _
    · have := csum_mono h (a := a) (b := b) (by omega) (by omega)
      have := h b (by omega)
      simp only [csum]
      omega
theorem csum_nn {C : Nat → Int} {c : Nat} (h : ∀ j, j < c → 0 ≤ C j) {b : Nat} (hb : b ≤ c) : 0 ≤ csum C b := csum_mono h (a := 0) (Nat.zero_le b) hb
theorem csum_ge {C : Nat → Int} : ∀ {c : Nat}, (∀ j, j < c → 1 ≤ C j) → (c : Int) ≤ csum C c
  | 0, _ => by simp [csum]
  | c + 1, h => by have := csum_ge (C := C) (c := c) (fun j hj => h j (by omega)); have := h c (by omega); simp only [csum]; omega
theorem csum_up {C : Nat → Int} {c : Nat} {v : Int} : csum (va_up C c v) (c + 1) = csum C c + v := by
  simp only [csum]
  rw [csum_congr (C' := C) (fun j hj => by simp [va_up, Nat.ne_of_lt hj])]
  simp [va_up]
/-- what of a chunk stays -/
def stay (C : Nat → Int) (p k : Int) (j : Nat) : Int := C j - max (min (csum C j + C j) (p + k) - max (csum C j) p) 0
theorem stay_in {C : Nat → Int} {p k : Int} {j : Nat} (h : 0 ≤ C j) : 0 ≤ stay C p k j ∧ stay C p k j ≤ C j := by
  simp only [stay]; omega
theorem stay_sum {C : Nat → Int} {p k : Int} (hk : 0 ≤ k) (hp : 0 ≤ p) : ∀ {c : Nat}, (∀ j, j < c → 0 ≤ C j) → csum (stay C p k) c = csum C c - max 0 (min (csum C c) (p + k) - p)
  | 0, _ => by simp only [csum]; omega
  | c + 1, h => by
    have h1 := stay_sum hk hp (C := C) (c := c) (fun j hj => h j (by omega))
    have h2 := h c (by omega)
    have h3 := csum_nn (C := C) (c := c) (fun j hj => h j (by omega)) (Nat.le_refl c)
    simp only [csum]
    rw [h1]
    simp only [stay]
    omega
def shN (S : Nat → Int) : Nat → Nat
  | 0 => 0
  | j + 1 => if 0 < S j then shN S j + 1 else shN S j
def shF (S : Nat → Int) : Nat → (Nat → Int)
  | 0 => fun _ => 0
  | j + 1 => if 0 < S j then va_up (shF S j) (shN S j) (S j) else shF S j
theorem shN_le (S : Nat → Int) : ∀ j, shN S j ≤ j
  | 0 => Nat.le_refl 0
  | j + 1 => by have := shN_le S j; simp only [shN]; split <;> omega
theorem sh_sum {S : Nat → Int} : ∀ {j : Nat}, (∀ i, i < j → 0 ≤ S i) → csum (shF S j) (shN S j) = csum S j
  | 0, _ => rfl
  | j + 1, h => by
    have h1 := sh_sum (S := S) (j := j) (fun i hi => h i (by omega))
    have h2 := h j (by omega)
    simp only [shF, shN]
    by_cases e : 0 < S j
    · rw [if_pos e, if_pos e, csum_up, h1]; rfl
    · rw [if_neg e, if_neg e, h1]; simp only [csum]; omega
theorem sh_at {S : Nat → Int} : ∀ {j i : Nat}, i < shN S j → ∃ t, t < j ∧ shF S j i = S t ∧ 0 < S t
  | 0, i, h => by simp [shN] at h
  | j + 1, i, h => by
    simp only [shF, shN] at h ⊢
    by_cases e : 0 < S j
    · rw [if_pos e] at h ⊢
      by_cases e2 : i = shN S j
      · subst e2
        exact ⟨j, by omega, by simp [va_up], e⟩
      · obtain ⟨t, h1, h2, h3⟩ := sh_at (S := S) (j := j) (i := i) (by omega)
        exact ⟨t, by omega, by simp [va_up, e2, h2], h3⟩
    · rw [if_neg e] at h ⊢
      obtain ⟨t, h1, h2, h3⟩ := sh_at (S := S) (j := j) (i := i) h
      exact ⟨t, by omega, h2, h3⟩
/-- the chunk of the byte ahead of a place -/
def isCA (C : Nat → Int) (c : Nat) (p : Int) (k : Nat) : Prop := k < c ∧ p ≤ csum C (k + 1) ∧ ∀ j, j < k → csum C (j + 1) < p
def ca (C : Nat → Int) (p : Int) : Nat → Nat
  | 0 => 0
  | c + 1 => if p ≤ csum C c ∧ 0 < c then ca C p c else c
theorem ca_ex {C : Nat → Int} {p : Int} : ∀ {c : Nat}, (∀ j, j < c → 0 ≤ C j) → 0 < c → p ≤ csum C c → isCA C c p (ca C p c)
  | 0, _, h, _ => by omega
  | c + 1, hC, h, hp => by
    simp only [ca]
    by_cases e : p ≤ csum C c ∧ 0 < c
    · rw [if_pos e]
      obtain ⟨h1, h2, h3⟩ := ca_ex (c := c) (fun j hj => hC j (by omega)) e.2 e.1
      exact ⟨by omega, h2, h3⟩
    · rw [if_neg e]
      refine ⟨by omega, hp, fun j hj => ?_⟩
      have := csum_mono (C := C) (c := c + 1) hC (a := j + 1) (b := c) (by omega) (by omega)
      omega
theorem ca_un {C : Nat → Int} {c : Nat} {p : Int} {a b : Nat} (h1 : isCA C c p a) (h2 : isCA C c p b) : a = b := by
  rcases Nat.lt_trichotomy a b with h | h | h
  · have := h2.2.2 a h; have := h1.2.1; omega
  · exact h
  · have := h1.2.2 b h; have := h2.2.1; omega
theorem ca_of {C : Nat → Int} {c : Nat} {p : Int} {k : Nat} (hC : ∀ j, j < c → 0 ≤ C j) (h : isCA C c p k) : ca C p c = k := by
  refine ca_un (ca_ex hC (by have := h.1; omega) ?_) h
  have := csum_mono hC (a := k + 1) (b := c) (by have := h.1; omega) (Nat.le_refl c)
  have := h.2.1
  omega
theorem isCA_congr {C C' : Nat → Int} {c : Nat} {p : Int} {k : Nat} (e : ∀ j, j < c → C j = C' j) (h : isCA C c p k) : isCA C' c p k := by
  have hs : ∀ j, j ≤ c → csum C j = csum C' j := fun j hj => csum_congr (fun i hi => e i (by omega))
  have h1 := h.1
  refine ⟨h1, by rw [← hs (k + 1) (by omega)]; exact h.2.1, fun j hj => by rw [← hs (j + 1) (by omega)]; exact h.2.2 j hj⟩
/-- two chunks become one -/
def jnN (C : Nat → Int) (c k : Nat) : Nat := if k + 1 < c ∧ C k + C (k + 1) ≤ 8 then c - 1 else c
def jnF (C : Nat → Int) (c k : Nat) : Nat → Int := if k + 1 < c ∧ C k + C (k + 1) ≤ 8 then (fun j => if j < k then C j else if j = k then C k + C (k + 1) else C (j + 1)) else C
theorem jn_lo (C : Nat → Int) (k : Nat) : ∀ m, m ≤ k → csum (fun j => if j < k then C j else if j = k then C k + C (k + 1) else C (j + 1)) m = csum C m := fun m hm => csum_congr (fun j hj => if_pos (by omega))
theorem jn_hi (C : Nat → Int) (k : Nat) : ∀ d, csum (fun j => if j < k then C j else if j = k then C k + C (k + 1) else C (j + 1)) (k + 1 + d) = csum C (k + 2 + d)
  | 0 => by
    rw [Nat.add_zero, Nat.add_zero, csum_succ, jn_lo C k k (Nat.le_refl k), csum_succ C (k + 1), csum_succ C k]
    simp
    omega
  | d + 1 => by
    rw [show k + 1 + (d + 1) = (k + 1 + d) + 1 by omega, show k + 2 + (d + 1) = (k + 2 + d) + 1 by omega, csum_succ, csum_succ C (k + 2 + d), jn_hi C k d, if_neg (by omega), if_neg (by omega), show k + 1 + d + 1 = k + 2 + d by omega]
theorem jn_sum {C : Nat → Int} {c k : Nat} : csum (jnF C c k) (jnN C c k) = csum C c := by
  simp only [jnF, jnN]
  by_cases e : k + 1 < c ∧ C k + C (k + 1) ≤ 8
  · rw [if_pos e, if_pos e]
    obtain ⟨d, hd⟩ : ∃ d, c = k + 2 + d := ⟨c - (k + 2), by omega⟩
    subst hd
    rw [← jn_hi C k d]
    congr 1
    omega
  · rw [if_neg e, if_neg e]
theorem jn_in {C : Nat → Int} {c k : Nat} (h : ∀ j, j < c → 1 ≤ C j ∧ C j ≤ 8) : ∀ j, j < jnN C c k → 1 ≤ jnF C c k j ∧ jnF C c k j ≤ 8 := by
  intro j
  simp only [jnF, jnN]
  by_cases e : k + 1 < c ∧ C k + C (k + 1) ≤ 8
  · rw [if_pos e, if_pos e]
    intro hj
    by_cases e1 : j < k
    · rw [if_pos e1]; exact h j (by omega)
    · rw [if_neg e1]
      by_cases e2 : j = k
      · rw [if_pos e2]
        have := h k (by omega)
        have := h (k + 1) (by omega)
        omega
      · rw [if_neg e2]; exact h (j + 1) (by omega)
  · rw [if_neg e, if_neg e]
    exact h j
/-- a chunk becomes several: size bytes at k, so many parts -/
def gwF (C : Nat → Int) (k parts : Nat) (size : Int) : Nat → Int := fun j => if j < k then C j else if j < k + parts then size / parts + (if ((j - k : Nat) : Int) < size % parts then 1 else 0) else C (j - (parts - 1))
theorem gw_lo (C : Nat → Int) (k parts : Nat) (size : Int) : ∀ m, m ≤ k → csum (gwF C k parts size) m = csum C m := fun m hm => csum_congr (fun j hj => by simp only [gwF]; rw [if_pos (by omega)])
theorem gw_mid (C : Nat → Int) (k parts : Nat) (size : Int) : ∀ d, d ≤ parts → csum (gwF C k parts size) (k + d) = csum C k + (d * (size / parts) + min (d : Int) (max 0 (size % parts)))
  | 0, _ => by
    rw [Nat.add_zero, gw_lo C k parts size k (Nat.le_refl k)]
    have : ((0 : Nat) : Int) * (size / parts) = 0 := by simp
    rw [this]
    omega
  | d + 1, h => by
    have e0 : gwF C k parts size (k + d) = size / parts + (if (d : Int) < size % parts then 1 else 0) := by
      simp only [gwF]
      rw [if_neg (by omega), if_pos (by omega), show k + d - k = d by omega]
    rw [show k + (d + 1) = (k + d) + 1 by omega, csum_succ, gw_mid C k parts size d (by omega), e0]
    have : ((d + 1 : Nat) : Int) * (size / parts) = d * (size / parts) + size / parts := by
      rw [Int.natCast_add, Int.add_mul]; simp
    rw [this]
    generalize (d : Int) * (size / parts) = x
    generalize size / (parts : Int) = y
    generalize size % (parts : Int) = z
    by_cases e : (d : Int) < z
    · rw [if_pos e]; omega
    · rw [if_neg e]; omega
theorem gw_hi (C : Nat → Int) (k parts : Nat) (size : Int) (hp : 0 < parts) (hs : (parts * (size / parts) + min (parts : Int) (max 0 (size % parts)) : Int) = size) : ∀ d, csum (gwF C k parts size) (k + parts + d) = csum C (k + 1 + d) + (size - C k)
  | 0 => by
    rw [Nat.add_zero, gw_mid C k parts size parts (Nat.le_refl _), hs, Nat.add_zero, csum_succ]
    omega
  | d + 1 => by
    have e0 : gwF C k parts size (k + parts + d) = C (k + 1 + d) := by
      simp only [gwF]
      rw [if_neg (by omega), if_neg (by omega), show k + parts + d - (parts - 1) = k + 1 + d by omega]
    rw [show k + parts + (d + 1) = (k + parts + d) + 1 by omega, show k + 1 + (d + 1) = (k + 1 + d) + 1 by omega, csum_succ, csum_succ, gw_hi C k parts size hp hs d, e0]
    omega
theorem parts_ok {size : Int} (h1 : 1 ≤ size) (h2 : size ≤ 32) {parts : Nat} (hp : (parts : Int) = (size + 7) / 8) : 1 ≤ parts ∧ parts ≤ 4 ∧ (parts * (size / parts) + min (parts : Int) (max 0 (size % parts)) : Int) = size ∧ (∀ i : Nat, i < parts → 1 ≤ size / parts + (if (i : Int) < size % parts then 1 else 0) ∧ size / parts + (if (i : Int) < size % parts then 1 else 0) ≤ 8) := by
  have hp4 : parts = 1 ∨ parts = 2 ∨ parts = 3 ∨ parts = 4 := by omega
  rcases hp4 with rfl | rfl | rfl | rfl
  all_goals
    refine ⟨by omega, by omega, by omega, fun i hi => ?_⟩
    split <;> omega
theorem gw_in {C : Nat → Int} {c k parts : Nat} {size : Int} (h : ∀ j, j < c → j ≠ k → 1 ≤ C j ∧ C j ≤ 8) (hk : k < c) (h1 : 1 ≤ size) (h2 : size ≤ 32) (hp : (parts : Int) = (size + 7) / 8) : ∀ j, j < c + parts - 1 → 1 ≤ gwF C k parts size j ∧ gwF C k parts size j ≤ 8 := by
  obtain ⟨p1, p2, p3, p4⟩ := parts_ok h1 h2 hp
  intro j hj
  simp only [gwF]
  by_cases e1 : j < k
  · rw [if_pos e1]; exact h j (by omega) (by omega)
  · rw [if_neg e1]
    by_cases e2 : j < k + parts
    · rw [if_pos e2]; exact p4 (j - k) (by omega)
    · rw [if_neg e2]; exact h _ (by omega) (by omega)
theorem gw_sum {C : Nat → Int} {c k parts : Nat} {size : Int} (hk : k < c) (h1 : 1 ≤ size) (h2 : size ≤ 32) (hp : (parts : Int) = (size + 7) / 8) : csum (gwF C k parts size) (c + parts - 1) = csum C c + (size - C k) := by
  obtain ⟨p1, p2, p3, p4⟩ := parts_ok h1 h2 hp
  have := gw_hi C k parts size (by omega) p3 (c - (k + 1))
  rw [show k + 1 + (c - (k + 1)) = c by omega, show k + parts + (c - (k + 1)) = c + parts - 1 by omega] at this
  exact this
/-! pages: bytes, sizes of chunks, marks (-9: none), the reader -/
abbrev PG : Type := Nat × (Nat → Int) × Nat × (Nat → Int) × (Nat → Int) × Int
def wf (B : Nat) (P : PG) : Prop := P.1 ≤ B ∧ (∀ j, j < P.1 → 0 ≤ P.2.1 j ∧ P.2.1 j ≤ 255) ∧ (∀ j, j < P.2.2.1 → 1 ≤ P.2.2.2.1 j ∧ P.2.2.2.1 j ≤ 8) ∧ csum P.2.2.2.1 P.2.2.1 = P.1 ∧ (∀ j, j < 26 → P.2.2.2.2.1 j = -9 ∨ (0 ≤ P.2.2.2.2.1 j ∧ P.2.2.2.2.1 j ≤ P.1)) ∧ 0 ≤ P.2.2.2.2.2 ∧ P.2.2.2.2.2 ≤ P.1
theorem wf.c_le {B : Nat} {P : PG} (h : wf B P) : P.2.2.1 ≤ P.1 := by
  have := csum_ge (C := P.2.2.2.1) (c := P.2.2.1) (fun j hj => (h.2.2.1 j hj).1)
  have := h.2.2.2.1
  omega
theorem wf.up {B B' : Nat} {P : PG} (h : wf B P) (hB : P.1 ≤ B') : wf B' P := ⟨hB, h.2⟩
def mvT (x p k : Int) : Int := if x ≤ p then x else max p (x - k)
def mvP (x p m : Int) : Int := if x ≤ p then x else x + m
def shC (P : PG) (p k : Nat) : Nat := shN (stay P.2.2.2.1 p k) P.2.2.1
def shG (P : PG) (p k : Nat) : Nat → Int := shF (stay P.2.2.2.1 p k) P.2.2.1
def takeP (P : PG) (p k : Nat) : PG :=
  (P.1 - k, (fun j => if j < p then P.2.1 j else P.2.1 (j + k)), jnN (shG P p k) (shC P p k) (ca (shG P p k) p (shC P p k)), jnF (shG P p k) (shC P p k) (ca (shG P p k) p (shC P p k)), (fun j => mvT (P.2.2.2.2.1 j) p k), mvT P.2.2.2.2.2 p k)
def gC (P : PG) : Nat := if P.2.2.1 = 0 then 1 else P.2.2.1
def gG (P : PG) : Nat → Int := if P.2.2.1 = 0 then (fun _ => 0) else P.2.2.2.1
def gK (P : PG) (p : Nat) : Nat := ca (gG P) p (gC P)
def gS (P : PG) (p m : Nat) : Int := gG P (gK P p) + m
def gP (P : PG) (p m : Nat) : Nat := ((gS P p m + 7) / 8).toNat
def putP (P : PG) (p m : Nat) (W : Nat → Int) : PG :=
  (P.1 + m, (fun j => if j < p then P.2.1 j else if j < p + m then W (j - p) else P.2.1 (j - m)), gC P + gP P p m - 1, gwF (gG P) (gK P p) (gP P p m) (gS P p m), (fun j => mvP (P.2.2.2.2.1 j) p m), mvP P.2.2.2.2.2 p m)
def edP (P : PG) (p k m : Nat) (W : Nat → Int) : PG := if m = 0 then (if k = 0 then P else takeP P p k) else putP (if k = 0 then P else takeP P p k) p m W
theorem wf_sh {B : Nat} {P : PG} (h : wf B P) {p k : Nat} (hp : p + k ≤ P.1) : (∀ j, j < shC P p k → 1 ≤ shG P p k j ∧ shG P p k j ≤ 8) ∧ csum (shG P p k) (shC P p k) = ((P.1 - k : Nat) : Int) := by
  have hC : ∀ j, j < P.2.2.1 → 0 ≤ P.2.2.2.1 j := fun j hj => by have := (h.2.2.1 j hj).1; omega
  constructor
  · intro j hj
    obtain ⟨t, h1, h2, h3⟩ := sh_at (S := stay P.2.2.2.1 p k) (j := P.2.2.1) (i := j) hj
    have := stay_in (C := P.2.2.2.1) (p := p) (k := k) (j := t) (hC t h1)
    have := h.2.2.1 t h1
    simp only [shG]
    rw [h2]
    omega
  · have h1 := sh_sum (S := stay P.2.2.2.1 p k) (j := P.2.2.1) (fun i hi => (stay_in (hC i hi)).1)
    have h2 := stay_sum (C := P.2.2.2.1) (p := p) (k := k) (by omega) (by omega) (c := P.2.2.1) hC
    have h3 := h.2.2.2.1
    simp only [shG, shC]
    rw [h1, h2, h3]
    omega
theorem wf_take {B : Nat} {P : PG} (h : wf B P) {p k : Nat} (hp : p + k ≤ P.1) : wf B (takeP P p k) := by
  obtain ⟨s1, s2⟩ := wf_sh h hp
  obtain ⟨h1, h2, h3, h4, h5, h6, h7⟩ := h
  refine ⟨by simp only [takeP]; omega, fun j hj => ?_, fun j hj => ?_, ?_, fun j hj => ?_, ?_, ?_⟩
  · simp only [takeP] at hj ⊢
    by_cases e : j < p
    · rw [if_pos e]; exact h2 j (by omega)
    · rw [if_neg e]; exact h2 _ (by omega)
  · exact jn_in s1 j hj
  · simp only [takeP]
    rw [jn_sum, s2]
  · simp only [takeP, mvT]
    rcases h5 j hj with e | e
    · rw [e, if_pos (by omega)]; exact Or.inl rfl
    · right; split <;> omega
  · simp only [takeP, mvT]; split <;> omega
  · simp only [takeP, mvT]; split <;> omega
theorem wf_g {B : Nat} {P : PG} (h : wf B P) {p : Nat} (hp : p ≤ P.1) : (∀ j, j < gC P → 0 ≤ gG P j ∧ gG P j ≤ 8) ∧ csum (gG P) (gC P) = P.1 ∧ 0 < gC P ∧ isCA (gG P) (gC P) p (gK P p) ∧ (∀ j, j < gC P → j ≠ gK P p → 1 ≤ gG P j ∧ gG P j ≤ 8) ∧ gC P ≤ P.1 + 1 := by
  have hcl := h.c_le
  obtain ⟨h1, h2, h3, h4, h5, h6, h7⟩ := h
  by_cases e : P.2.2.1 = 0
  · have e1 : gC P = 1 := by simp [gC, e]
    have e2 : gG P = fun _ => 0 := by simp [gG, e]
    have e3 : (P.1 : Int) = 0 := by rw [← h4, e]; rfl
    have e4 : csum (gG P) (gC P) = P.1 := by rw [e1, e2, e3]; rfl
    have e5 : isCA (gG P) (gC P) p (gK P p) := ca_ex (fun j hj => by rw [e2]; exact Int.le_refl 0) (by omega) (by rw [e4]; omega)
    refine ⟨fun j hj => by rw [e2]; exact ⟨show (0 : Int) ≤ 0 by decide, show (0 : Int) ≤ 8 by decide⟩, e4, by omega, e5, fun j hj hne => ?_, by omega⟩
    have := e5.1
    omega
  · have e1 : gC P = P.2.2.1 := by simp [gC, e]
    have e2 : gG P = P.2.2.2.1 := by simp [gG, e]
    rw [e1, e2]
    have e5 : isCA P.2.2.2.1 P.2.2.1 p (gK P p) := by
      simp only [gK, e1, e2]
      exact ca_ex (fun j hj => by have := (h3 j hj).1; omega) (by omega) (by rw [h4]; omega)
    exact ⟨fun j hj => by have := h3 j hj; omega, h4, by omega, e5, fun j hj _ => h3 j hj, by omega⟩
theorem gP_ok {B : Nat} {P : PG} (h : wf B P) {p m : Nat} (hp : p ≤ P.1) (hm : 0 < m) (hm2 : m ≤ 24) : 1 ≤ gS P p m ∧ gS P p m ≤ 32 ∧ ((gP P p m : Nat) : Int) = (gS P p m + 7) / 8 := by
  obtain ⟨g1, g2, g3, g4, g5, g6⟩ := wf_g h hp
  have := g1 _ g4.1
  have e1 : 1 ≤ gS P p m := by simp only [gS]; omega
  have e2 : gS P p m ≤ 32 := by simp only [gS]; omega
  exact ⟨e1, e2, by simp only [gP]; omega⟩
theorem wf_put {B B' : Nat} {P : PG} {W : Nat → Int} (h : wf B P) {p m : Nat} (hp : p ≤ P.1) (hm : 0 < m) (hm2 : m ≤ 24) (hW : ∀ j, j < m → 0 ≤ W j ∧ W j ≤ 255) (hB : P.1 + m ≤ B') : wf B' (putP P p m W) := by
  obtain ⟨g1, g2, g3, g4, g5, g6⟩ := wf_g h hp
  obtain ⟨s1, s2, s3⟩ := gP_ok h hp hm hm2
  obtain ⟨h1, h2, h3, h4, h5, h6, h7⟩ := h
  refine ⟨hB, fun j hj => ?_, fun j hj => ?_, ?_, fun j hj => ?_, ?_, ?_⟩
  · simp only [putP] at hj ⊢
    by_cases e : j < p
    · rw [if_pos e]; exact h2 j (by omega)
    · rw [if_neg e]
      by_cases e2 : j < p + m
      · rw [if_pos e2]; exact hW _ (by omega)
      · rw [if_neg e2]; exact h2 _ (by omega)
  · exact gw_in g5 g4.1 s1 s2 s3 j hj
  · simp only [putP]
    rw [gw_sum g4.1 s1 s2 s3, g2]
    simp only [gS]
    omega
  · simp only [putP, mvP]
    rcases h5 j hj with e | e
    · rw [e, if_pos (by omega)]; exact Or.inl rfl
    · right; split <;> omega
  · simp only [putP, mvP]; split <;> omega
  · simp only [putP, mvP]; split <;> omega
end
section
/-! ===== measures of bytes ===== -/
def hasM (b : Int) (w : Nat) : Int := if w = 0 then 1 else if w = 1 then (if b < 128 ∨ 191 < b then 1 else 0) else if w = 2 then (if b = 10 then 1 else 0) else (if ¬ (b < 128 ∨ 191 < b) ∨ b < 32 then 0 else if 223 < b then 2 else 1)
def measM (T : Nat → Int) (w : Nat) : Nat → Int
  | 0 => 0
  | j + 1 => measM T w j + hasM (T j) w
theorem measM_succ (T : Nat → Int) (w j : Nat) : measM T w (j + 1) = measM T w j + hasM (T j) w := rfl
theorem hasM_in (b : Int) (w : Nat) : 0 ≤ hasM b w ∧ hasM b w ≤ 2 := by
  simp only [hasM]
  repeat' split
  all_goals omega
theorem measM_in (T : Nat → Int) (w : Nat) : ∀ j, 0 ≤ measM T w j ∧ measM T w j ≤ 2 * j
  | 0 => by simp [measM]
  | j + 1 => by have := measM_in T w j; have := hasM_in (T j) w; simp only [measM]; omega
theorem measM_mono (T : Nat → Int) (w : Nat) {a : Nat} : ∀ {b : Nat}, a ≤ b → measM T w a ≤ measM T w b
  | 0, h => by have : a = 0 := by omega
               subst this; exact Int.le_refl _
  | b + 1, h => by
    by_cases e : a = b + 1
    · subst e; exact Int.le_refl _
    · have := measM_mono T w (a := a) (b := b) (by omega); have := hasM_in (T b) w; simp only [measM]; omega
theorem measM_congr {T T' : Nat → Int} {w : Nat} : ∀ {m : Nat}, (∀ j, j < m → T j = T' j) → measM T w m = measM T' w m
  | 0, _ => rfl
  | m + 1, e => by simp only [measM]; rw [measM_congr (fun j hj => e j (by omega)), e m (by omega)]
theorem measM_0 (T : Nat → Int) : ∀ j, measM T 0 j = j
  | 0 => rfl
  | j + 1 => by simp only [measM]; rw [measM_0 T j]; simp [hasM]
/-- how many marks; the nearest mark from a place on, its name and place; where the next letter begins -/
def mcnt (mk : Nat → Int) : Nat → Int
  | 0 => 0
  | j + 1 => mcnt mk j + (if mk j = -9 then 0 else 1)
theorem mcnt_in (mk : Nat → Int) : ∀ j, 0 ≤ mcnt mk j ∧ mcnt mk j ≤ j
  | 0 => by simp [mcnt]
  | j + 1 => by have := mcnt_in mk j; simp only [mcnt]; split <;> omega
def mfr (mk : Nat → Int) (x : Int) : Nat → Int × Int
  | 0 => (-9, 0)
  | j + 1 => if x ≤ mk j ∧ ((mfr mk x j).1 = -9 ∨ mk j < (mfr mk x j).2) then (97 + (j : Int), mk j) else mfr mk x j
theorem mfr_in {mk : Nat → Int} {x : Int} : ∀ {j : Nat}, (∀ i, i < j → -9 ≤ mk i ∧ mk i ≤ 5000) → -9 ≤ (mfr mk x j).1 ∧ (mfr mk x j).1 ≤ 97 + j ∧ -9 ≤ (mfr mk x j).2 ∧ (mfr mk x j).2 ≤ 5000
  | 0, _ => by simp [mfr]
  | j + 1, h => by
    have h1 := mfr_in (mk := mk) (x := x) (j := j) (fun i hi => h i (by omega))
    have h2 := h j (by omega)
    simp only [mfr]
    split
    · simp only []; omega
    · omega
def skp (T : Nat → Int) : Nat → Nat → Nat
  | 0, b => b
  | d + 1, b => if T b < 128 ∨ 191 < T b then b else skp T d (b + 1)
theorem skp_in (T : Nat → Int) : ∀ d b, b ≤ skp T d b ∧ skp T d b ≤ b + d
  | 0, b => by simp [skp]
  | d + 1, b => by
    have := skp_in T d (b + 1)
    simp only [skp]
    split <;> omega
end
section
/-! ===== lines ===== -/
def nl (T : Nat → Int) : Nat → Nat
  | 0 => 0
  | j + 1 => if T j = 10 then nl T j + 1 else nl T j
def lbN (T : Nat → Int) : Nat → (Nat → Nat)
  | 0 => fun _ => 0
  | j + 1 => if T j = 10 then va_up (lbN T j) (nl T j + 1) (j + 1) else lbN T j
theorem nl_meas (T : Nat → Int) : ∀ j, measM T 2 j = nl T j
  | 0 => rfl
  | j + 1 => by
    simp only [measM, nl]
    rw [nl_meas T j]
    by_cases e : T j = 10
    · rw [if_pos e]; simp [hasM, e]
    · rw [if_neg e]; simp [hasM, e]
theorem nl_mono (T : Nat → Int) {a : Nat} : ∀ {b : Nat}, a ≤ b → nl T a ≤ nl T b
  | 0, h => by have : a = 0 := by omega
               subst this; exact Nat.le_refl _
  | b + 1, h => by
    by_cases e : a = b + 1
    · subst e; exact Nat.le_refl _
    · have := nl_mono T (a := a) (b := b) (by omega)
      simp only [nl]; split <;> omega
theorem nl_le (T : Nat → Int) : ∀ j, nl T j ≤ j
  | 0 => Nat.le_refl 0
  | j + 1 => by have := nl_le T j; simp only [nl]; split <;> omega
theorem nl_succ (T : Nat → Int) (j : Nat) : nl T (j + 1) ≤ nl T j + 1 := by simp only [nl]; split <;> omega
theorem lb_spec (T : Nat → Int) : ∀ {j k : Nat}, k ≤ nl T j → lbN T j k ≤ j ∧ nl T (lbN T j k) = k ∧ ∀ p, p < lbN T j k → nl T p < k
  | 0, k, h => by
    simp only [nl] at h
    obtain rfl : k = 0 := by omega
    exact ⟨Nat.le_refl 0, rfl, fun p hp => by simp [lbN] at hp⟩
  | j + 1, k, h => by
    by_cases e : T j = 10
    · simp only [nl, if_pos e] at h
      simp only [lbN, if_pos e]
      by_cases e2 : k = nl T j + 1
      · subst e2
        rw [va_up_self]
        refine ⟨Nat.le_refl _, by simp only [nl, if_pos e], fun p hp => ?_⟩
        have := nl_mono T (a := p) (b := j) (by omega)
        omega
      · rw [va_up_ne _ _ e2]
        obtain ⟨h1, h2, h3⟩ := lb_spec T (j := j) (k := k) (by omega)
        exact ⟨by omega, h2, h3⟩
    · simp only [nl, if_neg e] at h
      simp only [lbN, if_neg e]
      obtain ⟨h1, h2, h3⟩ := lb_spec T (j := j) (k := k) h
      exact ⟨by omega, h2, h3⟩
theorem lb_0 (T : Nat → Int) (j : Nat) : lbN T j 0 = 0 := by
  have h := (lb_spec T (j := j) (k := 0) (Nat.zero_le _)).2.2
  cases e : lbN T j 0 with
  | zero => rfl
  | succ m => rw [e] at h; exact absurd (h 0 (by omega)) (by omega)
/-- the least place with so many ends ahead -/
theorem lb_un {T : Nat → Int} {n k p : Nat} (hk : k ≤ nl T n) (h1 : k ≤ nl T p) (h2 : ∀ q, q < p → nl T q < k) : lbN T n k = p := by
  obtain ⟨a1, a2, a3⟩ := lb_spec T hk
  rcases Nat.lt_trichotomy (lbN T n k) p with h | h | h
  · have := h2 _ h; omega
  · exact h
  · have := a3 _ h; omega
theorem lb_lt {T : Nat → Int} {n k : Nat} (hk : k < nl T n) : lbN T n k < lbN T n (k + 1) := by
  obtain ⟨a1, a2, a3⟩ := lb_spec T (j := n) (k := k) (by omega)
  obtain ⟨b1, b2, b3⟩ := lb_spec T (j := n) (k := k + 1) (by omega)
  rcases Nat.lt_or_ge (lbN T n k) (lbN T n (k + 1)) with h | h
  · exact h
  · have := nl_mono T h; omega
def lnE (T : Nat → Int) (n k : Nat) : Nat := if k < nl T n then lbN T n (k + 1) - 1 else n
theorem lnE_in {T : Nat → Int} {n k : Nat} (hk : k ≤ nl T n) : lbN T n k ≤ lnE T n k ∧ lnE T n k ≤ n := by
  obtain ⟨a1, a2, a3⟩ := lb_spec T (j := n) (k := k) hk
  simp only [lnE]
  by_cases e : k < nl T n
  · rw [if_pos e]
    have := lb_lt e
    have := (lb_spec T (j := n) (k := k + 1) (by omega)).1
    omega
  · rw [if_neg e]; omega
def lnW (T : Nat → Int) (n k : Nat) : Int := measM T 3 (lnE T n k) - measM T 3 (lbN T n k)
theorem lnW_in {T : Nat → Int} {n k : Nat} (hk : k ≤ nl T n) : 0 ≤ lnW T n k ∧ lnW T n k ≤ 2 * n := by
  have h := lnE_in (T := T) hk
  have := measM_mono T 3 h.1
  have := measM_in T 3 (lnE T n k)
  have := measM_in T 3 (lbN T n k)
  simp only [lnW]
  omega
/-- the place ahead of the first letter with which there are more -/
def far (T : Nat → Int) (w a : Nat) (v : Int) : Nat → Nat → Nat
  | 0, p => p
  | d + 1, p => if measM T w (p + 1) - measM T w a ≤ v then far T w a v d (p + 1) else p
theorem far_in (T : Nat → Int) (w a : Nat) (v : Int) : ∀ d p, p ≤ far T w a v d p ∧ far T w a v d p ≤ p + d
  | 0, p => by simp [far]
  | d + 1, p => by
    have := far_in T w a v d (p + 1)
    simp only [far]
    split <;> omega
theorem far_0 (T : Nat → Int) (v : Nat) : ∀ d p, p ≤ v → v ≤ p + d → far T 0 0 v d p = v
  | 0, p, h1, h2 => by simp only [far]; omega
  | d + 1, p, h1, h2 => by
    simp only [far]
    rw [measM_0, measM_0]
    by_cases e : p + 1 ≤ v
    · rw [if_pos (by omega)]; exact far_0 T v d (p + 1) e (by omega)
    · rw [if_neg (by omega)]; omega
/-! lines by width -/
abbrev wB (w : Nat → Int) (a b : Nat) : Prop := w b < w a ∨ (w a = w b ∧ a < b)
def srt (w : Nat → Int) (L : Nat) (xs : List Nat) : Prop := xs.Perm (List.range L) ∧ xs.Pairwise (wB w)
theorem srt.len {w : Nat → Int} {L : Nat} {xs : List Nat} (h : srt w L xs) : xs.length = L := by rw [h.1.length_eq, List.length_range]
theorem srt.lt {w : Nat → Int} {L : Nat} {xs : List Nat} (h : srt w L xs) {j : Nat} (hj : j < L) : xs.getD j 0 < L := by
  have hl := h.len
  have e : xs.getD j 0 = xs[j]'(by omega) := by simp [List.getD, hl, hj]
  rw [e]
  exact List.mem_range.mp (h.1.mem_iff.mp (List.getElem_mem _))
theorem srt_ins {w : Nat → Int} {L k : Nat} {xs : List Nat} (h : srt w L xs) (hk : k ≤ L) (h1 : ∀ j, k ≤ j → j < L → w (xs.getD j 0) < w L) (h2 : ∀ j, j < k → w L ≤ w (xs.getD j 0)) (hs : k = 0 ∨ w L ≤ w (xs.getD (k - 1) 0)) : srt w (L + 1) (xs.take k ++ L :: xs.drop k) := by
  have hl := h.len
  have hm : ∀ a ∈ xs, a < L := fun a ha => List.mem_range.mp (h.1.mem_iff.mp ha)
  constructor
  · refine List.perm_middle.trans ?_
    rw [List.take_append_drop, List.range_succ]
    exact (h.1.cons L).trans (List.perm_append_singleton L (List.range L)).symm
  · have hp := h.2
    rw [← List.take_append_drop k xs] at hp
    obtain ⟨p1, p2, p3⟩ := List.pairwise_append.mp hp
    refine List.pairwise_append.mpr ⟨p1, List.pairwise_cons.mpr ⟨fun b hb => ?_, p2⟩, fun a ha b hb => ?_⟩
    · obtain ⟨i, hi, e⟩ := List.getElem_of_mem hb
      rw [List.getElem_drop] at e
      left
      have := h1 (k + i) (by omega) (by rw [List.length_drop] at hi; omega)
      rw [show xs.getD (k + i) 0 = b by rw [← e]; simp [List.getD]; rw [List.getElem?_eq_getElem (by rw [List.length_drop] at hi; omega)]; rfl] at this
      exact this
    · rcases List.mem_cons.mp hb with rfl | hb
      · obtain ⟨i, hi, e⟩ := List.getElem_of_mem ha
        rw [List.length_take] at hi
        rw [List.getElem_take] at e
        have h3 := h2 i (by omega)
        rw [show xs.getD i 0 = a by rw [← e]; simp [List.getD]; rw [List.getElem?_eq_getElem (by omega)]; rfl] at h3
        have h4 := hm a (List.mem_of_mem_take ha)
        by_cases e2 : w b < w a
        · exact Or.inl e2
        · exact Or.inr ⟨by omega, h4⟩
      · exact p3 a ha b hb
theorem ins_at {xs : List Nat} {k v : Nat} (hk : k ≤ xs.length) (j : Nat) : (xs.take k ++ v :: xs.drop k).getD j 0 = if j < k then xs.getD j 0 else if j = k then v else xs.getD (j - 1) 0 := by
  simp only [List.getD]
  by_cases e : j < k
  · rw [if_pos e, List.getElem?_append_left (by rw [List.length_take]; omega), List.getElem?_take_of_lt e]
  · rw [if_neg e, List.getElem?_append_right (by rw [List.length_take]; omega), List.length_take, show min k xs.length = k by omega]
    by_cases e2 : j = k
    · subst e2; rw [if_pos rfl]; simp
    · rw [if_neg e2]
      obtain ⟨d, hd⟩ : ∃ d, j = k + 1 + d := ⟨j - (k + 1), by omega⟩
      subst hd
      rw [show k + 1 + d - k = d + 1 by omega, List.getElem?_cons_succ, List.getElem?_drop, show k + 1 + d - 1 = k + d by omega]
theorem srt_rank {w : Nat → Int} {L k : Nat} {xs : List Nat} (h : srt w L xs) (hk : k < L) : (List.range L).countP (fun o => decide (wB w o (xs.getD k 0))) = k := by
  have hl := h.len
  rw [← h.1.countP_eq]
  have e0 : xs.getD k 0 = xs[k]'(by omega) := by simp [List.getD, hl, hk]
  rw [e0]
  have hsplit : xs = xs.take k ++ xs[k]'(by omega) :: xs.drop (k + 1) := by
    rw [List.getElem_cons_drop, List.take_append_drop]
  have hp := h.2
  generalize hv : xs[k]'(by omega) = v at hsplit ⊢
  rw [hsplit] at hp
  obtain ⟨p1, p2, p3⟩ := List.pairwise_append.mp hp
  obtain ⟨p4, p5⟩ := List.pairwise_cons.mp p2
  rw [hsplit, List.countP_append, List.countP_cons]
  have a1 : List.countP (fun o => decide (wB w o v)) (xs.take k) = k := by
    have : List.countP (fun o => decide (wB w o v)) (xs.take k) = (xs.take k).length := List.countP_eq_length.mpr (fun a ha => decide_eq_true (p3 a ha v List.mem_cons_self))
    rw [this, List.length_take]; omega
  have a2 : List.countP (fun o => decide (wB w o v)) (xs.drop (k + 1)) = 0 := List.countP_eq_zero.mpr (fun a ha => by
    have := p4 a ha
    simp only [decide_eq_true_eq]
    omega)
  rw [a1, a2]
  have : decide (wB w v v) = false := decide_eq_false (by omega)
  rw [this]
  simp
theorem srt_un {w : Nat → Int} {L k a : Nat} {xs : List Nat} (h : srt w L xs) (ha : a < L) (hr : (List.range L).countP (fun o => decide (wB w o a)) = k) : xs.getD k 0 = a := by
  have hl := h.len
  have hm : a ∈ xs := h.1.mem_iff.mpr (List.mem_range.mpr ha)
  obtain ⟨i, hi, e⟩ := List.getElem_of_mem hm
  have e1 : xs.getD i 0 = a := by rw [← e]; simp [List.getD]; rw [List.getElem?_eq_getElem hi]; rfl
  have := srt_rank h (k := i) (by omega)
  rw [e1, hr] at this
  rw [this]; exact e1
theorem srt_max {w : Nat → Int} {L : Nat} {xs : List Nat} (h : srt w L xs) (hL : 0 < L) : ∀ a, a < L → w a ≤ w (xs.getD 0 0) := by
  intro a ha
  have hl := h.len
  have hm : a ∈ xs := h.1.mem_iff.mpr (List.mem_range.mpr ha)
  match xs, h, hl, hm with
  | x :: ys, h, hl, hm =>
    simp only [List.getD, List.getElem?_cons_zero, Option.getD_some]
    rcases List.mem_cons.mp hm with rfl | hm
    · exact Int.le_refl _
    · have := (List.pairwise_cons.mp h.2).1 a hm
      omega
theorem srt_ge {w : Nat → Int} {L : Nat} {xs : List Nat} (h : srt w L xs) {i j : Nat} (hij : i ≤ j) (hj : j < L) : w (xs.getD j 0) ≤ w (xs.getD i 0) := by
  have hl := h.len
  by_cases e : i = j
  · subst e; exact Int.le_refl _
  · have e1 : xs.getD i 0 = xs[i]'(by omega) := by simp [List.getD]; rw [List.getElem?_eq_getElem (by omega)]; rfl
    have e2 : xs.getD j 0 = xs[j]'(by omega) := by simp [List.getD]; rw [List.getElem?_eq_getElem (by omega)]; rfl
    have := List.pairwise_iff_getElem.mp h.2 i j (by omega) (by omega) (by omega)
    rw [e1, e2]
    omega
theorem srt_ins2 {w : Nat → Int} {L k : Nat} {xs : List Nat} (h : srt w L xs) (hk : k ≤ L) (h1 : ∀ j, k ≤ j → j < L → w (xs.getD j 0) < w L) (hs : k = 0 ∨ w L ≤ w (xs.getD (k - 1) 0)) : srt w (L + 1) (xs.take k ++ L :: xs.drop k) :=
  srt_ins h hk h1 (fun j hj => by
    rcases hs with e | e
    · omega
    · exact Int.le_trans e (srt_ge h (i := j) (j := k - 1) (by omega) (by omega))) hs
end
section
/-! ===== edits that wait ===== -/
abbrev ED : Type := Nat × Nat × Nat × (Nat → Int)
abbrev mts (E : ED) (x k : Int) : Prop := (E.1 : Int) ≤ x + k ∧ x ≤ (E.1 : Int) + (E.2.1 : Int)
def tch (S : Nat → ED) (x k : Int) : Nat → Bool
  | 0 => false
  | i + 1 => tch S x k i || decide (mts (S i) x k)
theorem tch_iff (S : Nat → ED) (x k : Int) : ∀ z, tch S x k z = true ↔ ∃ i, i < z ∧ mts (S i) x k
  | 0 => by simp [tch]
  | z + 1 => by
    simp only [tch, Bool.or_eq_true, decide_eq_true_eq]
    rw [tch_iff S x k z]
    constructor
    · rintro (⟨i, h1, h2⟩ | h)
      · exact ⟨i, by omega, h2⟩
      · exact ⟨z, by omega, h⟩
    · rintro ⟨i, h1, h2⟩
      by_cases e : i = z
      · subst e; exact Or.inr h2
      · exact Or.inl ⟨i, by omega, h2⟩
def grw (S : Nat → ED) : Nat → Int
  | 0 => 0
  | i + 1 => grw S i + (((S i).2.2.1 : Int) - ((S i).2.1 : Int))
def pos (S : Nat → ED) (x : Int) : Nat → Nat
  | 0 => 0
  | i + 1 => if x < ((S i).1 : Int) then pos S x i else i + 1
theorem pos_le (S : Nat → ED) (x : Int) : ∀ z, pos S x z ≤ z
  | 0 => Nat.le_refl 0
  | z + 1 => by have := pos_le S x z; simp only [pos]; split <;> omega
theorem pos_hi (S : Nat → ED) (x : Int) : ∀ z j, pos S x z ≤ j → j < z → x < ((S j).1 : Int)
  | 0, j, _, h => by omega
  | z + 1, j, h1, h2 => by
    simp only [pos] at h1
    by_cases e : x < ((S z).1 : Int)
    · rw [if_pos e] at h1
      by_cases e2 : j = z
      · subst e2; exact e
      · exact pos_hi S x z j h1 (by omega)
    · rw [if_neg e] at h1; omega
theorem pos_lo (S : Nat → ED) (x : Int) : ∀ z, pos S x z = 0 ∨ ((S (pos S x z - 1)).1 : Int) ≤ x
  | 0 => Or.inl rfl
  | z + 1 => by
    simp only [pos]
    by_cases e : x < ((S z).1 : Int)
    · rw [if_pos e]; exact pos_lo S x z
    · rw [if_neg e]; right; rw [show z + 1 - 1 = z by omega]; omega
def insS (S : Nat → ED) (p : Nat) (E : ED) : Nat → ED := fun j => if j < p then S j else if j = p then E else S (j - 1)
def doA (S : Nat → ED) : Nat → PG → PG
  | 0, P => P
  | i + 1, P => doA S i (edP P (S i).1 (S i).2.1 (S i).2.2.1 (S i).2.2.2)
def okS (S : Nat → ED) (z n : Nat) : Prop := (∀ i, i < z → (S i).2.2.1 ≤ 24 ∧ ∀ j, j < (S i).2.2.1 → 0 ≤ (S i).2.2.2 j ∧ (S i).2.2.2 j ≤ 255) ∧ (∀ i j, i < j → j < z → (S i).1 + (S i).2.1 < (S j).1) ∧ ∀ i, i < z → (S i).1 + (S i).2.1 ≤ n
theorem okS.ins {S : Nat → ED} {z n : Nat} (h : okS S z n) {E : ED} (hE : E.2.2.1 ≤ 24 ∧ ∀ j, j < E.2.2.1 → 0 ≤ E.2.2.2 j ∧ E.2.2.2 j ≤ 255) (hn : E.1 + E.2.1 ≤ n) (ht : ∀ i, i < z → ¬ mts (S i) E.1 E.2.1) : okS (insS S (pos S E.1 z) E) (z + 1) n := by
  have hp := pos_le S E.1 z
  have hhi : ∀ j, pos S E.1 z ≤ j → j < z → E.1 < (S j).1 := fun j h1 h2 => by have := pos_hi S E.1 z j h1 h2; omega
  have hlo : ∀ j, j < pos S E.1 z → (S j).1 ≤ E.1 := fun j hj => by
    rcases pos_lo S E.1 z with e | e
    · omega
    · by_cases e2 : j = pos S E.1 z - 1
      · subst e2; omega
      · have := h.2.1 j (pos S E.1 z - 1) (by omega) (by omega); omega
  generalize pos S E.1 z = p at hp hhi hlo ⊢
  have hlt : ∀ j, j < p → (S j).1 + (S j).2.1 < E.1 := fun j hj => by
    have h1 := hlo j hj
    have h2 := ht j (by omega)
    simp only [mts] at h2
    omega
  have hgt : ∀ j, p ≤ j → j < z → E.1 + E.2.1 < (S j).1 := fun j h1 h2 => by
    have h3 := hhi j h1 h2
    have h4 := ht j h2
    simp only [mts] at h4
    omega
  refine ⟨fun i hi => ?_, fun i j hij hj => ?_, fun i hi => ?_⟩
  · simp only [insS]
    by_cases e : i < p
    · rw [if_pos e]; exact h.1 i (by omega)
    · rw [if_neg e]
      by_cases e2 : i = p
      · rw [if_pos e2]; exact hE
      · rw [if_neg e2]; exact h.1 _ (by omega)
  · simp only [insS]
    by_cases a : i < p
    · rw [if_pos a]
      by_cases b : j < p
      · rw [if_pos b]; exact h.2.1 i j hij (by omega)
      · rw [if_neg b]
        by_cases b2 : j = p
        · rw [if_pos b2]; exact hlt i a
        · rw [if_neg b2]; exact h.2.1 i (j - 1) (by omega) (by omega)
    · rw [if_neg a, if_neg (by omega : ¬ j < p)]
      by_cases a2 : i = p
      · rw [if_pos a2, if_neg (by omega : ¬ j = p)]; exact hgt (j - 1) (by omega) (by omega)
      · rw [if_neg a2, if_neg (by omega : ¬ j = p)]; exact h.2.1 (i - 1) (j - 1) (by omega) (by omega)
  · simp only [insS]
    by_cases e : i < p
    · rw [if_pos e]; exact h.2.2 i (by omega)
    · rw [if_neg e]
      by_cases e2 : i = p
      · rw [if_pos e2]; exact hn
      · rw [if_neg e2]; exact h.2.2 _ (by omega)
end
section
/-! ===== Row: a row of numbers, its room made once ===== -/
def Fr (h h' : qH) (lo hi : Nat) : Prop := ∀ q, q < lo ∨ hi ≤ q → h' q = h q
theorem Fr.rf {h : qH} {lo hi : Nat} : Fr h h lo hi := fun _ _ => rfl
theorem Fr.trans {h h' h2 : qH} {lo hi : Nat} (a : Fr h h' lo hi) (b : Fr h' h2 lo hi) : Fr h h2 lo hi := fun q hq => (b q hq).trans (a q hq)
theorem Fr.wide {h h' : qH} {lo hi lo' hi' : Nat} (a : Fr h h' lo hi) (h1 : lo' ≤ lo) (h2 : hi ≤ hi') : Fr h h' lo' hi' := fun q hq => a q (by omega)
theorem Fr.hU {h : qH} {lo hi a : Nat} {e : qE} (h1 : lo ≤ a) (h2 : a < hi) : Fr h (hU h a e) lo hi := fun q hq => hU_ne (by omega)

def Row (h : qH) (r N n : Nat) (T : Nat → Int) : Prop := ∃ f : Nat → Int, h r = some (oB 3 [.ref (r + 1), vI n]) ∧ h (r + 1) = some (iA 0 N f) ∧ n ≤ N ∧ N ≤ 5000 ∧ ∀ j, j < n → f j = T j
theorem Row.obj {h : qH} {r N n : Nat} {T : Nat → Int} (a : Row h r N n T) : h r = some (oB 3 [.ref (r + 1), vI n]) := by obtain ⟨f, h1, -⟩ := a; exact h1
theorem Row.le {h : qH} {r N n : Nat} {T : Nat → Int} (a : Row h r N n T) : n ≤ N ∧ N ≤ 5000 := by obtain ⟨f, -, -, h3, h4, -⟩ := a; exact ⟨h3, h4⟩
theorem Row.fr {h h' : qH} {r N n lo hi : Nat} {T : Nat → Int} (a : Row h r N n T) (b : Fr h h' lo hi) (d : r + 2 ≤ lo ∨ hi ≤ r) : Row h' r N n T := by
  obtain ⟨f, h1, h2, h3⟩ := a
  exact ⟨f, (b r (by omega)).trans h1, (b (r + 1) (by omega)).trans h2, h3⟩
theorem Row.congr {h : qH} {r N n : Nat} {T T' : Nat → Int} (a : Row h r N n T) (e : ∀ j, j < n → T j = T' j) : Row h r N n T' := by
  obtain ⟨f, h1, h2, h3, h4, h5⟩ := a
  exact ⟨f, h1, h2, h3, h4, fun j hj => (h5 j hj).trans (e j hj)⟩
theorem up_agree {f T : Nat → Int} {n k : Nat} {v : Int} (e : ∀ j, j < n → f j = T j) : ∀ j, j < n → va_up f k v j = va_up T k v j := fun j hj => by
  by_cases h : j = k
  · subst h; simp [va_up]
  · simp [va_up, h, e j hj]
theorem up_lt {T : Nat → Int} {n : Nat} {v : Int} {j : Nat} (h : j < n) : va_up T n v j = T j := by simp [va_up, Nat.ne_of_lt h]
theorem up_at (T : Nat → Int) (n : Nat) (v : Int) : va_up T n v n = v := by simp [va_up]
theorem qV_loc {l : Launch} {M : MI} {R : Room} {EX : State → Array Value → Prop} {G : qG} {h0 : qH} {sz0 k n : Nat} {h : qH} {sz pc : Nat} {L L' : List (Option Value)} {st : List Value} (kk : qV l M R EX G h0 sz0 k n h sz pc L' st) (e : L = L') : qV l M R EX G h0 sz0 k n h sz pc L st := e ▸ kk
def mix (z : Int) (T : Nat → Int) : Nat → Int
  | 0 => z
  | n + 1 => 31 * mix z T n + T n
theorem mix_congr {z : Int} {T T' : Nat → Int} : ∀ {n : Nat}, (∀ j, j < n → T j = T' j) → mix z T n = mix z T' n
  | 0, _ => rfl
  | n + 1, e => by simp only [mix]; rw [mix_congr (fun j hj => e j (by omega)), e n (by omega)]
section ROW
variable {l : Launch} {h : qH} {sz r N n : Nat} {T : Nat → Int}
set_option maxRecDepth 100000 in
set_option maxHeartbeats 4000000 in
theorem c_size (hr : Row h r N n T) : qRd l mX3_size [.ref r] h sz (vI n) := by
  obtain ⟨f, h1, h2, h3, h4, h5⟩ := hr
  refine qC.of 0 (by decide) (le_b rfl) ?_
  refine qV_aload_n (pc := 0) 0 dX3_size_0 rfl rfl ?_
  refine qV_get (pc := 1) kX3 1 (le_b rfl) lk_X3_19 rfl dX3_size_1 (by first | assumption | exact hU_self _ _ _ | (refine (hU_ne (by omega)).trans ?_; first | assumption | exact hU_self _ _ _ | (refine (hU_ne (by omega)).trans ?_; first | assumption | exact hU_self _ _ _ | (refine (hU_ne (by omega)).trans ?_; first | assumption | exact hU_self _ _ _)))) (by exact rfl) ?_
  refine qV_iret (pc := 4) dX3_size_4 rfl (le_b rfl) (le_b rfl) ?_
  exact ⟨rfl, rfl, rfl⟩
set_option maxRecDepth 100000 in
set_option maxHeartbeats 4000000 in
theorem c_get {i : Int} (hr : Row h r N n T) (hi : iR i) : qRd l mX3_get [.ref r, vI i] h sz (vI (if 0 ≤ i ∧ i < n then T i.toNat else 0)) := by
  obtain ⟨f, h1, h2, h3, h4, h5⟩ := hr
  obtain ⟨i1, i2⟩ := hi
  refine qC.of 0 (by decide) (le_b rfl) ?_
  refine qV_iload_n (pc := 0) 1 dX3_get_0 rfl rfl ?_
  refine qV_iflt (pc := 1) 30 dX3_get_1 (by decide) ⟨by omega, by omega⟩ (fun c1 => ?_) (fun c1 => ?_)
  · refine qV_iconst (pc := 30) dX3_get_30 ?_
    refine qV_iret (pc := 31) dX3_get_31 rfl (le_b rfl) (le_b rfl) ?_
    first | exact ⟨by rw [if_neg (by omega)], rfl, rfl⟩ | exact ⟨by rw [if_pos (by omega), h5 _ (by omega)], rfl, rfl⟩
  · refine qV_iload_n (pc := 4) 1 dX3_get_4 rfl rfl ?_
    refine qV_aload_n (pc := 5) 0 dX3_get_5 rfl rfl ?_
    refine qV_get (pc := 6) kX3 1 (le_b rfl) lk_X3_19 rfl dX3_get_6 (by first | assumption | exact hU_self _ _ _ | (refine (hU_ne (by omega)).trans ?_; first | assumption | exact hU_self _ _ _ | (refine (hU_ne (by omega)).trans ?_; first | assumption | exact hU_self _ _ _ | (refine (hU_ne (by omega)).trans ?_; first | assumption | exact hU_self _ _ _)))) (by exact rfl) ?_
    refine qV_icmp_ge (pc := 9) 30 dX3_get_9 (by decide) ⟨by omega, by omega⟩ ⟨by omega, by omega⟩ (fun c9 => ?_) (fun c9 => ?_)
    · refine qV_iconst (pc := 30) dX3_get_30 ?_
      refine qV_iret (pc := 31) dX3_get_31 rfl (le_b rfl) (le_b rfl) ?_
      first | exact ⟨by rw [if_neg (by omega)], rfl, rfl⟩ | exact ⟨by rw [if_pos (by omega), h5 _ (by omega)], rfl, rfl⟩
    · refine qV_iload_n (pc := 12) 1 dX3_get_12 rfl rfl ?_
      refine qV_aload_n (pc := 13) 0 dX3_get_13 rfl rfl ?_
      refine qV_get (pc := 14) kX3 0 (le_b rfl) lk_X3_13 rfl dX3_get_14 (by first | assumption | exact hU_self _ _ _ | (refine (hU_ne (by omega)).trans ?_; first | assumption | exact hU_self _ _ _ | (refine (hU_ne (by omega)).trans ?_; first | assumption | exact hU_self _ _ _ | (refine (hU_ne (by omega)).trans ?_; first | assumption | exact hU_self _ _ _)))) (by exact rfl) ?_
      refine qV_alen (pc := 17) dX3_get_17 (by first | assumption | exact hU_self _ _ _ | (refine (hU_ne (by omega)).trans ?_; first | assumption | exact hU_self _ _ _ | (refine (hU_ne (by omega)).trans ?_; first | assumption | exact hU_self _ _ _ | (refine (hU_ne (by omega)).trans ?_; first | assumption | exact hU_self _ _ _)))) ?_
      refine qV_icmp_ge (pc := 18) 30 dX3_get_18 (by decide) ⟨by omega, by omega⟩ ⟨by omega, by omega⟩ (fun c18 => ?_) (fun c18 => ?_)
      · exfalso; omega
      · refine qV_aload_n (pc := 21) 0 dX3_get_21 rfl rfl ?_
        refine qV_get (pc := 22) kX3 0 (le_b rfl) lk_X3_13 rfl dX3_get_22 (by first | assumption | exact hU_self _ _ _ | (refine (hU_ne (by omega)).trans ?_; first | assumption | exact hU_self _ _ _ | (refine (hU_ne (by omega)).trans ?_; first | assumption | exact hU_self _ _ _ | (refine (hU_ne (by omega)).trans ?_; first | assumption | exact hU_self _ _ _)))) (by exact rfl) ?_
        refine qV_iload_n (pc := 25) 1 dX3_get_25 rfl rfl ?_
        refine qV_iald (pc := 26) dX3_get_26 (by first | assumption | exact hU_self _ _ _ | (refine (hU_ne (by omega)).trans ?_; first | assumption | exact hU_self _ _ _ | (refine (hU_ne (by omega)).trans ?_; first | assumption | exact hU_self _ _ _ | (refine (hU_ne (by omega)).trans ?_; first | assumption | exact hU_self _ _ _)))) (by omega) ?_
        refine qV_goto (pc := 27) 31 dX3_get_27 (by decide) ?_
        refine qV_iret (pc := 31) dX3_get_31 rfl (le_b rfl) (le_b rfl) ?_
        first | exact ⟨by rw [if_neg (by omega)], rfl, rfl⟩ | exact ⟨by rw [if_pos (by omega), h5 _ (by omega)], rfl, rfl⟩
theorem c_gt {q : Int} {i : Nat} (hr : Row h r N n T) (hq : q = i) (hi : i < n) : qRd l mX3_get [.ref r, vI q] h sz (vI (T i)) := by
  have := hr.le
  have e := c_get (l := l) (sz := sz) hr (i := q) ⟨by omega, by omega⟩
  rw [if_pos (by omega), show q.toNat = i by omega] at e
  exact e
theorem c_gt0 {q : Int} (hr : Row h r N n T) (hq : q < 0 ∨ n ≤ q) (hi : iR q) : qRd l mX3_get [.ref r, vI q] h sz (vI 0) := by
  have e := c_get (l := l) (sz := sz) hr (i := q) hi
  rw [if_neg (by omega)] at e
  exact e
set_option maxRecDepth 100000 in
set_option maxHeartbeats 4000000 in
theorem c_set {q v : Int} {i : Nat} (hr : Row h r N n T) (hq : q = i) (hi : i < n) : qVo l mX3_set 0 0 [.ref r, vI q, vI v] h sz (fun h' sz' => Row h' r N n (va_up T i v) ∧ Fr h h' r (r + 2) ∧ sz' = sz) := by
  obtain ⟨f, h1, h2, h3, h4, h5⟩ := hr
  subst hq
  refine qC.of 0 (by decide) (le_b rfl) ?_
  refine qV_iload_n (pc := 0) 1 dX3_set_0 rfl rfl ?_
  refine qV_iflt (pc := 1) 28 dX3_set_1 (by decide) ⟨by omega, by omega⟩ (fun c1 => ?_) (fun c1 => ?_)
  · exfalso; omega
  · refine qV_iload_n (pc := 4) 1 dX3_set_4 rfl rfl ?_
    refine qV_aload_n (pc := 5) 0 dX3_set_5 rfl rfl ?_
    refine qV_get (pc := 6) kX3 1 (le_b rfl) lk_X3_19 rfl dX3_set_6 (by first | assumption | exact hU_self _ _ _ | (refine (hU_ne (by omega)).trans ?_; first | assumption | exact hU_self _ _ _ | (refine (hU_ne (by omega)).trans ?_; first | assumption | exact hU_self _ _ _ | (refine (hU_ne (by omega)).trans ?_; first | assumption | exact hU_self _ _ _)))) (by exact rfl) ?_
    refine qV_icmp_ge (pc := 9) 28 dX3_set_9 (by decide) ⟨by omega, by omega⟩ ⟨by omega, by omega⟩ (fun c9 => ?_) (fun c9 => ?_)
    · exfalso; omega
    · refine qV_iload_n (pc := 12) 1 dX3_set_12 rfl rfl ?_
      refine qV_aload_n (pc := 13) 0 dX3_set_13 rfl rfl ?_
      refine qV_get (pc := 14) kX3 0 (le_b rfl) lk_X3_13 rfl dX3_set_14 (by first | assumption | exact hU_self _ _ _ | (refine (hU_ne (by omega)).trans ?_; first | assumption | exact hU_self _ _ _ | (refine (hU_ne (by omega)).trans ?_; first | assumption | exact hU_self _ _ _ | (refine (hU_ne (by omega)).trans ?_; first | assumption | exact hU_self _ _ _)))) (by exact rfl) ?_
      refine qV_alen (pc := 17) dX3_set_17 (by first | assumption | exact hU_self _ _ _ | (refine (hU_ne (by omega)).trans ?_; first | assumption | exact hU_self _ _ _ | (refine (hU_ne (by omega)).trans ?_; first | assumption | exact hU_self _ _ _ | (refine (hU_ne (by omega)).trans ?_; first | assumption | exact hU_self _ _ _)))) ?_
      refine qV_icmp_ge (pc := 18) 28 dX3_set_18 (by decide) ⟨by omega, by omega⟩ ⟨by omega, by omega⟩ (fun c18 => ?_) (fun c18 => ?_)
      · exfalso; omega
      · refine qV_aload_n (pc := 21) 0 dX3_set_21 rfl rfl ?_
        refine qV_get (pc := 22) kX3 0 (le_b rfl) lk_X3_13 rfl dX3_set_22 (by first | assumption | exact hU_self _ _ _ | (refine (hU_ne (by omega)).trans ?_; first | assumption | exact hU_self _ _ _ | (refine (hU_ne (by omega)).trans ?_; first | assumption | exact hU_self _ _ _ | (refine (hU_ne (by omega)).trans ?_; first | assumption | exact hU_self _ _ _)))) (by exact rfl) ?_
        refine qV_iload_n (pc := 25) 1 dX3_set_25 rfl rfl ?_
        refine qV_iload_n (pc := 26) 2 dX3_set_26 rfl rfl ?_
        refine qV_iast (pc := 27) dX3_set_27 (by first | assumption | exact hU_self _ _ _ | (refine (hU_ne (by omega)).trans ?_; first | assumption | exact hU_self _ _ _ | (refine (hU_ne (by omega)).trans ?_; first | assumption | exact hU_self _ _ _ | (refine (hU_ne (by omega)).trans ?_; first | assumption | exact hU_self _ _ _)))) (by omega) ?_
        refine qV_vret (pc := 28) dX3_set_28 rfl (le_b rfl) (le_b rfl) ?_
        exact ⟨rfl, ⟨_, (hU_ne (by omega)).trans h1, hU_self _ _ _, h3, h4, up_agree h5⟩, Fr.hU (by omega) (by omega), rfl⟩
set_option maxRecDepth 100000 in
set_option maxHeartbeats 4000000 in
theorem c_add {v : Int} (hr : Row h r N n T) (hi : n < N) : qVo l mX3_add 0 0 [.ref r, vI v] h sz (fun h' sz' => Row h' r N (n + 1) (va_up T n v) ∧ Fr h h' r (r + 2) ∧ sz' = sz) := by
  obtain ⟨f, h1, h2, h3, h4, h5⟩ := hr
  refine qC.of 0 (by decide) (le_b rfl) ?_
  refine qV_aload_n (pc := 0) 0 dX3_add_0 rfl rfl ?_
  refine qV_get (pc := 1) kX3 1 (le_b rfl) lk_X3_19 rfl dX3_add_1 (by first | assumption | exact hU_self _ _ _ | (refine (hU_ne (by omega)).trans ?_; first | assumption | exact hU_self _ _ _ | (refine (hU_ne (by omega)).trans ?_; first | assumption | exact hU_self _ _ _ | (refine (hU_ne (by omega)).trans ?_; first | assumption | exact hU_self _ _ _)))) (by exact rfl) ?_
  refine qV_iflt (pc := 4) 39 dX3_add_4 (by decide) ⟨by omega, by omega⟩ (fun c4 => ?_) (fun c4 => ?_)
  · exfalso; omega
  · refine qV_aload_n (pc := 7) 0 dX3_add_7 rfl rfl ?_
    refine qV_get (pc := 8) kX3 1 (le_b rfl) lk_X3_19 rfl dX3_add_8 (by first | assumption | exact hU_self _ _ _ | (refine (hU_ne (by omega)).trans ?_; first | assumption | exact hU_self _ _ _ | (refine (hU_ne (by omega)).trans ?_; first | assumption | exact hU_self _ _ _ | (refine (hU_ne (by omega)).trans ?_; first | assumption | exact hU_self _ _ _)))) (by exact rfl) ?_
    refine qV_aload_n (pc := 11) 0 dX3_add_11 rfl rfl ?_
    refine qV_get (pc := 12) kX3 0 (le_b rfl) lk_X3_13 rfl dX3_add_12 (by first | assumption | exact hU_self _ _ _ | (refine (hU_ne (by omega)).trans ?_; first | assumption | exact hU_self _ _ _ | (refine (hU_ne (by omega)).trans ?_; first | assumption | exact hU_self _ _ _ | (refine (hU_ne (by omega)).trans ?_; first | assumption | exact hU_self _ _ _)))) (by exact rfl) ?_
    refine qV_alen (pc := 15) dX3_add_15 (by first | assumption | exact hU_self _ _ _ | (refine (hU_ne (by omega)).trans ?_; first | assumption | exact hU_self _ _ _ | (refine (hU_ne (by omega)).trans ?_; first | assumption | exact hU_self _ _ _ | (refine (hU_ne (by omega)).trans ?_; first | assumption | exact hU_self _ _ _)))) ?_
    refine qV_icmp_ge (pc := 16) 39 dX3_add_16 (by decide) ⟨by omega, by omega⟩ ⟨by omega, by omega⟩ (fun c16 => ?_) (fun c16 => ?_)
    · exfalso; omega
    · refine qV_aload_n (pc := 19) 0 dX3_add_19 rfl rfl ?_
      refine qV_get (pc := 20) kX3 0 (le_b rfl) lk_X3_13 rfl dX3_add_20 (by first | assumption | exact hU_self _ _ _ | (refine (hU_ne (by omega)).trans ?_; first | assumption | exact hU_self _ _ _ | (refine (hU_ne (by omega)).trans ?_; first | assumption | exact hU_self _ _ _ | (refine (hU_ne (by omega)).trans ?_; first | assumption | exact hU_self _ _ _)))) (by exact rfl) ?_
      refine qV_aload_n (pc := 23) 0 dX3_add_23 rfl rfl ?_
      refine qV_get (pc := 24) kX3 1 (le_b rfl) lk_X3_19 rfl dX3_add_24 (by first | assumption | exact hU_self _ _ _ | (refine (hU_ne (by omega)).trans ?_; first | assumption | exact hU_self _ _ _ | (refine (hU_ne (by omega)).trans ?_; first | assumption | exact hU_self _ _ _ | (refine (hU_ne (by omega)).trans ?_; first | assumption | exact hU_self _ _ _)))) (by exact rfl) ?_
      refine qV_iload_n (pc := 27) 1 dX3_add_27 rfl rfl ?_
      refine qV_iast (pc := 28) dX3_add_28 (by first | assumption | exact hU_self _ _ _ | (refine (hU_ne (by omega)).trans ?_; first | assumption | exact hU_self _ _ _ | (refine (hU_ne (by omega)).trans ?_; first | assumption | exact hU_self _ _ _ | (refine (hU_ne (by omega)).trans ?_; first | assumption | exact hU_self _ _ _)))) (by omega) ?_
      refine qV_aload_n (pc := 29) 0 dX3_add_29 rfl rfl ?_
      refine qV_dup (pc := 30) dX3_add_30 rfl ?_
      refine qV_get (pc := 31) kX3 1 (le_b rfl) lk_X3_19 rfl dX3_add_31 (by first | assumption | exact hU_self _ _ _ | (refine (hU_ne (by omega)).trans ?_; first | assumption | exact hU_self _ _ _ | (refine (hU_ne (by omega)).trans ?_; first | assumption | exact hU_self _ _ _ | (refine (hU_ne (by omega)).trans ?_; first | assumption | exact hU_self _ _ _)))) (by exact rfl) ?_
      refine qV_iconst (pc := 34) dX3_add_34 ?_
      refine qV_iadd (pc := 35) dX3_add_35 ?_
      refine qV_put (pc := 36) kX3 1 (le_b rfl) lk_X3_19 rfl rfl rfl rfl dX3_add_36 (by first | assumption | exact hU_self _ _ _ | (refine (hU_ne (by omega)).trans ?_; first | assumption | exact hU_self _ _ _ | (refine (hU_ne (by omega)).trans ?_; first | assumption | exact hU_self _ _ _ | (refine (hU_ne (by omega)).trans ?_; first | assumption | exact hU_self _ _ _)))) (by exact le_b rfl) ?_
      refine qV_vret (pc := 39) dX3_add_39 rfl (le_b rfl) (le_b rfl) ?_
      exact ⟨rfl, ⟨va_up f n v, hU_self _ _ _, (hU_ne (by omega)).trans (hU_self _ _ _), by omega, h4, fun j hj => by
        by_cases e : j = n
        · subst e; simp [va_up]
        · simp [va_up, e, h5 j (by omega)]⟩, (Fr.hU (lo := r) (hi := r + 2) (by omega) (by omega)).trans (Fr.hU (by omega) (by omega)), rfl⟩
set_option maxRecDepth 100000 in
set_option maxHeartbeats 4000000 in
theorem c_empties (T2 : Nat → Int) (hr : Row h r N n T) : qVo l mX3_empties 0 0 [.ref r] h sz (fun h' sz' => Row h' r N 0 T2 ∧ Fr h h' r (r + 2) ∧ sz' = sz) := by
  obtain ⟨f, h1, h2, h3, h4, h5⟩ := hr
  refine qC.of 0 (by decide) (le_b rfl) ?_
  refine qV_aload_n (pc := 0) 0 dX3_empties_0 rfl rfl ?_
  refine qV_iconst (pc := 1) dX3_empties_1 ?_
  refine qV_put (pc := 2) kX3 1 (le_b rfl) lk_X3_19 rfl rfl rfl rfl dX3_empties_2 (by first | assumption | exact hU_self _ _ _ | (refine (hU_ne (by omega)).trans ?_; first | assumption | exact hU_self _ _ _ | (refine (hU_ne (by omega)).trans ?_; first | assumption | exact hU_self _ _ _ | (refine (hU_ne (by omega)).trans ?_; first | assumption | exact hU_self _ _ _)))) (by exact le_b rfl) ?_
  refine qV_vret (pc := 5) dX3_empties_5 rfl (le_b rfl) (le_b rfl) ?_
  exact ⟨rfl, ⟨f, hU_self _ _ _, (hU_ne (by omega)).trans h2, by omega, h4, fun j hj => by omega⟩, Fr.hU (by omega) (by omega), rfl⟩
set_option maxRecDepth 100000 in
set_option maxHeartbeats 4000000 in
theorem c_shortensTo {q : Int} {i : Nat} (hr : Row h r N n T) (hq : q = i) (hi : i ≤ n) : qVo l mX3_shortensTo 0 0 [.ref r, vI q] h sz (fun h' sz' => Row h' r N i T ∧ Fr h h' r (r + 2) ∧ sz' = sz) := by
  obtain ⟨f, h1, h2, h3, h4, h5⟩ := hr
  subst hq
  refine qC.of 0 (by decide) (le_b rfl) ?_
  refine qV_iload_n (pc := 0) 1 dX3_shortensTo_0 rfl rfl ?_
  refine qV_iflt (pc := 1) 17 dX3_shortensTo_1 (by decide) ⟨by omega, by omega⟩ (fun c1 => ?_) (fun c1 => ?_)
  · exfalso; omega
  · refine qV_iload_n (pc := 4) 1 dX3_shortensTo_4 rfl rfl ?_
    refine qV_aload_n (pc := 5) 0 dX3_shortensTo_5 rfl rfl ?_
    refine qV_get (pc := 6) kX3 1 (le_b rfl) lk_X3_19 rfl dX3_shortensTo_6 (by first | assumption | exact hU_self _ _ _ | (refine (hU_ne (by omega)).trans ?_; first | assumption | exact hU_self _ _ _ | (refine (hU_ne (by omega)).trans ?_; first | assumption | exact hU_self _ _ _ | (refine (hU_ne (by omega)).trans ?_; first | assumption | exact hU_self _ _ _)))) (by exact rfl) ?_
    refine qV_icmp_ge (pc := 9) 17 dX3_shortensTo_9 (by decide) ⟨by omega, by omega⟩ ⟨by omega, by omega⟩ (fun c9 => ?_) (fun c9 => ?_)
    · obtain rfl : i = n := by omega
      refine qV_vret (pc := 17) dX3_shortensTo_17 rfl (le_b rfl) (le_b rfl) ?_
      first | exact ⟨rfl, ⟨f, hU_self _ _ _, (hU_ne (by omega)).trans h2, by omega, h4, fun j hj => h5 j (by omega)⟩, Fr.hU (by omega) (by omega), rfl⟩ | exact ⟨rfl, ⟨f, h1, h2, h3, h4, h5⟩, Fr.rf, rfl⟩
    · refine qV_aload_n (pc := 12) 0 dX3_shortensTo_12 rfl rfl ?_
      refine qV_iload_n (pc := 13) 1 dX3_shortensTo_13 rfl rfl ?_
      refine qV_put (pc := 14) kX3 1 (le_b rfl) lk_X3_19 rfl rfl rfl rfl dX3_shortensTo_14 (by first | assumption | exact hU_self _ _ _ | (refine (hU_ne (by omega)).trans ?_; first | assumption | exact hU_self _ _ _ | (refine (hU_ne (by omega)).trans ?_; first | assumption | exact hU_self _ _ _ | (refine (hU_ne (by omega)).trans ?_; first | assumption | exact hU_self _ _ _)))) (by exact le_b rfl) ?_
      refine qV_vret (pc := 17) dX3_shortensTo_17 rfl (le_b rfl) (le_b rfl) ?_
      first | exact ⟨rfl, ⟨f, hU_self _ _ _, (hU_ne (by omega)).trans h2, by omega, h4, fun j hj => h5 j (by omega)⟩, Fr.hU (by omega) (by omega), rfl⟩ | exact ⟨rfl, ⟨f, h1, h2, h3, h4, h5⟩, Fr.rf, rfl⟩
set_option maxRecDepth 100000 in
set_option maxHeartbeats 4000000 in
theorem copies_loop {o No no : Nat} {To : Nat → Int} (hd : r + 2 ≤ o ∨ o + 2 ≤ r) (hN : no ≤ N) : ∀ (m i : Nat) (q : Int) (h1 : qH), no - i = m → i ≤ no → q = i → Row h1 r N i To → Row h1 o No no To → Fr h h1 r (r + 2) → qVM l mX3_copies 0 0 h sz (fun v h' sz' => v = none ∧ Row h' r N no To ∧ Fr h h' r (r + 2) ∧ sz' = sz) 0 0 h1 sz 7 [some (.ref r), some (.ref o), some (vI q)] [] := by
  intro m
  induction m with
  | zero =>
    intro i q h1 hm hi hq hr ho hf
    obtain rfl : i = no := by omega
    have := ho.le
    refine qV_iload_n (pc := 7) 2 dX3_copies_7 rfl rfl ?_
    refine qV_aload_n (pc := 8) 1 dX3_copies_8 rfl rfl ?_
    refine qV_rdV (pc := 9) (c_size ho) nX3_size kX3 lk_X3_23 dX3_copies_9 ho.obj ⟨le_b rfl, le_b rfl⟩ ⟨le_b rfl, le_b rfl⟩ rfl (le_b rfl) ?_
    refine qV_icmp_ge (pc := 12) 30 dX3_copies_12 (by decide) ⟨by omega, by omega⟩ ⟨by omega, by omega⟩ (fun c12 => ?_) (fun c12 => ?_)
    · refine qV_vret (pc := 30) dX3_copies_30 rfl (le_b rfl) (le_b rfl) ?_
      exact ⟨rfl, hr, hf, rfl⟩
    · exfalso; omega
  | succ m ih =>
    intro i q h1 hm hi hq hr ho hf
    have := ho.le
    refine qV_iload_n (pc := 7) 2 dX3_copies_7 rfl rfl ?_
    refine qV_aload_n (pc := 8) 1 dX3_copies_8 rfl rfl ?_
    refine qV_rdV (pc := 9) (c_size ho) nX3_size kX3 lk_X3_23 dX3_copies_9 ho.obj ⟨le_b rfl, le_b rfl⟩ ⟨le_b rfl, le_b rfl⟩ rfl (le_b rfl) ?_
    refine qV_icmp_ge (pc := 12) 30 dX3_copies_12 (by decide) ⟨by omega, by omega⟩ ⟨by omega, by omega⟩ (fun c12 => ?_) (fun c12 => ?_)
    · exfalso; omega
    · refine qV_aload_n (pc := 15) 0 dX3_copies_15 rfl rfl ?_
      refine qV_aload_n (pc := 16) 1 dX3_copies_16 rfl rfl ?_
      refine qV_iload_n (pc := 17) 2 dX3_copies_17 rfl rfl ?_
      refine qV_rdV (pc := 18) (c_gt ho hq (by omega)) nX3_get kX3 lk_X3_26 dX3_copies_18 ho.obj ⟨le_b rfl, le_b rfl⟩ ⟨le_b rfl, le_b rfl⟩ rfl (le_b rfl) ?_
      refine qV_voV (pc := 21) (c_add hr (by omega)) nX3_add kX3 lk_X3_30 dX3_copies_21 hr.obj ⟨le_b rfl, le_b rfl⟩ ⟨le_b rfl, le_b rfl⟩ rfl (le_b rfl) ?_
      rintro h2 _ ⟨hr2, hf2, rfl⟩
      refine qV_iinc (pc := 24) 2 dX3_copies_24 rfl (le_b rfl) (le_b rfl) rfl ?_
      refine qV_goto (pc := 27) 7 dX3_copies_27 (by decide) ?_
      exact ih (i + 1) _ h2 (by omega) (by omega) (by omega) (hr2.congr (fun j hj => by
        by_cases e : j = i
        · subst e; simp [va_up]
        · simp [va_up, e])) (ho.fr hf2 (by omega)) (hf.trans hf2)
set_option maxRecDepth 100000 in
set_option maxHeartbeats 4000000 in
theorem c_copies {o No no : Nat} {To : Nat → Int} (hr : Row h r N n T) (ho : Row h o No no To) (hd : r + 2 ≤ o ∨ o + 2 ≤ r) (hN : no ≤ N) : qVo l mX3_copies 0 0 [.ref r, .ref o] h sz (fun h' sz' => Row h' r N no To ∧ Fr h h' r (r + 2) ∧ sz' = sz) := by
  obtain ⟨f, h1, h2, h3, h4, h5⟩ := id hr
  refine qC.of 1 (by decide) (le_b rfl) ?_
  refine qV_aload_n (pc := 0) 0 dX3_copies_0 rfl rfl ?_
  refine qV_iconst (pc := 1) dX3_copies_1 ?_
  refine qV_put (pc := 2) kX3 1 (le_b rfl) lk_X3_19 rfl rfl rfl rfl dX3_copies_2 (by first | assumption | exact hU_self _ _ _ | (refine (hU_ne (by omega)).trans ?_; first | assumption | exact hU_self _ _ _ | (refine (hU_ne (by omega)).trans ?_; first | assumption | exact hU_self _ _ _ | (refine (hU_ne (by omega)).trans ?_; first | assumption | exact hU_self _ _ _)))) (by exact le_b rfl) ?_
  refine qV_iconst (pc := 5) dX3_copies_5 ?_
  refine qV_istore_n (pc := 6) 2 dX3_copies_6 rfl (le_b rfl) (le_b rfl) rfl ?_
  exact copies_loop hd hN no 0 _ _ (by omega) (by omega) rfl ⟨f, hU_self _ _ _, (hU_ne (by omega)).trans h2, by omega, h4, fun j hj => by omega⟩ (ho.fr (Fr.hU (lo := r) (hi := r + 2) (by omega) (by omega)) (by omega)) (Fr.hU (by omega) (by omega))
set_option maxRecDepth 100000 in
set_option maxHeartbeats 4000000 in
theorem opens_loop {i k : Nat} {f : Nat → Int} (hk : n + k ≤ N) (h4 : N ≤ 5000) (h5 : ∀ j, j < n → f j = T j) (hin : i ≤ n) : ∀ (m : Nat) (q : Int) (g : Nat → Int) (h1 : qH), i ≤ m → m ≤ n → q = m - 1 → h1 r = some (oB 3 [.ref (r + 1), vI n]) → h1 (r + 1) = some (iA 0 N g) → (∀ j, j < m → g j = f j) → (∀ j, m ≤ j → j < n → g (j + k) = f j) → Fr h h1 r (r + 2) → qVM l mX3_opens 0 0 h sz (fun v h' sz' => v = none ∧ (∃ T2, Row h' r N (n + k) T2 ∧ (∀ j, j < i → T2 j = T j) ∧ ∀ j, i ≤ j → j < n → T2 (j + k) = T j) ∧ Fr h h' r (r + 2) ∧ sz' = sz) 0 0 h1 sz 38 [some (.ref r), some (vI i), some (vI k), some (vI q)] [] := by
  intro m
  induction m with
  | zero =>
    intro q g h1 hm hmn hq e1 e2 g1 g2 hf
    obtain rfl : i = 0 := by omega
    refine qV_iload_n (pc := 38) 3 dX3_opens_38 rfl rfl ?_
    refine qV_iload_n (pc := 39) 1 dX3_opens_39 rfl rfl ?_
    refine qV_icmp_lt (pc := 40) 63 dX3_opens_40 (by decide) ⟨by omega, by omega⟩ ⟨by omega, by omega⟩ (fun c40 => ?_) (fun c40 => ?_)
    · refine qV_aload_n (pc := 63) 0 dX3_opens_63 rfl rfl ?_
      refine qV_dup (pc := 64) dX3_opens_64 rfl ?_
      refine qV_get (pc := 65) kX3 1 (le_b rfl) lk_X3_19 rfl dX3_opens_65 (by first | assumption | exact hU_self _ _ _ | (refine (hU_ne (by omega)).trans ?_; first | assumption | exact hU_self _ _ _ | (refine (hU_ne (by omega)).trans ?_; first | assumption | exact hU_self _ _ _ | (refine (hU_ne (by omega)).trans ?_; first | assumption | exact hU_self _ _ _)))) (by exact rfl) ?_
      refine qV_iload_n (pc := 68) 2 dX3_opens_68 rfl rfl ?_
      refine qV_iadd (pc := 69) dX3_opens_69 ?_
      refine qV_put (pc := 70) kX3 1 (le_b rfl) lk_X3_19 rfl rfl rfl rfl dX3_opens_70 (by first | assumption | exact hU_self _ _ _ | (refine (hU_ne (by omega)).trans ?_; first | assumption | exact hU_self _ _ _ | (refine (hU_ne (by omega)).trans ?_; first | assumption | exact hU_self _ _ _ | (refine (hU_ne (by omega)).trans ?_; first | assumption | exact hU_self _ _ _)))) (by exact le_b rfl) ?_
      refine qV_vret (pc := 73) dX3_opens_73 rfl (le_b rfl) (le_b rfl) ?_
      exact ⟨rfl, ⟨fun j => g j, ⟨g, hU_self _ _ _, (hU_ne (by omega)).trans e2, hk, h4, fun _ _ => rfl⟩, fun j hj => by omega, fun j _ hj => (g2 j (by omega) hj).trans (h5 j hj)⟩, hf.trans (Fr.hU (by omega) (by omega)), rfl⟩
    · exfalso; omega
  | succ m ih =>
    intro q g h1 hm hmn hq e1 e2 g1 g2 hf
    refine qV_iload_n (pc := 38) 3 dX3_opens_38 rfl rfl ?_
    refine qV_iload_n (pc := 39) 1 dX3_opens_39 rfl rfl ?_
    refine qV_icmp_lt (pc := 40) 63 dX3_opens_40 (by decide) ⟨by omega, by omega⟩ ⟨by omega, by omega⟩ (fun c40 => ?_) (fun c40 => ?_)
    · refine qV_aload_n (pc := 63) 0 dX3_opens_63 rfl rfl ?_
      refine qV_dup (pc := 64) dX3_opens_64 rfl ?_
      refine qV_get (pc := 65) kX3 1 (le_b rfl) lk_X3_19 rfl dX3_opens_65 (by first | assumption | exact hU_self _ _ _ | (refine (hU_ne (by omega)).trans ?_; first | assumption | exact hU_self _ _ _ | (refine (hU_ne (by omega)).trans ?_; first | assumption | exact hU_self _ _ _ | (refine (hU_ne (by omega)).trans ?_; first | assumption | exact hU_self _ _ _)))) (by exact rfl) ?_
      refine qV_iload_n (pc := 68) 2 dX3_opens_68 rfl rfl ?_
      refine qV_iadd (pc := 69) dX3_opens_69 ?_
      refine qV_put (pc := 70) kX3 1 (le_b rfl) lk_X3_19 rfl rfl rfl rfl dX3_opens_70 (by first | assumption | exact hU_self _ _ _ | (refine (hU_ne (by omega)).trans ?_; first | assumption | exact hU_self _ _ _ | (refine (hU_ne (by omega)).trans ?_; first | assumption | exact hU_self _ _ _ | (refine (hU_ne (by omega)).trans ?_; first | assumption | exact hU_self _ _ _)))) (by exact le_b rfl) ?_
      refine qV_vret (pc := 73) dX3_opens_73 rfl (le_b rfl) (le_b rfl) ?_
      obtain rfl : i = m + 1 := by omega
      exact ⟨rfl, ⟨fun j => g j, ⟨g, hU_self _ _ _, (hU_ne (by omega)).trans e2, hk, h4, fun _ _ => rfl⟩, fun j hj => (g1 j hj).trans (h5 j (by omega)), fun j h6 hj => (g2 j h6 hj).trans (h5 j hj)⟩, hf.trans (Fr.hU (by omega) (by omega)), rfl⟩
    · refine qV_aload_n (pc := 43) 0 dX3_opens_43 rfl rfl ?_
      refine qV_get (pc := 44) kX3 0 (le_b rfl) lk_X3_13 rfl dX3_opens_44 (by first | assumption | exact hU_self _ _ _ | (refine (hU_ne (by omega)).trans ?_; first | assumption | exact hU_self _ _ _ | (refine (hU_ne (by omega)).trans ?_; first | assumption | exact hU_self _ _ _ | (refine (hU_ne (by omega)).trans ?_; first | assumption | exact hU_self _ _ _)))) (by exact rfl) ?_
      refine qV_iload_n (pc := 47) 3 dX3_opens_47 rfl rfl ?_
      refine qV_iload_n (pc := 48) 2 dX3_opens_48 rfl rfl ?_
      refine qV_iadd (pc := 49) dX3_opens_49 ?_
      refine qV_aload_n (pc := 50) 0 dX3_opens_50 rfl rfl ?_
      refine qV_get (pc := 51) kX3 0 (le_b rfl) lk_X3_13 rfl dX3_opens_51 (by first | assumption | exact hU_self _ _ _ | (refine (hU_ne (by omega)).trans ?_; first | assumption | exact hU_self _ _ _ | (refine (hU_ne (by omega)).trans ?_; first | assumption | exact hU_self _ _ _ | (refine (hU_ne (by omega)).trans ?_; first | assumption | exact hU_self _ _ _)))) (by exact rfl) ?_
      refine qV_iload_n (pc := 54) 3 dX3_opens_54 rfl rfl ?_
      refine qV_iald (pc := 55) dX3_opens_55 (by first | assumption | exact hU_self _ _ _ | (refine (hU_ne (by omega)).trans ?_; first | assumption | exact hU_self _ _ _ | (refine (hU_ne (by omega)).trans ?_; first | assumption | exact hU_self _ _ _ | (refine (hU_ne (by omega)).trans ?_; first | assumption | exact hU_self _ _ _)))) (by omega) ?_
      refine qV_iast (pc := 56) dX3_opens_56 (by first | assumption | exact hU_self _ _ _ | (refine (hU_ne (by omega)).trans ?_; first | assumption | exact hU_self _ _ _ | (refine (hU_ne (by omega)).trans ?_; first | assumption | exact hU_self _ _ _ | (refine (hU_ne (by omega)).trans ?_; first | assumption | exact hU_self _ _ _)))) (by omega) ?_
      refine qV_iinc (pc := 57) 3 dX3_opens_57 rfl (le_b rfl) (le_b rfl) rfl ?_
      refine qV_goto (pc := 60) 38 dX3_opens_60 (by decide) ?_
      have eq1 : q.toNat = m := by omega
      have eq2 : (q + (k : Int)).toNat = m + k := by omega
      rw [eq1, eq2]
      refine ih _ _ _ (by omega) (by omega) (by omega) ((hU_ne (by omega)).trans e1) (hU_self _ _ _) (fun j hj => ?_) (fun j h6 hj => ?_) (hf.trans (Fr.hU (by omega) (by omega)))
      · rw [va_up_ne _ _ (by omega)]
        exact g1 j (by omega)
      · by_cases e : j = m
        · subst e
          rw [va_up_self]
          exact g1 j (by omega)
        · rw [va_up_ne _ _ (by omega)]
          exact g2 j (by omega) hj
set_option maxRecDepth 100000 in
set_option maxHeartbeats 4000000 in
theorem c_opens {p q : Int} {i k : Nat} (hr : Row h r N n T) (hp : p = i) (hq : q = k) (hi : i ≤ n) (hk : n + k ≤ N) : qVo l mX3_opens 0 0 [.ref r, vI p, vI q] h sz (fun h' sz' => (∃ T2, Row h' r N (n + k) T2 ∧ (∀ j, j < i → T2 j = T j) ∧ ∀ j, i ≤ j → j < n → T2 (j + k) = T j) ∧ Fr h h' r (r + 2) ∧ sz' = sz) := by
  obtain ⟨f, h1, h2, h3, h4, h5⟩ := hr
  subst hp
  subst hq
  refine qC.of 1 (by decide) (le_b rfl) ?_
  refine qV_iload_n (pc := 0) 1 dX3_opens_0 rfl rfl ?_
  refine qV_iflt (pc := 1) 30 dX3_opens_1 (by decide) ⟨by omega, by omega⟩ (fun c1 => ?_) (fun c1 => ?_)
  · exfalso; omega
  · refine qV_iload_n (pc := 4) 1 dX3_opens_4 rfl rfl ?_
    refine qV_aload_n (pc := 5) 0 dX3_opens_5 rfl rfl ?_
    refine qV_get (pc := 6) kX3 1 (le_b rfl) lk_X3_19 rfl dX3_opens_6 (by first | assumption | exact hU_self _ _ _ | (refine (hU_ne (by omega)).trans ?_; first | assumption | exact hU_self _ _ _ | (refine (hU_ne (by omega)).trans ?_; first | assumption | exact hU_self _ _ _ | (refine (hU_ne (by omega)).trans ?_; first | assumption | exact hU_self _ _ _)))) (by exact rfl) ?_
    refine qV_icmp_gt (pc := 9) 30 dX3_opens_9 (by decide) ⟨by omega, by omega⟩ ⟨by omega, by omega⟩ (fun c9 => ?_) (fun c9 => ?_)
    · exfalso; omega
    · refine qV_iload_n (pc := 12) 2 dX3_opens_12 rfl rfl ?_
      refine qV_iflt (pc := 13) 30 dX3_opens_13 (by decide) ⟨by omega, by omega⟩ (fun c13 => ?_) (fun c13 => ?_)
      · exfalso; omega
      · refine qV_iload_n (pc := 16) 2 dX3_opens_16 rfl rfl ?_
        refine qV_aload_n (pc := 17) 0 dX3_opens_17 rfl rfl ?_
        refine qV_get (pc := 18) kX3 0 (le_b rfl) lk_X3_13 rfl dX3_opens_18 (by first | assumption | exact hU_self _ _ _ | (refine (hU_ne (by omega)).trans ?_; first | assumption | exact hU_self _ _ _ | (refine (hU_ne (by omega)).trans ?_; first | assumption | exact hU_self _ _ _ | (refine (hU_ne (by omega)).trans ?_; first | assumption | exact hU_self _ _ _)))) (by exact rfl) ?_
        refine qV_alen (pc := 21) dX3_opens_21 (by first | assumption | exact hU_self _ _ _ | (refine (hU_ne (by omega)).trans ?_; first | assumption | exact hU_self _ _ _ | (refine (hU_ne (by omega)).trans ?_; first | assumption | exact hU_self _ _ _ | (refine (hU_ne (by omega)).trans ?_; first | assumption | exact hU_self _ _ _)))) ?_
        refine qV_aload_n (pc := 22) 0 dX3_opens_22 rfl rfl ?_
        refine qV_get (pc := 23) kX3 1 (le_b rfl) lk_X3_19 rfl dX3_opens_23 (by first | assumption | exact hU_self _ _ _ | (refine (hU_ne (by omega)).trans ?_; first | assumption | exact hU_self _ _ _ | (refine (hU_ne (by omega)).trans ?_; first | assumption | exact hU_self _ _ _ | (refine (hU_ne (by omega)).trans ?_; first | assumption | exact hU_self _ _ _)))) (by exact rfl) ?_
        refine qV_isub (pc := 26) dX3_opens_26 ?_
        refine qV_icmp_le (pc := 27) 31 dX3_opens_27 (by decide) ⟨by omega, by omega⟩ ⟨by omega, by omega⟩ (fun c27 => ?_) (fun c27 => ?_)
        · refine qV_aload_n (pc := 31) 0 dX3_opens_31 rfl rfl ?_
          refine qV_get (pc := 32) kX3 1 (le_b rfl) lk_X3_19 rfl dX3_opens_32 (by first | assumption | exact hU_self _ _ _ | (refine (hU_ne (by omega)).trans ?_; first | assumption | exact hU_self _ _ _ | (refine (hU_ne (by omega)).trans ?_; first | assumption | exact hU_self _ _ _ | (refine (hU_ne (by omega)).trans ?_; first | assumption | exact hU_self _ _ _)))) (by exact rfl) ?_
          refine qV_iconst (pc := 35) dX3_opens_35 ?_
          refine qV_isub (pc := 36) dX3_opens_36 ?_
          refine qV_istore_n (pc := 37) 3 dX3_opens_37 rfl (le_b rfl) (le_b rfl) rfl ?_
          exact opens_loop hk h4 h5 hi n _ f _ hi (Nat.le_refl n) rfl h1 h2 (fun _ _ => rfl) (fun j _ _ => by omega) Fr.rf
        · exfalso; omega
set_option maxRecDepth 100000 in
set_option maxHeartbeats 4000000 in
theorem closes_loop {i k : Nat} (hk : i + k ≤ n) : ∀ (m w : Nat) (q : Int) (h1 : qH), n - w = m → i + k ≤ w → w ≤ n → q = w → Row h1 r N n (fun j => if j < i then T j else if j + k < w then T (j + k) else T j) → Fr h h1 r (r + 2) → qVM l mX3_closes 0 0 h sz (fun v h' sz' => v = none ∧ Row h' r N (n - k) (fun j => if j < i then T j else T (j + k)) ∧ Fr h h' r (r + 2) ∧ sz' = sz) 0 0 h1 sz 31 [some (.ref r), some (vI i), some (vI k), some (vI q)] [] := by
  intro m
  induction m with
  | zero =>
    intro w q h1 hm hw hwn hq hr hf
    obtain rfl : w = n := by omega
    obtain ⟨f, e1, e2, e3, e4, e5⟩ := hr
    refine qV_iload_n (pc := 31) 3 dX3_closes_31 rfl rfl ?_
    refine qV_aload_n (pc := 32) 0 dX3_closes_32 rfl rfl ?_
    refine qV_get (pc := 33) kX3 1 (le_b rfl) lk_X3_19 rfl dX3_closes_33 (by first | assumption | exact hU_self _ _ _ | (refine (hU_ne (by omega)).trans ?_; first | assumption | exact hU_self _ _ _ | (refine (hU_ne (by omega)).trans ?_; first | assumption | exact hU_self _ _ _ | (refine (hU_ne (by omega)).trans ?_; first | assumption | exact hU_self _ _ _)))) (by exact rfl) ?_
    refine qV_icmp_ge (pc := 36) 57 dX3_closes_36 (by decide) ⟨by omega, by omega⟩ ⟨by omega, by omega⟩ (fun c36 => ?_) (fun c36 => ?_)
    · refine qV_aload_n (pc := 57) 0 dX3_closes_57 rfl rfl ?_
      refine qV_dup (pc := 58) dX3_closes_58 rfl ?_
      refine qV_get (pc := 59) kX3 1 (le_b rfl) lk_X3_19 rfl dX3_closes_59 (by first | assumption | exact hU_self _ _ _ | (refine (hU_ne (by omega)).trans ?_; first | assumption | exact hU_self _ _ _ | (refine (hU_ne (by omega)).trans ?_; first | assumption | exact hU_self _ _ _ | (refine (hU_ne (by omega)).trans ?_; first | assumption | exact hU_self _ _ _)))) (by exact rfl) ?_
      refine qV_iload_n (pc := 62) 2 dX3_closes_62 rfl rfl ?_
      refine qV_isub (pc := 63) dX3_closes_63 ?_
      refine qV_put (pc := 64) kX3 1 (le_b rfl) lk_X3_19 rfl rfl rfl rfl dX3_closes_64 (by first | assumption | exact hU_self _ _ _ | (refine (hU_ne (by omega)).trans ?_; first | assumption | exact hU_self _ _ _ | (refine (hU_ne (by omega)).trans ?_; first | assumption | exact hU_self _ _ _ | (refine (hU_ne (by omega)).trans ?_; first | assumption | exact hU_self _ _ _)))) (by exact le_b rfl) ?_
      refine qV_vret (pc := 67) dX3_closes_67 rfl (le_b rfl) (le_b rfl) ?_
      exact ⟨rfl, ⟨f, by
        rw [hU_self]
        show some (oB 3 [.ref (r + 1), vI ((w : Int) - (k : Int))]) = _
        rw [show (w : Int) - (k : Int) = ((w - k : Nat) : Int) by omega], (hU_ne (by omega)).trans e2, by omega, e4, fun j hj => (e5 j (by omega)).trans (by try simp only []; rw [if_pos (show j + k < w by omega)])⟩, hf.trans (Fr.hU (by omega) (by omega)), rfl⟩
    · exfalso; omega
  | succ m ih =>
    intro w q h1 hm hw hwn hq hr hf
    have := hr.le
    have hob := hr.obj
    refine qV_iload_n (pc := 31) 3 dX3_closes_31 rfl rfl ?_
    refine qV_aload_n (pc := 32) 0 dX3_closes_32 rfl rfl ?_
    refine qV_get (pc := 33) kX3 1 (le_b rfl) lk_X3_19 rfl dX3_closes_33 (by first | assumption | exact hU_self _ _ _ | (refine (hU_ne (by omega)).trans ?_; first | assumption | exact hU_self _ _ _ | (refine (hU_ne (by omega)).trans ?_; first | assumption | exact hU_self _ _ _ | (refine (hU_ne (by omega)).trans ?_; first | assumption | exact hU_self _ _ _)))) (by exact rfl) ?_
    refine qV_icmp_ge (pc := 36) 57 dX3_closes_36 (by decide) ⟨by omega, by omega⟩ ⟨by omega, by omega⟩ (fun c36 => ?_) (fun c36 => ?_)
    · exfalso; omega
    · refine qV_aload_n (pc := 39) 0 dX3_closes_39 rfl rfl ?_
      refine qV_iload_n (pc := 40) 3 dX3_closes_40 rfl rfl ?_
      refine qV_iload_n (pc := 41) 2 dX3_closes_41 rfl rfl ?_
      refine qV_isub (pc := 42) dX3_closes_42 ?_
      refine qV_aload_n (pc := 43) 0 dX3_closes_43 rfl rfl ?_
      refine qV_iload_n (pc := 44) 3 dX3_closes_44 rfl rfl ?_
      refine qV_rdV (pc := 45) (c_gt hr hq (by omega)) nX3_get kX3 lk_X3_26 dX3_closes_45 (by first | assumption | exact hU_self _ _ _ | (refine (hU_ne (by omega)).trans ?_; first | assumption | exact hU_self _ _ _ | (refine (hU_ne (by omega)).trans ?_; first | assumption | exact hU_self _ _ _ | (refine (hU_ne (by omega)).trans ?_; first | assumption | exact hU_self _ _ _)))) ⟨le_b rfl, le_b rfl⟩ ⟨le_b rfl, le_b rfl⟩ rfl (le_b rfl) ?_
      refine qV_voV (pc := 48) (c_set (i := w - k) hr (by omega) (by omega)) nX3_set kX3 lk_X3_34 dX3_closes_48 (by first | assumption | exact hU_self _ _ _ | (refine (hU_ne (by omega)).trans ?_; first | assumption | exact hU_self _ _ _ | (refine (hU_ne (by omega)).trans ?_; first | assumption | exact hU_self _ _ _ | (refine (hU_ne (by omega)).trans ?_; first | assumption | exact hU_self _ _ _)))) ⟨le_b rfl, le_b rfl⟩ ⟨le_b rfl, le_b rfl⟩ rfl (le_b rfl) ?_
      rintro h2 _ ⟨hr2, hf2, rfl⟩
      refine qV_iinc (pc := 51) 3 dX3_closes_51 rfl (le_b rfl) (le_b rfl) rfl ?_
      refine qV_goto (pc := 54) 31 dX3_closes_54 (by decide) ?_
      refine ih (w + 1) _ h2 (by omega) (by omega) (by omega) (by omega) (hr2.congr (fun j hj => ?_)) (hf.trans hf2)
      by_cases e : j = w - k
      · subst e
        rw [va_up_self]
        try simp only []
        rw [if_neg (by omega), if_neg (by omega), if_neg (by omega), if_pos (by omega)]
        congr 1
        omega
      · rw [va_up_ne _ _ e]
        try simp only []
        by_cases e2 : j < i
        · rw [if_pos e2, if_pos e2]
        · rw [if_neg e2, if_neg e2]
          by_cases e3 : j + k < w
          · rw [if_pos e3, if_pos (by omega)]
          · rw [if_neg e3, if_neg (by omega)]
set_option maxRecDepth 100000 in
set_option maxHeartbeats 4000000 in
theorem c_closes {p q : Int} {i k : Nat} (hr : Row h r N n T) (hp : p = i) (hq : q = k) (hk : i + k ≤ n) : qVo l mX3_closes 0 0 [.ref r, vI p, vI q] h sz (fun h' sz' => Row h' r N (n - k) (fun j => if j < i then T j else T (j + k)) ∧ Fr h h' r (r + 2) ∧ sz' = sz) := by
  have hr0 := hr
  obtain ⟨f, h1, h2, h3, h4, h5⟩ := hr
  subst hp
  subst hq
  refine qC.of 1 (by decide) (le_b rfl) ?_
  refine qV_iload_n (pc := 0) 1 dX3_closes_0 rfl rfl ?_
  refine qV_iflt (pc := 1) 26 dX3_closes_1 (by decide) ⟨by omega, by omega⟩ (fun c1 => ?_) (fun c1 => ?_)
  · exfalso; omega
  · refine qV_iload_n (pc := 4) 1 dX3_closes_4 rfl rfl ?_
    refine qV_aload_n (pc := 5) 0 dX3_closes_5 rfl rfl ?_
    refine qV_get (pc := 6) kX3 1 (le_b rfl) lk_X3_19 rfl dX3_closes_6 (by first | assumption | exact hU_self _ _ _ | (refine (hU_ne (by omega)).trans ?_; first | assumption | exact hU_self _ _ _ | (refine (hU_ne (by omega)).trans ?_; first | assumption | exact hU_self _ _ _ | (refine (hU_ne (by omega)).trans ?_; first | assumption | exact hU_self _ _ _)))) (by exact rfl) ?_
    refine qV_icmp_gt (pc := 9) 26 dX3_closes_9 (by decide) ⟨by omega, by omega⟩ ⟨by omega, by omega⟩ (fun c9 => ?_) (fun c9 => ?_)
    · exfalso; omega
    · refine qV_iload_n (pc := 12) 2 dX3_closes_12 rfl rfl ?_
      refine qV_iflt (pc := 13) 26 dX3_closes_13 (by decide) ⟨by omega, by omega⟩ (fun c13 => ?_) (fun c13 => ?_)
      · exfalso; omega
      · refine qV_iload_n (pc := 16) 2 dX3_closes_16 rfl rfl ?_
        refine qV_aload_n (pc := 17) 0 dX3_closes_17 rfl rfl ?_
        refine qV_get (pc := 18) kX3 1 (le_b rfl) lk_X3_19 rfl dX3_closes_18 (by first | assumption | exact hU_self _ _ _ | (refine (hU_ne (by omega)).trans ?_; first | assumption | exact hU_self _ _ _ | (refine (hU_ne (by omega)).trans ?_; first | assumption | exact hU_self _ _ _ | (refine (hU_ne (by omega)).trans ?_; first | assumption | exact hU_self _ _ _)))) (by exact rfl) ?_
        refine qV_iload_n (pc := 21) 1 dX3_closes_21 rfl rfl ?_
        refine qV_isub (pc := 22) dX3_closes_22 ?_
        refine qV_icmp_le (pc := 23) 27 dX3_closes_23 (by decide) ⟨by omega, by omega⟩ ⟨by omega, by omega⟩ (fun c23 => ?_) (fun c23 => ?_)
        · refine qV_iload_n (pc := 27) 1 dX3_closes_27 rfl rfl ?_
          refine qV_iload_n (pc := 28) 2 dX3_closes_28 rfl rfl ?_
          refine qV_iadd (pc := 29) dX3_closes_29 ?_
          refine qV_istore_n (pc := 30) 3 dX3_closes_30 rfl (le_b rfl) (le_b rfl) rfl ?_
          refine closes_loop hk (n - (i + k)) (i + k) _ _ (by omega) (by omega) (by omega) (by omega) (hr0.congr (fun j hj => ?_)) Fr.rf
          by_cases e2 : j < i
          · simp [e2]
          · simp [e2]
        · exfalso; omega
set_option maxRecDepth 100000 in
set_option maxHeartbeats 4000000 in
theorem mixed_loop {z : Int} (hr : Row h r N n T) (hT : ∀ j, j < n → iR (T j)) : ∀ (m i : Nat) (q : Int), n - i = m → i ≤ n → q = i → qVM l mX3_mixedInto 0 0 h sz (fun v h' sz' => v = some (vL (mix z T n)) ∧ h' = h ∧ sz' = sz) 0 0 h sz 2 [some (.ref r), some (vL (mix z T i)), none, some (vI q)] [] := by
  have hle := hr.le
  have hob := hr.obj
  intro m
  induction m with
  | zero =>
    intro i q hm hi hq
    obtain rfl : i = n := by omega
    refine qV_iload_n (pc := 2) 3 dX3_mixedInto_2 rfl rfl ?_
    refine qV_aload_n (pc := 3) 0 dX3_mixedInto_3 rfl rfl ?_
    refine qV_get (pc := 4) kX3 1 (le_b rfl) lk_X3_19 rfl dX3_mixedInto_4 (by first | assumption | exact hU_self _ _ _ | (refine (hU_ne (by omega)).trans ?_; first | assumption | exact hU_self _ _ _ | (refine (hU_ne (by omega)).trans ?_; first | assumption | exact hU_self _ _ _ | (refine (hU_ne (by omega)).trans ?_; first | assumption | exact hU_self _ _ _)))) (by exact rfl) ?_
    refine qV_icmp_ge (pc := 7) 29 dX3_mixedInto_7 (by decide) ⟨by omega, by omega⟩ ⟨by omega, by omega⟩ (fun c7 => ?_) (fun c7 => ?_)
    · refine qV_lload_n (pc := 29) 1 dX3_mixedInto_29 rfl rfl ?_
      refine qV_lret (pc := 30) dX3_mixedInto_30 rfl (le_b rfl) (le_b rfl) ?_
      exact ⟨rfl, rfl, rfl⟩
    · exfalso; omega
  | succ m ih =>
    intro i q hm hi hq
    refine qV_iload_n (pc := 2) 3 dX3_mixedInto_2 rfl rfl ?_
    refine qV_aload_n (pc := 3) 0 dX3_mixedInto_3 rfl rfl ?_
    refine qV_get (pc := 4) kX3 1 (le_b rfl) lk_X3_19 rfl dX3_mixedInto_4 (by first | assumption | exact hU_self _ _ _ | (refine (hU_ne (by omega)).trans ?_; first | assumption | exact hU_self _ _ _ | (refine (hU_ne (by omega)).trans ?_; first | assumption | exact hU_self _ _ _ | (refine (hU_ne (by omega)).trans ?_; first | assumption | exact hU_self _ _ _)))) (by exact rfl) ?_
    refine qV_icmp_ge (pc := 7) 29 dX3_mixedInto_7 (by decide) ⟨by omega, by omega⟩ ⟨by omega, by omega⟩ (fun c7 => ?_) (fun c7 => ?_)
    · exfalso; omega
    · refine qV_ldc2 (pc := 10) 31 (by decide) dX3_mixedInto_10 lk_X3_38 ?_
      refine qV_lload_n (pc := 13) 1 dX3_mixedInto_13 rfl rfl ?_
      refine qV_lmul (pc := 14) dX3_mixedInto_14 ?_
      refine qV_aload_n (pc := 15) 0 dX3_mixedInto_15 rfl rfl ?_
      refine qV_iload_n (pc := 16) 3 dX3_mixedInto_16 rfl rfl ?_
      refine qV_rdV (pc := 17) (c_gt hr hq (by omega)) nX3_get kX3 lk_X3_26 dX3_mixedInto_17 (by first | assumption | exact hU_self _ _ _ | (refine (hU_ne (by omega)).trans ?_; first | assumption | exact hU_self _ _ _ | (refine (hU_ne (by omega)).trans ?_; first | assumption | exact hU_self _ _ _ | (refine (hU_ne (by omega)).trans ?_; first | assumption | exact hU_self _ _ _)))) ⟨le_b rfl, le_b rfl⟩ ⟨le_b rfl, le_b rfl⟩ rfl (le_b rfl) ?_
      refine qV_i2l (pc := 20) dX3_mixedInto_20 (hT i (by omega)) ?_
      refine qV_ladd (pc := 21) dX3_mixedInto_21 ?_
      refine qV_lstore_n (pc := 22) 1 dX3_mixedInto_22 rfl (le_b rfl) (le_b rfl) rfl ?_
      refine qV_iinc (pc := 23) 3 dX3_mixedInto_23 rfl (le_b rfl) (le_b rfl) rfl ?_
      refine qV_goto (pc := 26) 2 dX3_mixedInto_26 (by decide) ?_
      exact ih (i + 1) _ (by omega) (by omega) (by omega)
set_option maxRecDepth 100000 in
set_option maxHeartbeats 4000000 in
theorem c_mixedInto {z : Int} (hr : Row h r N n T) (hT : ∀ j, j < n → iR (T j)) : qRd l mX3_mixedInto [.ref r, vL z] h sz (vL (mix z T n)) := by
  refine qC.of 1 (by decide) (le_b rfl) ?_
  refine qV_iconst (pc := 0) dX3_mixedInto_0 ?_
  refine qV_istore_n (pc := 1) 3 dX3_mixedInto_1 rfl (le_b rfl) (le_b rfl) rfl ?_
  exact mixed_loop hr hT n 0 _ (by omega) (by omega) rfl
set_option maxRecDepth 100000 in
set_option maxHeartbeats 4000000 in
theorem c_Row_init {q : Int} (T2 : Nat → Int) (hq : q = N) (hN : N ≤ 5000) (h1 : h r = some (oB 3 [.null, vI 0])) (hs : sz = r + 1) : qVo l mX3_init 1 N [.ref r, vI q] h sz (fun h' sz' => Row h' r N 0 T2 ∧ Fr h h' r (r + 2) ∧ sz' = r + 2) := by
  subst hs
  refine qC.of 0 (by decide) (le_b rfl) ?_
  refine qV_aload_n (pc := 0) 0 dX3_init_0 rfl rfl ?_
  refine qV_objinit (pc := 1) lk_X3_1 dX3_init_1 (le_b rfl) (le_b rfl) ?_
  refine qV_aload_n (pc := 4) 0 dX3_init_4 rfl rfl ?_
  refine qV_iload_n (pc := 5) 1 dX3_init_5 rfl rfl ?_
  refine qV_iconst (pc := 6) dX3_init_6 ?_
  refine qV_max (pc := 7) lk_X3_7 dX3_init_7 ⟨by omega, by omega⟩ ⟨by omega, by omega⟩ (le_b rfl) ⟨le_b rfl, Nat.zero_le _⟩ (le_b rfl) ?_
  rw [show max q 0 = (N : Int) by omega]
  refine qV_newi (pc := 10) (kd := 0) (at0 := .int) rfl rfl wa_int (fun s cA h => h) dX3_init_10 (by omega) (le_b rfl) (le_b rfl) (by show 0 + N ≤ N; omega) ?_
  refine qV_putF (pc := 12) kX3 0 (le_b rfl) lk_X3_13 rfl rfl rfl rfl rfl rfl dX3_init_12 (by first | assumption | exact hU_self _ _ _ | (refine (hU_ne (by omega)).trans ?_; first | assumption | exact hU_self _ _ _ | (refine (hU_ne (by omega)).trans ?_; first | assumption | exact hU_self _ _ _ | (refine (hU_ne (by omega)).trans ?_; first | assumption | exact hU_self _ _ _)))) (by exact le_b rfl) ?_
  refine qV_vret (pc := 15) dX3_init_15 rfl (le_b rfl) (by show 0 + N ≤ N; omega) ?_
  exact ⟨rfl, ⟨fun _ => 0, hU_self _ _ _, (hU_ne (by omega)).trans (hU_self _ _ _), by omega, hN, fun j hj => by omega⟩, (Fr.hU (lo := r) (hi := r + 2) (by omega) (by omega)).trans (Fr.hU (by omega) (by omega)), rfl⟩
end ROW
end
section
/-! ===== Page: chunks ===== -/
abbrev pob (p : Nat) (rd : Int) : qE := oB 2 [.ref (p + 3), .ref (p + 5), .ref (p + 1), vI rd]
section PAGEC
variable {l : Launch} {h : qH} {sz p B c : Nat} {rd : Int} {C : Nat → Int}
set_option maxRecDepth 100000 in
set_option maxHeartbeats 4000000 in
theorem coba_loop {x : Int} (ho : h p = some (pob p rd)) (hr : Row h (p + 5) B c C) (hC : ∀ j, j < c → 0 ≤ C j) (hs : csum C c ≤ 5000) (hx : iR x) (hx2 : 0 < c → x ≤ csum C c) : ∀ (m j : Nat) (q : Int), c - j = m → j ≤ c → q = j → (∀ i, i < j → csum C (i + 1) < x) → qVM l mX2_chunkOfByteAhead 0 0 h sz (fun v h' sz' => v = some (vI (ca C x c)) ∧ h' = h ∧ sz' = sz) 0 0 h sz 4 [some (.ref p), some (vI x), some (vI (csum C j)), some (vI q)] [] := by
  have hle := hr.le
  obtain ⟨hx1, hx3⟩ := hx
  intro m
  induction m with
  | zero =>
    intro j q hm hj hq hi
    obtain rfl : j = c := by omega
    refine qV_iload_n (pc := 4) 3 dX2_chunkOfByteAhead_4 rfl rfl ?_
    refine qV_aload_n (pc := 5) 0 dX2_chunkOfByteAhead_5 rfl rfl ?_
    refine qV_get (pc := 6) kX2 1 (le_b rfl) lk_X2_23 rfl dX2_chunkOfByteAhead_6 (by first | assumption | exact hU_self _ _ _ | (refine (hU_ne (by omega)).trans ?_; first | assumption | exact hU_self _ _ _ | (refine (hU_ne (by omega)).trans ?_; first | assumption | exact hU_self _ _ _ | (refine (hU_ne (by omega)).trans ?_; first | assumption | exact hU_self _ _ _)))) (by exact rfl) ?_
    refine qV_rdV (pc := 9) (c_size hr) nX3_size kX3 lk_X2_65 dX2_chunkOfByteAhead_9 hr.obj ⟨le_b rfl, le_b rfl⟩ ⟨le_b rfl, le_b rfl⟩ rfl (le_b rfl) ?_
    refine qV_icmp_ge (pc := 12) 39 dX2_chunkOfByteAhead_12 (by decide) ⟨by omega, by omega⟩ ⟨by omega, by omega⟩ (fun c12 => ?_) (fun c12 => ?_)
    · refine qV_iconst (pc := 39) dX2_chunkOfByteAhead_39 ?_
      refine qV_iret (pc := 40) dX2_chunkOfByteAhead_40 rfl (le_b rfl) (le_b rfl) ?_
      refine ⟨?_, rfl, rfl⟩
      match j, hi, hx2 with
      | 0, hi, hx2 => rfl
      | c + 1, hi, hx2 => exact absurd (hi c (by omega)) (by have := hx2 (by omega); omega)
    · exfalso; omega
  | succ m ih =>
    intro j q hm hj hq hi
    have s1 := csum_mono hC (a := j + 1) (b := c) (by omega) (Nat.le_refl c)
    have s2 := csum_nn hC (b := j) (by omega)
    have s3 := csum_nn hC (b := j + 1) (by omega)
    have s4 := csum_succ C j
    refine qV_iload_n (pc := 4) 3 dX2_chunkOfByteAhead_4 rfl rfl ?_
    refine qV_aload_n (pc := 5) 0 dX2_chunkOfByteAhead_5 rfl rfl ?_
    refine qV_get (pc := 6) kX2 1 (le_b rfl) lk_X2_23 rfl dX2_chunkOfByteAhead_6 (by first | assumption | exact hU_self _ _ _ | (refine (hU_ne (by omega)).trans ?_; first | assumption | exact hU_self _ _ _ | (refine (hU_ne (by omega)).trans ?_; first | assumption | exact hU_self _ _ _ | (refine (hU_ne (by omega)).trans ?_; first | assumption | exact hU_self _ _ _)))) (by exact rfl) ?_
    refine qV_rdV (pc := 9) (c_size hr) nX3_size kX3 lk_X2_65 dX2_chunkOfByteAhead_9 hr.obj ⟨le_b rfl, le_b rfl⟩ ⟨le_b rfl, le_b rfl⟩ rfl (le_b rfl) ?_
    refine qV_icmp_ge (pc := 12) 39 dX2_chunkOfByteAhead_12 (by decide) ⟨by omega, by omega⟩ ⟨by omega, by omega⟩ (fun c12 => ?_) (fun c12 => ?_)
    · exfalso; omega
    · refine qV_iload_n (pc := 15) 2 dX2_chunkOfByteAhead_15 rfl rfl ?_
      refine qV_aload_n (pc := 16) 0 dX2_chunkOfByteAhead_16 rfl rfl ?_
      refine qV_get (pc := 17) kX2 1 (le_b rfl) lk_X2_23 rfl dX2_chunkOfByteAhead_17 (by first | assumption | exact hU_self _ _ _ | (refine (hU_ne (by omega)).trans ?_; first | assumption | exact hU_self _ _ _ | (refine (hU_ne (by omega)).trans ?_; first | assumption | exact hU_self _ _ _ | (refine (hU_ne (by omega)).trans ?_; first | assumption | exact hU_self _ _ _)))) (by exact rfl) ?_
      refine qV_iload_n (pc := 20) 3 dX2_chunkOfByteAhead_20 rfl rfl ?_
      refine qV_rdV (pc := 21) (c_gt hr hq (by omega)) nX3_get kX3 lk_X2_54 dX2_chunkOfByteAhead_21 hr.obj ⟨le_b rfl, le_b rfl⟩ ⟨le_b rfl, le_b rfl⟩ rfl (le_b rfl) ?_
      refine qV_iadd (pc := 24) dX2_chunkOfByteAhead_24 ?_
      refine qV_istore_n (pc := 25) 2 dX2_chunkOfByteAhead_25 rfl (le_b rfl) (le_b rfl) rfl ?_
      refine qV_iload_n (pc := 26) 1 dX2_chunkOfByteAhead_26 rfl rfl ?_
      refine qV_iload_n (pc := 27) 2 dX2_chunkOfByteAhead_27 rfl rfl ?_
      refine qV_icmp_gt (pc := 28) 33 dX2_chunkOfByteAhead_28 (by decide) ⟨by omega, by omega⟩ ⟨by omega, by omega⟩ (fun c28 => ?_) (fun c28 => ?_)
      · refine qV_iinc (pc := 33) 3 dX2_chunkOfByteAhead_33 rfl (le_b rfl) (le_b rfl) rfl ?_
        refine qV_goto (pc := 36) 4 dX2_chunkOfByteAhead_36 (by decide) ?_
        refine ih (j + 1) _ (by omega) (by omega) (by omega) (fun i hi2 => ?_)
        by_cases e : i = j
        · subst e; omega
        · exact hi i (by omega)
      · refine qV_iload_n (pc := 31) 3 dX2_chunkOfByteAhead_31 rfl rfl ?_
        refine qV_iret (pc := 32) dX2_chunkOfByteAhead_32 rfl (le_b rfl) (le_b rfl) ?_
        refine ⟨?_, rfl, rfl⟩
        rw [hq, ca_of hC ⟨by omega, by omega, hi⟩]
set_option maxRecDepth 100000 in
set_option maxHeartbeats 4000000 in
theorem c_coba {x : Int} (ho : h p = some (pob p rd)) (hr : Row h (p + 5) B c C) (hC : ∀ j, j < c → 0 ≤ C j) (hs : csum C c ≤ 5000) (hx : iR x) (hx2 : 0 < c → x ≤ csum C c) : qRd l mX2_chunkOfByteAhead [.ref p, vI x] h sz (vI (ca C x c)) := by
  refine qC.of 2 (by decide) (le_b rfl) ?_
  refine qV_iconst (pc := 0) dX2_chunkOfByteAhead_0 ?_
  refine qV_istore_n (pc := 1) 2 dX2_chunkOfByteAhead_1 rfl (le_b rfl) (le_b rfl) rfl ?_
  refine qV_iconst (pc := 2) dX2_chunkOfByteAhead_2 ?_
  refine qV_istore_n (pc := 3) 3 dX2_chunkOfByteAhead_3 rfl (le_b rfl) (le_b rfl) rfl ?_
  exact coba_loop ho hr hC hs hx hx2 c 0 _ (by omega) (by omega) rfl (fun i hi => by omega)
set_option maxRecDepth 100000 in
set_option maxHeartbeats 4000000 in
theorem shrink_loop {x k : Int} (hx : 0 ≤ x ∧ x ≤ 5000) (hk : 0 ≤ k ∧ k ≤ 5000) (hC : ∀ j, j < c → 0 ≤ C j) (hs : csum C c ≤ 5000) : ∀ (m j : Nat) (q w : Int) (h1 : qH) (R : Nat → Int) (x6 x7 x8 : Option Value), c - j = m → j ≤ c → q = j → w = shN (stay C x k) j → h1 p = some (pob p rd) → Row h1 (p + 5) B c R → (∀ i, i < shN (stay C x k) j → R i = shF (stay C x k) j i) → (∀ i, j ≤ i → i < c → R i = C i) → Fr h h1 (p + 5) (p + 7) → qVM l mX2_shrinksChunks 0 0 h sz (fun v h' sz' => v = none ∧ Row h' (p + 5) B (shN (stay C x k) c) (shF (stay C x k) c) ∧ Fr h h' (p + 5) (p + 7) ∧ sz' = sz) 0 0 h1 sz 8 [some (.ref p), some (vI x), some (vI k), some (vI (csum C j)), some (vI w), some (vI q), x6, x7, x8] [] := by
  intro m
  induction m with
  | zero =>
    intro j q w h1 R x6 x7 x8 hm hj hq hw ho hr r1 r2 hf
    obtain rfl : j = c := by omega
    have hle := hr.le
    have hsl := shN_le (stay C x k) j
    refine qV_iload (pc := 8) 5 dX2_shrinksChunks_8 rfl ?_
    refine qV_aload_n (pc := 10) 0 dX2_shrinksChunks_10 rfl rfl ?_
    refine qV_get (pc := 11) kX2 1 (le_b rfl) lk_X2_23 rfl dX2_shrinksChunks_11 (by first | assumption | exact hU_self _ _ _ | (refine (hU_ne (by omega)).trans ?_; first | assumption | exact hU_self _ _ _ | (refine (hU_ne (by omega)).trans ?_; first | assumption | exact hU_self _ _ _ | (refine (hU_ne (by omega)).trans ?_; first | assumption | exact hU_self _ _ _)))) (by exact rfl) ?_
    refine qV_rdV (pc := 14) (c_size hr) nX3_size kX3 lk_X2_65 dX2_shrinksChunks_14 hr.obj ⟨le_b rfl, le_b rfl⟩ ⟨le_b rfl, le_b rfl⟩ rfl (le_b rfl) ?_
    refine qV_icmp_ge (pc := 17) 90 dX2_shrinksChunks_17 (by decide) ⟨by omega, by omega⟩ ⟨by omega, by omega⟩ (fun c17 => ?_) (fun c17 => ?_)
    · refine qV_aload_n (pc := 90) 0 dX2_shrinksChunks_90 rfl rfl ?_
      refine qV_get (pc := 91) kX2 1 (le_b rfl) lk_X2_23 rfl dX2_shrinksChunks_91 (by first | assumption | exact hU_self _ _ _ | (refine (hU_ne (by omega)).trans ?_; first | assumption | exact hU_self _ _ _ | (refine (hU_ne (by omega)).trans ?_; first | assumption | exact hU_self _ _ _ | (refine (hU_ne (by omega)).trans ?_; first | assumption | exact hU_self _ _ _)))) (by exact rfl) ?_
      refine qV_iload (pc := 94) 4 dX2_shrinksChunks_94 rfl ?_
      refine qV_voV (pc := 96) (c_shortensTo hr hw hsl) nX3_shortensTo kX3 lk_X2_87 dX2_shrinksChunks_96 hr.obj ⟨le_b rfl, le_b rfl⟩ ⟨le_b rfl, le_b rfl⟩ rfl (le_b rfl) ?_
      rintro h2 _ ⟨hr2, hf2, rfl⟩
      refine qV_vret (pc := 99) dX2_shrinksChunks_99 rfl (le_b rfl) (le_b rfl) ?_
      exact ⟨rfl, hr2.congr r1, hf.trans hf2, rfl⟩
    · exfalso; omega
  | succ m ih =>
    intro j q w h1 R x6 x7 x8 hm hj hq hw ho hr r1 r2 hf
    have hle := hr.le
    have hsl := shN_le (stay C x k) j
    have s1 := csum_mono hC (a := j + 1) (b := c) (by omega) (Nat.le_refl c)
    have s2 := csum_nn hC (b := j) (by omega)
    have s4 := csum_succ C j
    have s5 := hC j (by omega)
    have s6 : R j = C j := r2 j (Nat.le_refl j) (by omega)
    have s7 := stay_in (p := x) (k := k) s5
    have e0 : C j - max (min (csum C j + C j) (x + k) - max (csum C j) x) 0 = stay C x k j := rfl
    refine qV_iload (pc := 8) 5 dX2_shrinksChunks_8 rfl ?_
    refine qV_aload_n (pc := 10) 0 dX2_shrinksChunks_10 rfl rfl ?_
    refine qV_get (pc := 11) kX2 1 (le_b rfl) lk_X2_23 rfl dX2_shrinksChunks_11 (by first | assumption | exact hU_self _ _ _ | (refine (hU_ne (by omega)).trans ?_; first | assumption | exact hU_self _ _ _ | (refine (hU_ne (by omega)).trans ?_; first | assumption | exact hU_self _ _ _ | (refine (hU_ne (by omega)).trans ?_; first | assumption | exact hU_self _ _ _)))) (by exact rfl) ?_
    refine qV_rdV (pc := 14) (c_size hr) nX3_size kX3 lk_X2_65 dX2_shrinksChunks_14 hr.obj ⟨le_b rfl, le_b rfl⟩ ⟨le_b rfl, le_b rfl⟩ rfl (le_b rfl) ?_
    refine qV_icmp_ge (pc := 17) 90 dX2_shrinksChunks_17 (by decide) ⟨by omega, by omega⟩ ⟨by omega, by omega⟩ (fun c17 => ?_) (fun c17 => ?_)
    · exfalso; omega
    · refine qV_aload_n (pc := 20) 0 dX2_shrinksChunks_20 rfl rfl ?_
      refine qV_get (pc := 21) kX2 1 (le_b rfl) lk_X2_23 rfl dX2_shrinksChunks_21 (by first | assumption | exact hU_self _ _ _ | (refine (hU_ne (by omega)).trans ?_; first | assumption | exact hU_self _ _ _ | (refine (hU_ne (by omega)).trans ?_; first | assumption | exact hU_self _ _ _ | (refine (hU_ne (by omega)).trans ?_; first | assumption | exact hU_self _ _ _)))) (by exact rfl) ?_
      refine qV_iload (pc := 24) 5 dX2_shrinksChunks_24 rfl ?_
      refine qV_rdV (pc := 26) (c_gt hr hq (by omega)) nX3_get kX3 lk_X2_54 dX2_shrinksChunks_26 hr.obj ⟨le_b rfl, le_b rfl⟩ ⟨le_b rfl, le_b rfl⟩ rfl (le_b rfl) ?_
      rw [s6]
      refine qV_istore (pc := 29) 6 dX2_shrinksChunks_29 (le_b rfl) (le_b rfl) rfl ?_
      refine qV_iload_n (pc := 31) 3 dX2_shrinksChunks_31 rfl rfl ?_
      refine qV_iload (pc := 32) 6 dX2_shrinksChunks_32 rfl ?_
      refine qV_iadd (pc := 34) dX2_shrinksChunks_34 ?_
      refine qV_iload_n (pc := 35) 1 dX2_shrinksChunks_35 rfl rfl ?_
      refine qV_iload_n (pc := 36) 2 dX2_shrinksChunks_36 rfl rfl ?_
      refine qV_iadd (pc := 37) dX2_shrinksChunks_37 ?_
      refine qV_min (pc := 38) lk_X2_84 dX2_shrinksChunks_38 ⟨by omega, by omega⟩ ⟨by omega, by omega⟩ (le_b rfl) ⟨le_b rfl, le_b rfl⟩ (le_b rfl) ?_
      refine qV_iload_n (pc := 41) 3 dX2_shrinksChunks_41 rfl rfl ?_
      refine qV_iload_n (pc := 42) 1 dX2_shrinksChunks_42 rfl rfl ?_
      refine qV_max (pc := 43) lk_X2_78 dX2_shrinksChunks_43 ⟨by omega, by omega⟩ ⟨by omega, by omega⟩ (le_b rfl) ⟨le_b rfl, le_b rfl⟩ (le_b rfl) ?_
      refine qV_isub (pc := 46) dX2_shrinksChunks_46 ?_
      refine qV_istore (pc := 47) 7 dX2_shrinksChunks_47 (le_b rfl) (le_b rfl) rfl ?_
      refine qV_iload (pc := 49) 6 dX2_shrinksChunks_49 rfl ?_
      refine qV_iload (pc := 51) 7 dX2_shrinksChunks_51 rfl ?_
      refine qV_iconst (pc := 53) dX2_shrinksChunks_53 ?_
      refine qV_max (pc := 54) lk_X2_78 dX2_shrinksChunks_54 ⟨by omega, by omega⟩ ⟨by omega, by omega⟩ (le_b rfl) ⟨le_b rfl, le_b rfl⟩ (le_b rfl) ?_
      refine qV_isub (pc := 57) dX2_shrinksChunks_57 ?_
      rw [e0]
      refine qV_istore (pc := 58) 8 dX2_shrinksChunks_58 (le_b rfl) (le_b rfl) rfl ?_
      refine qV_iload (pc := 60) 8 dX2_shrinksChunks_60 rfl ?_
      refine qV_ifle (pc := 62) 79 dX2_shrinksChunks_62 (by decide) ⟨by omega, by omega⟩ (fun c62 => ?_) (fun c62 => ?_)
      · refine qV_iload_n (pc := 79) 3 dX2_shrinksChunks_79 rfl rfl ?_
        refine qV_iload (pc := 80) 6 dX2_shrinksChunks_80 rfl ?_
        refine qV_iadd (pc := 82) dX2_shrinksChunks_82 ?_
        refine qV_istore_n (pc := 83) 3 dX2_shrinksChunks_83 rfl (le_b rfl) (le_b rfl) rfl ?_
        refine qV_iinc (pc := 84) 5 dX2_shrinksChunks_84 rfl (le_b rfl) (le_b rfl) rfl ?_
        refine qV_goto (pc := 87) 8 dX2_shrinksChunks_87 (by decide) ?_
        first
        | (refine ih (j + 1) _ _ h2 _ _ _ _ (by omega) (by omega) (by omega) (by simp only [shN]; rw [if_pos (by omega)]; omega) ho2 hr2 (fun i hi => ?_) (fun i hi hic => ?_) (hf.trans hf2)
           · simp only [shN] at hi
             rw [if_pos (by omega)] at hi
             simp only [shF]
             rw [if_pos (by omega)]
             by_cases e : i = shN (stay C x k) j
             · subst e; rw [va_up_self, va_up_self]
             · rw [va_up_ne _ _ e, va_up_ne _ _ e]; exact r1 i (by omega)
           · rw [va_up_ne _ _ (by omega)]
             exact r2 i (by omega) hic)
        | (refine ih (j + 1) _ _ h1 _ _ _ _ (by omega) (by omega) (by omega) (by simp only [shN]; rw [if_neg (by omega)]; omega) ho hr (fun i hi => ?_) (fun i hi hic => r2 i (by omega) hic) hf
           simp only [shN] at hi
           rw [if_neg (by omega)] at hi
           simp only [shF]
           rw [if_neg (by omega)]
           exact r1 i hi)
      · refine qV_aload_n (pc := 65) 0 dX2_shrinksChunks_65 rfl rfl ?_
        refine qV_get (pc := 66) kX2 1 (le_b rfl) lk_X2_23 rfl dX2_shrinksChunks_66 (by first | assumption | exact hU_self _ _ _ | (refine (hU_ne (by omega)).trans ?_; first | assumption | exact hU_self _ _ _ | (refine (hU_ne (by omega)).trans ?_; first | assumption | exact hU_self _ _ _ | (refine (hU_ne (by omega)).trans ?_; first | assumption | exact hU_self _ _ _)))) (by exact rfl) ?_
        refine qV_iload (pc := 69) 4 dX2_shrinksChunks_69 rfl ?_
        refine qV_iload (pc := 71) 8 dX2_shrinksChunks_71 rfl ?_
        refine qV_voV (pc := 73) (c_set hr hw (by omega)) nX3_set kX3 lk_X2_62 dX2_shrinksChunks_73 hr.obj ⟨le_b rfl, le_b rfl⟩ ⟨le_b rfl, le_b rfl⟩ rfl (le_b rfl) ?_
        rintro h2 _ ⟨hr2, hf2, rfl⟩
        have ho2 : h2 p = some (pob p rd) := (hf2 p (by omega)).trans ho
        refine qV_iinc (pc := 76) 4 dX2_shrinksChunks_76 rfl (le_b rfl) (le_b rfl) rfl ?_
        refine qV_iload_n (pc := 79) 3 dX2_shrinksChunks_79 rfl rfl ?_
        refine qV_iload (pc := 80) 6 dX2_shrinksChunks_80 rfl ?_
        refine qV_iadd (pc := 82) dX2_shrinksChunks_82 ?_
        refine qV_istore_n (pc := 83) 3 dX2_shrinksChunks_83 rfl (le_b rfl) (le_b rfl) rfl ?_
        refine qV_iinc (pc := 84) 5 dX2_shrinksChunks_84 rfl (le_b rfl) (le_b rfl) rfl ?_
        refine qV_goto (pc := 87) 8 dX2_shrinksChunks_87 (by decide) ?_
        first
        | (refine ih (j + 1) _ _ h2 _ _ _ _ (by omega) (by omega) (by omega) (by simp only [shN]; rw [if_pos (by omega)]; omega) ho2 hr2 (fun i hi => ?_) (fun i hi hic => ?_) (hf.trans hf2)
           · simp only [shN] at hi
             rw [if_pos (by omega)] at hi
             simp only [shF]
             rw [if_pos (by omega)]
             by_cases e : i = shN (stay C x k) j
             · subst e; rw [va_up_self, va_up_self]
             · rw [va_up_ne _ _ e, va_up_ne _ _ e]; exact r1 i (by omega)
           · rw [va_up_ne _ _ (by omega)]
             exact r2 i (by omega) hic)
        | (refine ih (j + 1) _ _ h1 _ _ _ _ (by omega) (by omega) (by omega) (by simp only [shN]; rw [if_neg (by omega)]; omega) ho hr (fun i hi => ?_) (fun i hi hic => r2 i (by omega) hic) hf
           simp only [shN] at hi
           rw [if_neg (by omega)] at hi
           simp only [shF]
           rw [if_neg (by omega)]
           exact r1 i hi)
set_option maxRecDepth 100000 in
set_option maxHeartbeats 4000000 in
theorem c_shrink {x k : Int} (ho : h p = some (pob p rd)) (hr : Row h (p + 5) B c C) (hx : 0 ≤ x ∧ x ≤ 5000) (hk : 0 ≤ k ∧ k ≤ 5000) (hC : ∀ j, j < c → 0 ≤ C j) (hs : csum C c ≤ 5000) : qVo l mX2_shrinksChunks 0 0 [.ref p, vI x, vI k] h sz (fun h' sz' => Row h' (p + 5) B (shN (stay C x k) c) (shF (stay C x k) c) ∧ Fr h h' (p + 5) (p + 7) ∧ sz' = sz) := by
  refine qC.of 6 (by decide) (le_b rfl) ?_
  refine qV_iconst (pc := 0) dX2_shrinksChunks_0 ?_
  refine qV_istore_n (pc := 1) 3 dX2_shrinksChunks_1 rfl (le_b rfl) (le_b rfl) rfl ?_
  refine qV_iconst (pc := 2) dX2_shrinksChunks_2 ?_
  refine qV_istore (pc := 3) 4 dX2_shrinksChunks_3 (le_b rfl) (le_b rfl) rfl ?_
  refine qV_iconst (pc := 5) dX2_shrinksChunks_5 ?_
  refine qV_istore (pc := 6) 5 dX2_shrinksChunks_6 (le_b rfl) (le_b rfl) rfl ?_
  exact shrink_loop hx hk hC hs c 0 _ _ h C _ _ _ (by omega) (by omega) rfl rfl ho hr (fun i hi => by simp [shN] at hi) (fun _ _ _ => rfl) Fr.rf
set_option maxRecDepth 100000 in
set_option maxHeartbeats 4000000 in
theorem c_join {x : Int} (ho : h p = some (pob p rd)) (hr : Row h (p + 5) B c C) (hC : ∀ j, j < c → 0 ≤ C j) (hs : csum C c ≤ 5000) (hx : 0 ≤ x ∧ x ≤ 5000) (hx2 : 0 < c → x ≤ csum C c) : qVo l mX2_joinsChunks 0 0 [.ref p, vI x] h sz (fun h' sz' => Row h' (p + 5) B (jnN C c (ca C x c)) (jnF C c (ca C x c)) ∧ Fr h h' (p + 5) (p + 7) ∧ sz' = sz) := by
  have hle := hr.le
  have hle8 : ∀ j, j < c → C j ≤ 5000 := fun j hj => by
    have := csum_mono hC (a := j + 1) (b := c) (by omega) (Nat.le_refl c)
    have := csum_nn hC (b := j) (by omega)
    have := csum_succ C j
    omega
  by_cases h0 : c = 0
  · subst h0
    have hca : ca C x 0 = 0 := rfl
    have hjn : jnN C 0 0 = 0 := rfl
    have hjf : jnF C 0 0 = C := rfl
    rw [hca, hjn, hjf]
    refine qC.of 2 (by decide) (le_b rfl) ?_
    refine qV_aload_n (pc := 0) 0 dX2_joinsChunks_0 rfl rfl ?_
    refine qV_iload_n (pc := 1) 1 dX2_joinsChunks_1 rfl rfl ?_
    refine qV_rdV (pc := 2) (c_coba ho hr hC hs ⟨by omega, by omega⟩ hx2) nX2_chunkOfByteAhead kX2 lk_X2_90 dX2_joinsChunks_2 (by first | assumption | exact hU_self _ _ _ | (refine (hU_ne (by omega)).trans ?_; first | assumption | exact hU_self _ _ _ | (refine (hU_ne (by omega)).trans ?_; first | assumption | exact hU_self _ _ _ | (refine (hU_ne (by omega)).trans ?_; first | assumption | exact hU_self _ _ _)))) ⟨le_b rfl, le_b rfl⟩ ⟨le_b rfl, le_b rfl⟩ rfl (le_b rfl) ?_
    rw [hca]
    refine qV_istore_n (pc := 5) 2 dX2_joinsChunks_5 rfl (le_b rfl) (le_b rfl) rfl ?_
    refine qV_aload_n (pc := 6) 0 dX2_joinsChunks_6 rfl rfl ?_
    refine qV_get (pc := 7) kX2 1 (le_b rfl) lk_X2_23 rfl dX2_joinsChunks_7 (by first | assumption | exact hU_self _ _ _ | (refine (hU_ne (by omega)).trans ?_; first | assumption | exact hU_self _ _ _ | (refine (hU_ne (by omega)).trans ?_; first | assumption | exact hU_self _ _ _ | (refine (hU_ne (by omega)).trans ?_; first | assumption | exact hU_self _ _ _)))) (by exact rfl) ?_
    refine qV_iload_n (pc := 10) 2 dX2_joinsChunks_10 rfl rfl ?_
    refine qV_rdV (pc := 11) (c_gt0 hr (Or.inr (by omega)) ⟨by omega, by omega⟩) nX3_get kX3 lk_X2_54 dX2_joinsChunks_11 hr.obj ⟨le_b rfl, le_b rfl⟩ ⟨le_b rfl, le_b rfl⟩ rfl (le_b rfl) ?_
    refine qV_aload_n (pc := 14) 0 dX2_joinsChunks_14 rfl rfl ?_
    refine qV_get (pc := 15) kX2 1 (le_b rfl) lk_X2_23 rfl dX2_joinsChunks_15 (by first | assumption | exact hU_self _ _ _ | (refine (hU_ne (by omega)).trans ?_; first | assumption | exact hU_self _ _ _ | (refine (hU_ne (by omega)).trans ?_; first | assumption | exact hU_self _ _ _ | (refine (hU_ne (by omega)).trans ?_; first | assumption | exact hU_self _ _ _)))) (by exact rfl) ?_
    refine qV_iload_n (pc := 18) 2 dX2_joinsChunks_18 rfl rfl ?_
    refine qV_iconst (pc := 19) dX2_joinsChunks_19 ?_
    refine qV_iadd (pc := 20) dX2_joinsChunks_20 ?_
    refine qV_rdV (pc := 21) (c_gt0 hr (Or.inr (by omega)) ⟨by omega, by omega⟩) nX3_get kX3 lk_X2_54 dX2_joinsChunks_21 hr.obj ⟨le_b rfl, le_b rfl⟩ ⟨le_b rfl, le_b rfl⟩ rfl (le_b rfl) ?_
    refine qV_iadd (pc := 24) dX2_joinsChunks_24 ?_
    refine qV_istore_n (pc := 25) 3 dX2_joinsChunks_25 rfl (le_b rfl) (le_b rfl) rfl ?_
    refine qV_iload_n (pc := 26) 2 dX2_joinsChunks_26 rfl rfl ?_
    refine qV_iconst (pc := 27) dX2_joinsChunks_27 ?_
    refine qV_iadd (pc := 28) dX2_joinsChunks_28 ?_
    refine qV_aload_n (pc := 29) 0 dX2_joinsChunks_29 rfl rfl ?_
    refine qV_get (pc := 30) kX2 1 (le_b rfl) lk_X2_23 rfl dX2_joinsChunks_30 (by first | assumption | exact hU_self _ _ _ | (refine (hU_ne (by omega)).trans ?_; first | assumption | exact hU_self _ _ _ | (refine (hU_ne (by omega)).trans ?_; first | assumption | exact hU_self _ _ _ | (refine (hU_ne (by omega)).trans ?_; first | assumption | exact hU_self _ _ _)))) (by exact rfl) ?_
    refine qV_rdV (pc := 33) (c_size hr) nX3_size kX3 lk_X2_65 dX2_joinsChunks_33 hr.obj ⟨le_b rfl, le_b rfl⟩ ⟨le_b rfl, le_b rfl⟩ rfl (le_b rfl) ?_
    refine qV_icmp_ge (pc := 36) 65 dX2_joinsChunks_36 (by decide) ⟨by omega, by omega⟩ ⟨by omega, by omega⟩ (fun c36 => ?_) (fun c36 => ?_)
    · refine qV_vret (pc := 65) dX2_joinsChunks_65 rfl (le_b rfl) (le_b rfl) ?_
      exact ⟨rfl, hr, Fr.rf, rfl⟩
    · exfalso; omega
  · have hk := ca_ex hC (by omega) (hx2 (by omega))
    generalize hkk : ca C x c = k at hk ⊢
    have hk1 := hk.1
    have b1 := hC k hk1
    have b2 := hle8 k hk1
    by_cases h1 : k + 1 < c
    · have b3 := hC (k + 1) h1
      have b4 := hle8 (k + 1) h1
      by_cases h8 : C k + C (k + 1) ≤ 8
      · have hjn : jnN C c k = c - 1 := by simp only [jnN]; rw [if_pos ⟨h1, h8⟩]
        have hjf : jnF C c k = (fun j => if j < k then C j else if j = k then C k + C (k + 1) else C (j + 1)) := by simp only [jnF]; rw [if_pos ⟨h1, h8⟩]
        rw [hjn, hjf]
        refine qC.of 2 (by decide) (le_b rfl) ?_
        refine qV_aload_n (pc := 0) 0 dX2_joinsChunks_0 rfl rfl ?_
        refine qV_iload_n (pc := 1) 1 dX2_joinsChunks_1 rfl rfl ?_
        refine qV_rdV (pc := 2) (c_coba ho hr hC hs ⟨by omega, by omega⟩ hx2) nX2_chunkOfByteAhead kX2 lk_X2_90 dX2_joinsChunks_2 (by first | assumption | exact hU_self _ _ _ | (refine (hU_ne (by omega)).trans ?_; first | assumption | exact hU_self _ _ _ | (refine (hU_ne (by omega)).trans ?_; first | assumption | exact hU_self _ _ _ | (refine (hU_ne (by omega)).trans ?_; first | assumption | exact hU_self _ _ _)))) ⟨le_b rfl, le_b rfl⟩ ⟨le_b rfl, le_b rfl⟩ rfl (le_b rfl) ?_
        rw [hkk]
        refine qV_istore_n (pc := 5) 2 dX2_joinsChunks_5 rfl (le_b rfl) (le_b rfl) rfl ?_
        refine qV_aload_n (pc := 6) 0 dX2_joinsChunks_6 rfl rfl ?_
        refine qV_get (pc := 7) kX2 1 (le_b rfl) lk_X2_23 rfl dX2_joinsChunks_7 (by first | assumption | exact hU_self _ _ _ | (refine (hU_ne (by omega)).trans ?_; first | assumption | exact hU_self _ _ _ | (refine (hU_ne (by omega)).trans ?_; first | assumption | exact hU_self _ _ _ | (refine (hU_ne (by omega)).trans ?_; first | assumption | exact hU_self _ _ _)))) (by exact rfl) ?_
        refine qV_iload_n (pc := 10) 2 dX2_joinsChunks_10 rfl rfl ?_
        refine qV_rdV (pc := 11) (c_gt hr rfl hk1) nX3_get kX3 lk_X2_54 dX2_joinsChunks_11 hr.obj ⟨le_b rfl, le_b rfl⟩ ⟨le_b rfl, le_b rfl⟩ rfl (le_b rfl) ?_
        refine qV_aload_n (pc := 14) 0 dX2_joinsChunks_14 rfl rfl ?_
        refine qV_get (pc := 15) kX2 1 (le_b rfl) lk_X2_23 rfl dX2_joinsChunks_15 (by first | assumption | exact hU_self _ _ _ | (refine (hU_ne (by omega)).trans ?_; first | assumption | exact hU_self _ _ _ | (refine (hU_ne (by omega)).trans ?_; first | assumption | exact hU_self _ _ _ | (refine (hU_ne (by omega)).trans ?_; first | assumption | exact hU_self _ _ _)))) (by exact rfl) ?_
        refine qV_iload_n (pc := 18) 2 dX2_joinsChunks_18 rfl rfl ?_
        refine qV_iconst (pc := 19) dX2_joinsChunks_19 ?_
        refine qV_iadd (pc := 20) dX2_joinsChunks_20 ?_
        refine qV_rdV (pc := 21) (c_gt hr (i := k + 1) (by omega) h1) nX3_get kX3 lk_X2_54 dX2_joinsChunks_21 hr.obj ⟨le_b rfl, le_b rfl⟩ ⟨le_b rfl, le_b rfl⟩ rfl (le_b rfl) ?_
        refine qV_iadd (pc := 24) dX2_joinsChunks_24 ?_
        refine qV_istore_n (pc := 25) 3 dX2_joinsChunks_25 rfl (le_b rfl) (le_b rfl) rfl ?_
        refine qV_iload_n (pc := 26) 2 dX2_joinsChunks_26 rfl rfl ?_
        refine qV_iconst (pc := 27) dX2_joinsChunks_27 ?_
        refine qV_iadd (pc := 28) dX2_joinsChunks_28 ?_
        refine qV_aload_n (pc := 29) 0 dX2_joinsChunks_29 rfl rfl ?_
        refine qV_get (pc := 30) kX2 1 (le_b rfl) lk_X2_23 rfl dX2_joinsChunks_30 (by first | assumption | exact hU_self _ _ _ | (refine (hU_ne (by omega)).trans ?_; first | assumption | exact hU_self _ _ _ | (refine (hU_ne (by omega)).trans ?_; first | assumption | exact hU_self _ _ _ | (refine (hU_ne (by omega)).trans ?_; first | assumption | exact hU_self _ _ _)))) (by exact rfl) ?_
        refine qV_rdV (pc := 33) (c_size hr) nX3_size kX3 lk_X2_65 dX2_joinsChunks_33 hr.obj ⟨le_b rfl, le_b rfl⟩ ⟨le_b rfl, le_b rfl⟩ rfl (le_b rfl) ?_
        refine qV_icmp_ge (pc := 36) 65 dX2_joinsChunks_36 (by decide) ⟨by omega, by omega⟩ ⟨by omega, by omega⟩ (fun c36 => ?_) (fun c36 => ?_)
        · exfalso; omega
        · refine qV_iload_n (pc := 39) 3 dX2_joinsChunks_39 rfl rfl ?_
          refine qV_bipush (pc := 40) dX2_joinsChunks_40 rfl ?_
          refine qV_icmp_gt (pc := 42) 65 dX2_joinsChunks_42 (by decide) ⟨by omega, by omega⟩ ⟨by omega, by omega⟩ (fun c42 => ?_) (fun c42 => ?_)
          · exfalso; omega
          · refine qV_aload_n (pc := 45) 0 dX2_joinsChunks_45 rfl rfl ?_
            refine qV_get (pc := 46) kX2 1 (le_b rfl) lk_X2_23 rfl dX2_joinsChunks_46 (by first | assumption | exact hU_self _ _ _ | (refine (hU_ne (by omega)).trans ?_; first | assumption | exact hU_self _ _ _ | (refine (hU_ne (by omega)).trans ?_; first | assumption | exact hU_self _ _ _ | (refine (hU_ne (by omega)).trans ?_; first | assumption | exact hU_self _ _ _)))) (by exact rfl) ?_
            refine qV_iload_n (pc := 49) 2 dX2_joinsChunks_49 rfl rfl ?_
            refine qV_iload_n (pc := 50) 3 dX2_joinsChunks_50 rfl rfl ?_
            refine qV_voV (pc := 51) (c_set hr rfl hk1) nX3_set kX3 lk_X2_62 dX2_joinsChunks_51 hr.obj ⟨le_b rfl, le_b rfl⟩ ⟨le_b rfl, le_b rfl⟩ rfl (le_b rfl) ?_
            rintro h2 _ ⟨hr2, hf2, rfl⟩
            have ho2 : h2 p = some (pob p rd) := (hf2 p (by omega)).trans ho
            refine qV_aload_n (pc := 54) 0 dX2_joinsChunks_54 rfl rfl ?_
            refine qV_get (pc := 55) kX2 1 (le_b rfl) lk_X2_23 rfl dX2_joinsChunks_55 (by first | assumption | exact hU_self _ _ _ | (refine (hU_ne (by omega)).trans ?_; first | assumption | exact hU_self _ _ _ | (refine (hU_ne (by omega)).trans ?_; first | assumption | exact hU_self _ _ _ | (refine (hU_ne (by omega)).trans ?_; first | assumption | exact hU_self _ _ _)))) (by exact rfl) ?_
            refine qV_iload_n (pc := 58) 2 dX2_joinsChunks_58 rfl rfl ?_
            refine qV_iconst (pc := 59) dX2_joinsChunks_59 ?_
            refine qV_iadd (pc := 60) dX2_joinsChunks_60 ?_
            refine qV_iconst (pc := 61) dX2_joinsChunks_61 ?_
            refine qV_voV (pc := 62) (c_closes (i := k + 1) (k := 1) hr2 (by omega) (by omega) (by omega)) nX3_closes kX3 lk_X2_45 dX2_joinsChunks_62 hr2.obj ⟨le_b rfl, le_b rfl⟩ ⟨le_b rfl, le_b rfl⟩ rfl (le_b rfl) ?_
            rintro h3 _ ⟨hr3, hf3, rfl⟩
            refine qV_vret (pc := 65) dX2_joinsChunks_65 rfl (le_b rfl) (le_b rfl) ?_
            refine ⟨rfl, hr3.congr (fun j hj => ?_), hf2.trans hf3, rfl⟩
            by_cases e1 : j < k
            · rw [if_pos (by omega), if_pos e1, va_up_ne _ _ (by omega)]
            · rw [if_neg e1]
              by_cases e2 : j = k
              · subst e2; rw [if_pos (by omega), if_pos rfl, va_up_self]
              · rw [if_neg (by omega), if_neg e2, va_up_ne _ _ (by omega)]
      · have hjn : jnN C c k = c := by simp only [jnN]; rw [if_neg (fun q => h8 q.2)]
        have hjf : jnF C c k = C := by simp only [jnF]; rw [if_neg (fun q => h8 q.2)]
        rw [hjn, hjf]
        refine qC.of 2 (by decide) (le_b rfl) ?_
        refine qV_aload_n (pc := 0) 0 dX2_joinsChunks_0 rfl rfl ?_
        refine qV_iload_n (pc := 1) 1 dX2_joinsChunks_1 rfl rfl ?_
        refine qV_rdV (pc := 2) (c_coba ho hr hC hs ⟨by omega, by omega⟩ hx2) nX2_chunkOfByteAhead kX2 lk_X2_90 dX2_joinsChunks_2 (by first | assumption | exact hU_self _ _ _ | (refine (hU_ne (by omega)).trans ?_; first | assumption | exact hU_self _ _ _ | (refine (hU_ne (by omega)).trans ?_; first | assumption | exact hU_self _ _ _ | (refine (hU_ne (by omega)).trans ?_; first | assumption | exact hU_self _ _ _)))) ⟨le_b rfl, le_b rfl⟩ ⟨le_b rfl, le_b rfl⟩ rfl (le_b rfl) ?_
        rw [hkk]
        refine qV_istore_n (pc := 5) 2 dX2_joinsChunks_5 rfl (le_b rfl) (le_b rfl) rfl ?_
        refine qV_aload_n (pc := 6) 0 dX2_joinsChunks_6 rfl rfl ?_
        refine qV_get (pc := 7) kX2 1 (le_b rfl) lk_X2_23 rfl dX2_joinsChunks_7 (by first | assumption | exact hU_self _ _ _ | (refine (hU_ne (by omega)).trans ?_; first | assumption | exact hU_self _ _ _ | (refine (hU_ne (by omega)).trans ?_; first | assumption | exact hU_self _ _ _ | (refine (hU_ne (by omega)).trans ?_; first | assumption | exact hU_self _ _ _)))) (by exact rfl) ?_
        refine qV_iload_n (pc := 10) 2 dX2_joinsChunks_10 rfl rfl ?_
        refine qV_rdV (pc := 11) (c_gt hr rfl hk1) nX3_get kX3 lk_X2_54 dX2_joinsChunks_11 hr.obj ⟨le_b rfl, le_b rfl⟩ ⟨le_b rfl, le_b rfl⟩ rfl (le_b rfl) ?_
        refine qV_aload_n (pc := 14) 0 dX2_joinsChunks_14 rfl rfl ?_
        refine qV_get (pc := 15) kX2 1 (le_b rfl) lk_X2_23 rfl dX2_joinsChunks_15 (by first | assumption | exact hU_self _ _ _ | (refine (hU_ne (by omega)).trans ?_; first | assumption | exact hU_self _ _ _ | (refine (hU_ne (by omega)).trans ?_; first | assumption | exact hU_self _ _ _ | (refine (hU_ne (by omega)).trans ?_; first | assumption | exact hU_self _ _ _)))) (by exact rfl) ?_
        refine qV_iload_n (pc := 18) 2 dX2_joinsChunks_18 rfl rfl ?_
        refine qV_iconst (pc := 19) dX2_joinsChunks_19 ?_
        refine qV_iadd (pc := 20) dX2_joinsChunks_20 ?_
        refine qV_rdV (pc := 21) (c_gt hr (i := k + 1) (by omega) h1) nX3_get kX3 lk_X2_54 dX2_joinsChunks_21 hr.obj ⟨le_b rfl, le_b rfl⟩ ⟨le_b rfl, le_b rfl⟩ rfl (le_b rfl) ?_
        refine qV_iadd (pc := 24) dX2_joinsChunks_24 ?_
        refine qV_istore_n (pc := 25) 3 dX2_joinsChunks_25 rfl (le_b rfl) (le_b rfl) rfl ?_
        refine qV_iload_n (pc := 26) 2 dX2_joinsChunks_26 rfl rfl ?_
        refine qV_iconst (pc := 27) dX2_joinsChunks_27 ?_
        refine qV_iadd (pc := 28) dX2_joinsChunks_28 ?_
        refine qV_aload_n (pc := 29) 0 dX2_joinsChunks_29 rfl rfl ?_
        refine qV_get (pc := 30) kX2 1 (le_b rfl) lk_X2_23 rfl dX2_joinsChunks_30 (by first | assumption | exact hU_self _ _ _ | (refine (hU_ne (by omega)).trans ?_; first | assumption | exact hU_self _ _ _ | (refine (hU_ne (by omega)).trans ?_; first | assumption | exact hU_self _ _ _ | (refine (hU_ne (by omega)).trans ?_; first | assumption | exact hU_self _ _ _)))) (by exact rfl) ?_
        refine qV_rdV (pc := 33) (c_size hr) nX3_size kX3 lk_X2_65 dX2_joinsChunks_33 hr.obj ⟨le_b rfl, le_b rfl⟩ ⟨le_b rfl, le_b rfl⟩ rfl (le_b rfl) ?_
        refine qV_icmp_ge (pc := 36) 65 dX2_joinsChunks_36 (by decide) ⟨by omega, by omega⟩ ⟨by omega, by omega⟩ (fun c36 => ?_) (fun c36 => ?_)
        · exfalso; omega
        · refine qV_iload_n (pc := 39) 3 dX2_joinsChunks_39 rfl rfl ?_
          refine qV_bipush (pc := 40) dX2_joinsChunks_40 rfl ?_
          refine qV_icmp_gt (pc := 42) 65 dX2_joinsChunks_42 (by decide) ⟨by omega, by omega⟩ ⟨by omega, by omega⟩ (fun c42 => ?_) (fun c42 => ?_)
          · refine qV_vret (pc := 65) dX2_joinsChunks_65 rfl (le_b rfl) (le_b rfl) ?_
            exact ⟨rfl, hr, Fr.rf, rfl⟩
          · exfalso; omega
    · have hjn : jnN C c k = c := by simp only [jnN]; rw [if_neg (fun q => h1 q.1)]
      have hjf : jnF C c k = C := by simp only [jnF]; rw [if_neg (fun q => h1 q.1)]
      rw [hjn, hjf]
      refine qC.of 2 (by decide) (le_b rfl) ?_
      refine qV_aload_n (pc := 0) 0 dX2_joinsChunks_0 rfl rfl ?_
      refine qV_iload_n (pc := 1) 1 dX2_joinsChunks_1 rfl rfl ?_
      refine qV_rdV (pc := 2) (c_coba ho hr hC hs ⟨by omega, by omega⟩ hx2) nX2_chunkOfByteAhead kX2 lk_X2_90 dX2_joinsChunks_2 (by first | assumption | exact hU_self _ _ _ | (refine (hU_ne (by omega)).trans ?_; first | assumption | exact hU_self _ _ _ | (refine (hU_ne (by omega)).trans ?_; first | assumption | exact hU_self _ _ _ | (refine (hU_ne (by omega)).trans ?_; first | assumption | exact hU_self _ _ _)))) ⟨le_b rfl, le_b rfl⟩ ⟨le_b rfl, le_b rfl⟩ rfl (le_b rfl) ?_
      rw [hkk]
      refine qV_istore_n (pc := 5) 2 dX2_joinsChunks_5 rfl (le_b rfl) (le_b rfl) rfl ?_
      refine qV_aload_n (pc := 6) 0 dX2_joinsChunks_6 rfl rfl ?_
      refine qV_get (pc := 7) kX2 1 (le_b rfl) lk_X2_23 rfl dX2_joinsChunks_7 (by first | assumption | exact hU_self _ _ _ | (refine (hU_ne (by omega)).trans ?_; first | assumption | exact hU_self _ _ _ | (refine (hU_ne (by omega)).trans ?_; first | assumption | exact hU_self _ _ _ | (refine (hU_ne (by omega)).trans ?_; first | assumption | exact hU_self _ _ _)))) (by exact rfl) ?_
      refine qV_iload_n (pc := 10) 2 dX2_joinsChunks_10 rfl rfl ?_
      refine qV_rdV (pc := 11) (c_gt hr rfl hk1) nX3_get kX3 lk_X2_54 dX2_joinsChunks_11 hr.obj ⟨le_b rfl, le_b rfl⟩ ⟨le_b rfl, le_b rfl⟩ rfl (le_b rfl) ?_
      refine qV_aload_n (pc := 14) 0 dX2_joinsChunks_14 rfl rfl ?_
      refine qV_get (pc := 15) kX2 1 (le_b rfl) lk_X2_23 rfl dX2_joinsChunks_15 (by first | assumption | exact hU_self _ _ _ | (refine (hU_ne (by omega)).trans ?_; first | assumption | exact hU_self _ _ _ | (refine (hU_ne (by omega)).trans ?_; first | assumption | exact hU_self _ _ _ | (refine (hU_ne (by omega)).trans ?_; first | assumption | exact hU_self _ _ _)))) (by exact rfl) ?_
      refine qV_iload_n (pc := 18) 2 dX2_joinsChunks_18 rfl rfl ?_
      refine qV_iconst (pc := 19) dX2_joinsChunks_19 ?_
      refine qV_iadd (pc := 20) dX2_joinsChunks_20 ?_
      refine qV_rdV (pc := 21) (c_gt0 hr (Or.inr (by omega)) ⟨by omega, by omega⟩) nX3_get kX3 lk_X2_54 dX2_joinsChunks_21 hr.obj ⟨le_b rfl, le_b rfl⟩ ⟨le_b rfl, le_b rfl⟩ rfl (le_b rfl) ?_
      refine qV_iadd (pc := 24) dX2_joinsChunks_24 ?_
      refine qV_istore_n (pc := 25) 3 dX2_joinsChunks_25 rfl (le_b rfl) (le_b rfl) rfl ?_
      refine qV_iload_n (pc := 26) 2 dX2_joinsChunks_26 rfl rfl ?_
      refine qV_iconst (pc := 27) dX2_joinsChunks_27 ?_
      refine qV_iadd (pc := 28) dX2_joinsChunks_28 ?_
      refine qV_aload_n (pc := 29) 0 dX2_joinsChunks_29 rfl rfl ?_
      refine qV_get (pc := 30) kX2 1 (le_b rfl) lk_X2_23 rfl dX2_joinsChunks_30 (by first | assumption | exact hU_self _ _ _ | (refine (hU_ne (by omega)).trans ?_; first | assumption | exact hU_self _ _ _ | (refine (hU_ne (by omega)).trans ?_; first | assumption | exact hU_self _ _ _ | (refine (hU_ne (by omega)).trans ?_; first | assumption | exact hU_self _ _ _)))) (by exact rfl) ?_
      refine qV_rdV (pc := 33) (c_size hr) nX3_size kX3 lk_X2_65 dX2_joinsChunks_33 hr.obj ⟨le_b rfl, le_b rfl⟩ ⟨le_b rfl, le_b rfl⟩ rfl (le_b rfl) ?_
      refine qV_icmp_ge (pc := 36) 65 dX2_joinsChunks_36 (by decide) ⟨by omega, by omega⟩ ⟨by omega, by omega⟩ (fun c36 => ?_) (fun c36 => ?_)
      · refine qV_vret (pc := 65) dX2_joinsChunks_65 rfl (le_b rfl) (le_b rfl) ?_
        exact ⟨rfl, hr, Fr.rf, rfl⟩
      · exfalso; omega
set_option maxRecDepth 100000 in
set_option maxHeartbeats 4000000 in
theorem split_loop {k parts : Nat} {size y4 y5 : Int} (hk : k < c) (hp : 2 ≤ parts ∧ parts ≤ 4) (h4 : y4 = size / parts) (h5 : y5 = size % parts) (hz : 1 ≤ size ∧ size ≤ 32) : ∀ (m i : Nat) (q : Int) (h1 : qH) (R : Nat → Int), parts - i = m → i ≤ parts → q = i → h1 p = some (pob p rd) → Row h1 (p + 5) B (c + parts - 1) R → (∀ j, j < k + i → R j = (gwF C k parts size) j) → (∀ j, k + parts ≤ j → j < c + parts - 1 → R j = (gwF C k parts size) j) → Fr h h1 (p + 5) (p + 7) → qVM l mX2_splitsChunk 0 0 h sz (fun v h' sz' => v = none ∧ Row h' (p + 5) B (c + parts - 1) (gwF C k parts size) ∧ Fr h h' (p + 5) (p + 7) ∧ sz' = sz) 0 0 h1 sz 40 [some (.ref p), some (vI k), some (vI size), some (vI parts), some (vI y4), some (vI y5), some (vI q)] [] := by
  have hy4 : -100 ≤ y4 ∧ y4 ≤ 100 := by
    rcases (show parts = 2 ∨ parts = 3 ∨ parts = 4 by omega) with e | e | e <;> subst e <;> omega
  have hy5 : -100 ≤ y5 ∧ y5 ≤ 100 := by
    rcases (show parts = 2 ∨ parts = 3 ∨ parts = 4 by omega) with e | e | e <;> subst e <;> omega
  have hG : ∀ i : Nat, i < parts → (gwF C k parts size) (k + i) = y4 + (if (i : Int) < y5 then 1 else 0) := fun i hi => by
    simp only [gwF]
    rw [if_neg (by omega), if_pos (by omega), show k + i - k = i by omega, h4, h5]
  intro m
  induction m with
  | zero =>
    intro i q h1 R hm hi hq ho hr r1 r2 hf
    obtain rfl : i = parts := by omega
    have hle := hr.le
    refine qV_iload (pc := 40) 6 dX2_splitsChunk_40 rfl ?_
    refine qV_iload_n (pc := 42) 3 dX2_splitsChunk_42 rfl rfl ?_
    refine qV_icmp_ge (pc := 43) 79 dX2_splitsChunk_43 (by decide) ⟨by omega, by omega⟩ ⟨by omega, by omega⟩ (fun c43 => ?_) (fun c43 => ?_)
    · refine qV_vret (pc := 79) dX2_splitsChunk_79 rfl (le_b rfl) (le_b rfl) ?_
      refine ⟨rfl, hr.congr (fun j hj => ?_), hf, rfl⟩
      by_cases e : j < k + i
      · exact r1 j e
      · exact r2 j (by omega) hj
    · exfalso; omega
  | succ m ih =>
    intro i q h1 R hm hi hq ho hr r1 r2 hf
    have hle := hr.le
    refine qV_iload (pc := 40) 6 dX2_splitsChunk_40 rfl ?_
    refine qV_iload_n (pc := 42) 3 dX2_splitsChunk_42 rfl rfl ?_
    refine qV_icmp_ge (pc := 43) 79 dX2_splitsChunk_43 (by decide) ⟨by omega, by omega⟩ ⟨by omega, by omega⟩ (fun c43 => ?_) (fun c43 => ?_)
    · exfalso; omega
    · refine qV_aload_n (pc := 46) 0 dX2_splitsChunk_46 rfl rfl ?_
      refine qV_get (pc := 47) kX2 1 (le_b rfl) lk_X2_23 rfl dX2_splitsChunk_47 (by first | assumption | exact hU_self _ _ _ | (refine (hU_ne (by omega)).trans ?_; first | assumption | exact hU_self _ _ _ | (refine (hU_ne (by omega)).trans ?_; first | assumption | exact hU_self _ _ _ | (refine (hU_ne (by omega)).trans ?_; first | assumption | exact hU_self _ _ _)))) (by exact rfl) ?_
      refine qV_iload_n (pc := 50) 1 dX2_splitsChunk_50 rfl rfl ?_
      refine qV_iload (pc := 51) 6 dX2_splitsChunk_51 rfl ?_
      refine qV_iadd (pc := 53) dX2_splitsChunk_53 ?_
      refine qV_iload (pc := 54) 6 dX2_splitsChunk_54 rfl ?_
      refine qV_iload (pc := 56) 5 dX2_splitsChunk_56 rfl ?_
      refine qV_icmp_ge (pc := 58) 68 dX2_splitsChunk_58 (by decide) ⟨by omega, by omega⟩ ⟨by omega, by omega⟩ (fun c58 => ?_) (fun c58 => ?_)
      · refine qV_iload (pc := 68) 4 dX2_splitsChunk_68 rfl ?_
        refine qV_voV (pc := 70) (c_set hr (i := k + i) (by omega) (by omega)) nX3_set kX3 lk_X2_62 dX2_splitsChunk_70 hr.obj ⟨le_b rfl, le_b rfl⟩ ⟨le_b rfl, le_b rfl⟩ rfl (le_b rfl) ?_
        rintro h2 _ ⟨hr2, hf2, rfl⟩
        have ho2 : h2 p = some (pob p rd) := (hf2 p (by omega)).trans ho
        refine qV_iinc (pc := 73) 6 dX2_splitsChunk_73 rfl (le_b rfl) (le_b rfl) rfl ?_
        refine qV_goto (pc := 76) 40 dX2_splitsChunk_76 (by decide) ?_
        refine ih (i + 1) _ h2 _ (by omega) (by omega) (by omega) ho2 hr2 (fun j hj => ?_) (fun j hj hj2 => ?_) (hf.trans hf2)
        · by_cases e : j = k + i
          · subst e
            rw [va_up_self, hG i (by omega)]
            first | (rw [if_neg (by omega)]; omega) | (rw [if_pos (by omega)])
          · rw [va_up_ne _ _ e]
            exact r1 j (by omega)
        · rw [va_up_ne _ _ (by omega)]
          exact r2 j hj hj2
      · refine qV_iload (pc := 61) 4 dX2_splitsChunk_61 rfl ?_
        refine qV_iconst (pc := 63) dX2_splitsChunk_63 ?_
        refine qV_iadd (pc := 64) dX2_splitsChunk_64 ?_
        refine qV_goto (pc := 65) 70 dX2_splitsChunk_65 (by decide) ?_
        refine qV_voV (pc := 70) (c_set hr (i := k + i) (by omega) (by omega)) nX3_set kX3 lk_X2_62 dX2_splitsChunk_70 hr.obj ⟨le_b rfl, le_b rfl⟩ ⟨le_b rfl, le_b rfl⟩ rfl (le_b rfl) ?_
        rintro h2 _ ⟨hr2, hf2, rfl⟩
        have ho2 : h2 p = some (pob p rd) := (hf2 p (by omega)).trans ho
        refine qV_iinc (pc := 73) 6 dX2_splitsChunk_73 rfl (le_b rfl) (le_b rfl) rfl ?_
        refine qV_goto (pc := 76) 40 dX2_splitsChunk_76 (by decide) ?_
        refine ih (i + 1) _ h2 _ (by omega) (by omega) (by omega) ho2 hr2 (fun j hj => ?_) (fun j hj hj2 => ?_) (hf.trans hf2)
        · by_cases e : j = k + i
          · subst e
            rw [va_up_self, hG i (by omega)]
            first | (rw [if_neg (by omega)]; omega) | (rw [if_pos (by omega)])
          · rw [va_up_ne _ _ e]
            exact r1 j (by omega)
        · rw [va_up_ne _ _ (by omega)]
          exact r2 j hj hj2
set_option maxRecDepth 100000 in
set_option maxHeartbeats 4000000 in
theorem c_split {k parts : Nat} {x size : Int} (ho : h p = some (pob p rd)) (hr : Row h (p + 5) B c (va_up C k size)) (hx : x = k) (hk : k < c) (hz : 1 ≤ size ∧ size ≤ 32) (hp : (parts : Int) = (size + 7) / 8) (hB : c + parts - 1 ≤ B) : qVo l mX2_splitsChunk 0 0 [.ref p, vI x, vI size] h sz (fun h' sz' => Row h' (p + 5) B (c + parts - 1) (gwF C k parts size) ∧ Fr h h' (p + 5) (p + 7) ∧ sz' = sz) := by
  subst hx
  have hle := hr.le
  obtain ⟨p1, p2, p3, p4⟩ := parts_ok hz.1 hz.2 hp
  have e0 : (size + 8 - 1) / 8 = (parts : Int) := by rw [hp]; congr 1; omega
  refine qC.of 4 (by decide) (le_b rfl) ?_
  refine qV_iload_n (pc := 0) 2 dX2_splitsChunk_0 rfl rfl ?_
  refine qV_bipush (pc := 1) dX2_splitsChunk_1 rfl ?_
  refine qV_iadd (pc := 3) dX2_splitsChunk_3 ?_
  refine qV_iconst (pc := 4) dX2_splitsChunk_4 ?_
  refine qV_isub (pc := 5) dX2_splitsChunk_5 ?_
  refine qV_bipush (pc := 6) dX2_splitsChunk_6 rfl ?_
  refine qV_idiv (pc := 8) dX2_splitsChunk_8 (by omega) ?_
  rw [e0]
  refine qV_istore_n (pc := 9) 3 dX2_splitsChunk_9 rfl (le_b rfl) (le_b rfl) rfl ?_
  refine qV_iload_n (pc := 10) 3 dX2_splitsChunk_10 rfl rfl ?_
  refine qV_iconst (pc := 11) dX2_splitsChunk_11 ?_
  refine qV_icmp_ge (pc := 12) 16 dX2_splitsChunk_12 (by decide) ⟨by omega, by omega⟩ ⟨by omega, by omega⟩ (fun c12 => ?_) (fun c12 => ?_)
  · refine qV_iload_n (pc := 16) 2 dX2_splitsChunk_16 rfl rfl ?_
    refine qV_iload_n (pc := 17) 3 dX2_splitsChunk_17 rfl rfl ?_
    refine qV_idiv (pc := 18) dX2_splitsChunk_18 (by omega) ?_
    refine qV_istore (pc := 19) 4 dX2_splitsChunk_19 (le_b rfl) (le_b rfl) rfl ?_
    refine qV_iload_n (pc := 21) 2 dX2_splitsChunk_21 rfl rfl ?_
    refine qV_iload_n (pc := 22) 3 dX2_splitsChunk_22 rfl rfl ?_
    refine qV_irem (pc := 23) dX2_splitsChunk_23 (by omega) ?_
    refine qV_istore (pc := 24) 5 dX2_splitsChunk_24 (le_b rfl) (le_b rfl) rfl ?_
    refine qV_aload_n (pc := 26) 0 dX2_splitsChunk_26 rfl rfl ?_
    refine qV_get (pc := 27) kX2 1 (le_b rfl) lk_X2_23 rfl dX2_splitsChunk_27 (by first | assumption | exact hU_self _ _ _ | (refine (hU_ne (by omega)).trans ?_; first | assumption | exact hU_self _ _ _ | (refine (hU_ne (by omega)).trans ?_; first | assumption | exact hU_self _ _ _ | (refine (hU_ne (by omega)).trans ?_; first | assumption | exact hU_self _ _ _)))) (by exact rfl) ?_
    refine qV_iload_n (pc := 30) 1 dX2_splitsChunk_30 rfl rfl ?_
    refine qV_iload_n (pc := 31) 3 dX2_splitsChunk_31 rfl rfl ?_
    refine qV_iconst (pc := 32) dX2_splitsChunk_32 ?_
    refine qV_isub (pc := 33) dX2_splitsChunk_33 ?_
    refine qV_voV (pc := 34) (c_opens (i := k) (k := parts - 1) hr rfl (by omega) (by omega) (by omega)) nX3_opens kX3 lk_X2_69 dX2_splitsChunk_34 hr.obj ⟨le_b rfl, le_b rfl⟩ ⟨le_b rfl, le_b rfl⟩ rfl (le_b rfl) ?_
    rintro h2 _ ⟨⟨T2, hr2, t1, t2⟩, hf2, rfl⟩
    have ho2 : h2 p = some (pob p rd) := (hf2 p (by omega)).trans ho
    refine qV_iconst (pc := 37) dX2_splitsChunk_37 ?_
    refine qV_istore (pc := 38) 6 dX2_splitsChunk_38 (le_b rfl) (le_b rfl) rfl ?_
    rw [show c + (parts - 1) = c + parts - 1 by omega] at hr2
    refine split_loop hk ⟨by omega, by omega⟩ rfl rfl hz parts 0 _ h2 T2 (by omega) (by omega) rfl ho2 hr2 (fun j hj => ?_) (fun j hj hj2 => ?_) hf2
    · rw [t1 j (by omega), va_up_ne _ _ (by omega)]
      simp only [gwF]
      rw [if_pos (by omega)]
    · have e := t2 (j - (parts - 1)) (by omega) (by omega)
      rw [show j - (parts - 1) + (parts - 1) = j by omega] at e
      rw [e, va_up_ne _ _ (by omega)]
      simp only [gwF]
      rw [if_neg (by omega), if_neg (by omega)]
  · refine qV_vret (pc := 15) dX2_splitsChunk_15 rfl (le_b rfl) (le_b rfl) ?_
    obtain rfl : parts = 1 := by omega
    refine ⟨rfl, (show Row h (p + 5) B (c + 1 - 1) (va_up C k size) from hr).congr (fun j hj => ?_), Fr.rf, rfl⟩
    simp only [gwF]
    by_cases e1 : j < k
    · rw [if_pos e1, va_up_ne _ _ (by omega)]
    · rw [if_neg e1]
      by_cases e2 : j = k
      · subst e2
        rw [va_up_self, if_pos (by omega)]
        split <;> omega
      · rw [if_neg (by omega), va_up_ne _ _ e2]
        rfl
set_option maxRecDepth 100000 in
set_option maxHeartbeats 4000000 in
theorem grow_rest {x : Int} {m : Nat} {h1 : qH} {Z : Nat → Int} {z : Nat} (ho : h1 p = some (pob p rd)) (hr : Row h1 (p + 5) B z Z) (hC : ∀ j, j < z → 0 ≤ Z j ∧ Z j ≤ 8) (hz : 0 < z) (hs : csum Z z ≤ 5000) (hx : 0 ≤ x ∧ x ≤ 5000) (hx2 : x ≤ csum Z z) (hm : 0 < m ∧ m ≤ 24) {parts : Nat} (hp : (parts : Int) = (Z (ca Z x z) + m + 7) / 8) (hB : z + parts - 1 ≤ B) (hf : Fr h h1 (p + 5) (p + 7)) : qVM l mX2_growsChunk 0 0 h sz (fun v h' sz' => v = none ∧ Row h' (p + 5) B (z + parts - 1) (gwF Z (ca Z x z) parts (Z (ca Z x z) + m)) ∧ Fr h h' (p + 5) (p + 7) ∧ sz' = sz) 0 0 h1 sz 18 [some (.ref p), some (vI x), some (vI m), none, none] [] := by
  have hk := ca_ex (C := Z) (p := x) (fun j hj => (hC j hj).1) hz hx2
  generalize hkk : ca Z x z = k at hk hp ⊢
  have b1 := hC k hk.1
  have hle := hr.le
  have hk1 := hk.1
  refine qV_aload_n (pc := 18) 0 dX2_growsChunk_18 rfl rfl ?_
  refine qV_iload_n (pc := 19) 1 dX2_growsChunk_19 rfl rfl ?_
  refine qV_rdV (pc := 20) (c_coba ho hr (fun j hj => (hC j hj).1) hs ⟨by omega, by omega⟩ (fun _ => hx2)) nX2_chunkOfByteAhead kX2 lk_X2_90 dX2_growsChunk_20 (by first | assumption | exact hU_self _ _ _ | (refine (hU_ne (by omega)).trans ?_; first | assumption | exact hU_self _ _ _ | (refine (hU_ne (by omega)).trans ?_; first | assumption | exact hU_self _ _ _ | (refine (hU_ne (by omega)).trans ?_; first | assumption | exact hU_self _ _ _)))) ⟨le_b rfl, le_b rfl⟩ ⟨le_b rfl, le_b rfl⟩ rfl (le_b rfl) ?_
  rw [hkk]
  refine qV_istore_n (pc := 23) 3 dX2_growsChunk_23 rfl (le_b rfl) (le_b rfl) rfl ?_
  refine qV_aload_n (pc := 24) 0 dX2_growsChunk_24 rfl rfl ?_
  refine qV_get (pc := 25) kX2 1 (le_b rfl) lk_X2_23 rfl dX2_growsChunk_25 (by first | assumption | exact hU_self _ _ _ | (refine (hU_ne (by omega)).trans ?_; first | assumption | exact hU_self _ _ _ | (refine (hU_ne (by omega)).trans ?_; first | assumption | exact hU_self _ _ _ | (refine (hU_ne (by omega)).trans ?_; first | assumption | exact hU_self _ _ _)))) (by exact rfl) ?_
  refine qV_iload_n (pc := 28) 3 dX2_growsChunk_28 rfl rfl ?_
  refine qV_rdV (pc := 29) (c_gt hr rfl hk1) nX3_get kX3 lk_X2_54 dX2_growsChunk_29 hr.obj ⟨le_b rfl, le_b rfl⟩ ⟨le_b rfl, le_b rfl⟩ rfl (le_b rfl) ?_
  refine qV_iload_n (pc := 32) 2 dX2_growsChunk_32 rfl rfl ?_
  refine qV_iadd (pc := 33) dX2_growsChunk_33 ?_
  refine qV_istore (pc := 34) 4 dX2_growsChunk_34 (le_b rfl) (le_b rfl) rfl ?_
  refine qV_aload_n (pc := 36) 0 dX2_growsChunk_36 rfl rfl ?_
  refine qV_get (pc := 37) kX2 1 (le_b rfl) lk_X2_23 rfl dX2_growsChunk_37 (by first | assumption | exact hU_self _ _ _ | (refine (hU_ne (by omega)).trans ?_; first | assumption | exact hU_self _ _ _ | (refine (hU_ne (by omega)).trans ?_; first | assumption | exact hU_self _ _ _ | (refine (hU_ne (by omega)).trans ?_; first | assumption | exact hU_self _ _ _)))) (by exact rfl) ?_
  refine qV_iload_n (pc := 40) 3 dX2_growsChunk_40 rfl rfl ?_
  refine qV_iload (pc := 41) 4 dX2_growsChunk_41 rfl ?_
  refine qV_voV (pc := 43) (c_set hr rfl hk1) nX3_set kX3 lk_X2_62 dX2_growsChunk_43 hr.obj ⟨le_b rfl, le_b rfl⟩ ⟨le_b rfl, le_b rfl⟩ rfl (le_b rfl) ?_
  rintro h2 _ ⟨hr2, hf2, rfl⟩
  have ho2 : h2 p = some (pob p rd) := (hf2 p (by omega)).trans ho
  refine qV_aload_n (pc := 46) 0 dX2_growsChunk_46 rfl rfl ?_
  refine qV_iload_n (pc := 47) 3 dX2_growsChunk_47 rfl rfl ?_
  refine qV_iload (pc := 48) 4 dX2_growsChunk_48 rfl ?_
  refine qV_voV (pc := 50) (c_split (parts := parts) ho2 hr2 rfl hk1 ⟨by omega, by omega⟩ hp hB) nX2_splitsChunk kX2 lk_X2_93 dX2_growsChunk_50 (by first | assumption | exact hU_self _ _ _ | (refine (hU_ne (by omega)).trans ?_; first | assumption | exact hU_self _ _ _ | (refine (hU_ne (by omega)).trans ?_; first | assumption | exact hU_self _ _ _ | (refine (hU_ne (by omega)).trans ?_; first | assumption | exact hU_self _ _ _)))) ⟨le_b rfl, le_b rfl⟩ ⟨le_b rfl, le_b rfl⟩ rfl (le_b rfl) ?_
  rintro h3 _ ⟨hr3, hf3, rfl⟩
  refine qV_vret (pc := 53) dX2_growsChunk_53 rfl (le_b rfl) (le_b rfl) ?_
  exact ⟨rfl, hr3, (hf.trans hf2).trans hf3, rfl⟩
set_option maxRecDepth 100000 in
set_option maxHeartbeats 4000000 in
theorem c_grow {x : Int} {m : Nat} (ho : h p = some (pob p rd)) (hr : Row h (p + 5) B c C) {z : Nat} {Z : Nat → Int} (ez : z = if c = 0 then 1 else c) (eZ : Z = if c = 0 then (fun _ => 0) else C) (hC : ∀ j, j < z → 0 ≤ Z j ∧ Z j ≤ 8) (hs : csum Z z ≤ 5000) (hx : 0 ≤ x ∧ x ≤ 5000) (hx2 : x ≤ csum Z z) (hm : 0 < m ∧ m ≤ 24) {parts : Nat} (hp : (parts : Int) = (Z (ca Z x z) + m + 7) / 8) (hB : z + parts - 1 ≤ B) (hB1 : 1 ≤ B) : qVo l mX2_growsChunk 0 0 [.ref p, vI x, vI m] h sz (fun h' sz' => Row h' (p + 5) B (z + parts - 1) (gwF Z (ca Z x z) parts (Z (ca Z x z) + m)) ∧ Fr h h' (p + 5) (p + 7) ∧ sz' = sz) := by
  have hle := hr.le
  refine qC.of 2 (by decide) (le_b rfl) ?_
  refine qV_aload_n (pc := 0) 0 dX2_growsChunk_0 rfl rfl ?_
  refine qV_get (pc := 1) kX2 1 (le_b rfl) lk_X2_23 rfl dX2_growsChunk_1 (by first | assumption | exact hU_self _ _ _ | (refine (hU_ne (by omega)).trans ?_; first | assumption | exact hU_self _ _ _ | (refine (hU_ne (by omega)).trans ?_; first | assumption | exact hU_self _ _ _ | (refine (hU_ne (by omega)).trans ?_; first | assumption | exact hU_self _ _ _)))) (by exact rfl) ?_
  refine qV_rdV (pc := 4) (c_size hr) nX3_size kX3 lk_X2_65 dX2_growsChunk_4 hr.obj ⟨le_b rfl, le_b rfl⟩ ⟨le_b rfl, le_b rfl⟩ rfl (le_b rfl) ?_
  refine qV_ifne (pc := 7) 18 dX2_growsChunk_7 (by decide) ⟨by omega, by omega⟩ (fun c7 => ?_) (fun c7 => ?_)
  · have c0 : ¬ c = 0 := by omega
    rw [if_neg c0] at ez eZ
    subst ez; subst eZ
    first
    | exact grow_rest ho hr hC (by omega) hs hx hx2 hm hp hB Fr.rf
    | exact grow_rest ho2 (hr2.congr (fun j hj => by
        obtain rfl : j = 0 := by omega
        exact va_up_self _ _ _)) hC (by omega) hs hx hx2 hm hp hB hf2
  · obtain rfl : c = 0 := by omega
    rw [if_pos rfl] at ez eZ
    subst ez; subst eZ
    refine qV_aload_n (pc := 10) 0 dX2_growsChunk_10 rfl rfl ?_
    refine qV_get (pc := 11) kX2 1 (le_b rfl) lk_X2_23 rfl dX2_growsChunk_11 (by first | assumption | exact hU_self _ _ _ | (refine (hU_ne (by omega)).trans ?_; first | assumption | exact hU_self _ _ _ | (refine (hU_ne (by omega)).trans ?_; first | assumption | exact hU_self _ _ _ | (refine (hU_ne (by omega)).trans ?_; first | assumption | exact hU_self _ _ _)))) (by exact rfl) ?_
    refine qV_iconst (pc := 14) dX2_growsChunk_14 ?_
    refine qV_voV (pc := 15) (c_add hr (by omega)) nX3_add kX3 lk_X2_26 dX2_growsChunk_15 hr.obj ⟨le_b rfl, le_b rfl⟩ ⟨le_b rfl, le_b rfl⟩ rfl (le_b rfl) ?_
    rintro h2 _ ⟨hr2, hf2, rfl⟩
    have ho2 : h2 p = some (pob p rd) := (hf2 p (by omega)).trans ho
    first
    | exact grow_rest ho hr hC (by omega) hs hx hx2 hm hp hB Fr.rf
    | exact grow_rest ho2 (hr2.congr (fun j hj => by
        obtain rfl : j = 0 := by omega
        exact va_up_self _ _ _)) hC (by omega) hs hx hx2 hm hp hB hf2
end PAGEC
end
section
/-! ===== Page ===== -/
def Page (h : qH) (p B : Nat) (P : PG) : Prop := h p = some (pob p P.2.2.2.2.2) ∧ Row h (p + 3) B P.1 P.2.1 ∧ Row h (p + 5) B P.2.2.1 P.2.2.2.1 ∧ Row h (p + 1) 26 26 P.2.2.2.2.1
theorem Page.fr {h h' : qH} {p B lo hi : Nat} {P : PG} (a : Page h p B P) (b : Fr h h' lo hi) (d : p + 7 ≤ lo ∨ hi ≤ p) : Page h' p B P := ⟨(b p (by omega)).trans a.1, a.2.1.fr b (by omega), a.2.2.1.fr b (by omega), a.2.2.2.fr b (by omega)⟩
section PAGE
variable {l : Launch} {h : qH} {sz p B : Nat} {P : PG}
set_option maxRecDepth 100000 in
set_option maxHeartbeats 4000000 in
theorem c_beginsLetter {b : Int} (hb : iR b) : qRd l mX6_beginsLetter [vI b] h sz (vB (b < 128 ∨ 191 < b)) := by
  obtain ⟨b1, b2⟩ := hb
  refine qC.of 0 (by decide) (le_b rfl) ?_
  refine qV_iload_n (pc := 0) 0 dX6_beginsLetter_0 rfl rfl ?_
  refine qV_sipush (pc := 1) dX6_beginsLetter_1 rfl ?_
  refine qV_icmp_lt (pc := 4) 14 dX6_beginsLetter_4 (by decide) ⟨by omega, by omega⟩ ⟨by omega, by omega⟩ (fun c4 => ?_) (fun c4 => ?_)
  · refine qV_iconst (pc := 14) dX6_beginsLetter_14 ?_
    refine qV_goto (pc := 15) 19 dX6_beginsLetter_15 (by decide) ?_
    refine qV_zret (pc := 19) dX6_beginsLetter_19 rfl (by first | exact Or.inl rfl | exact Or.inr rfl) (le_b rfl) (le_b rfl) ?_
    first | exact ⟨by rw [vB, if_pos (by omega)], rfl, rfl⟩ | exact ⟨by rw [vB, if_neg (by omega)], rfl, rfl⟩
  · refine qV_iload_n (pc := 7) 0 dX6_beginsLetter_7 rfl rfl ?_
    refine qV_sipush (pc := 8) dX6_beginsLetter_8 rfl ?_
    refine qV_icmp_le (pc := 11) 18 dX6_beginsLetter_11 (by decide) ⟨by omega, by omega⟩ ⟨by omega, by omega⟩ (fun c11 => ?_) (fun c11 => ?_)
    · refine qV_iconst (pc := 18) dX6_beginsLetter_18 ?_
      refine qV_zret (pc := 19) dX6_beginsLetter_19 rfl (by first | exact Or.inl rfl | exact Or.inr rfl) (le_b rfl) (le_b rfl) ?_
      first | exact ⟨by rw [vB, if_pos (by omega)], rfl, rfl⟩ | exact ⟨by rw [vB, if_neg (by omega)], rfl, rfl⟩
    · refine qV_iconst (pc := 14) dX6_beginsLetter_14 ?_
      refine qV_goto (pc := 15) 19 dX6_beginsLetter_15 (by decide) ?_
      refine qV_zret (pc := 19) dX6_beginsLetter_19 rfl (by first | exact Or.inl rfl | exact Or.inr rfl) (le_b rfl) (le_b rfl) ?_
      first | exact ⟨by rw [vB, if_pos (by omega)], rfl, rfl⟩ | exact ⟨by rw [vB, if_neg (by omega)], rfl, rfl⟩
set_option maxRecDepth 100000 in
set_option maxHeartbeats 4000000 in
theorem c_cellsOf {b : Int} (hb : iR b) : qRd l mX6_cellsOf [vI b] h sz (vI (hasM b 3)) := by
  obtain ⟨b1, b2⟩ := hb
  have e : hasM b 3 = (if ¬ (b < 128 ∨ 191 < b) ∨ b < 32 then 0 else if 223 < b then 2 else 1) := rfl
  refine qC.of 0 (by decide) (le_b rfl) ?_
  refine qV_iload_n (pc := 0) 0 dX6_cellsOf_0 rfl rfl ?_
  refine qV_rdS (pc := 1) (c_beginsLetter ⟨b1, b2⟩) nX6_beginsLetter lk_X6_198 dX6_cellsOf_1 ⟨le_b rfl, le_b rfl⟩ ⟨le_b rfl, le_b rfl⟩ rfl (le_b rfl) ?_
  refine qV_ifeqB (pc := 4) 13 dX6_cellsOf_4 (by decide) (fun c4 => ?_) (fun c4 => ?_)
  · refine qV_iconst (pc := 13) dX6_cellsOf_13 ?_
    refine qV_iret (pc := 14) dX6_cellsOf_14 rfl (le_b rfl) (le_b rfl) ?_
    first | exact ⟨by rw [e, if_pos (by omega)], rfl, rfl⟩ | exact ⟨by rw [e, if_neg (by omega), if_pos (by omega)], rfl, rfl⟩ | exact ⟨by rw [e, if_neg (by omega), if_neg (by omega)], rfl, rfl⟩
  · refine qV_iload_n (pc := 7) 0 dX6_cellsOf_7 rfl rfl ?_
    refine qV_bipush (pc := 8) dX6_cellsOf_8 rfl ?_
    refine qV_icmp_ge (pc := 10) 15 dX6_cellsOf_10 (by decide) ⟨by omega, by omega⟩ ⟨by omega, by omega⟩ (fun c10 => ?_) (fun c10 => ?_)
    · refine qV_iload_n (pc := 15) 0 dX6_cellsOf_15 rfl rfl ?_
      refine qV_sipush (pc := 16) dX6_cellsOf_16 rfl ?_
      refine qV_icmp_le (pc := 19) 26 dX6_cellsOf_19 (by decide) ⟨by omega, by omega⟩ ⟨by omega, by omega⟩ (fun c19 => ?_) (fun c19 => ?_)
      · refine qV_iconst (pc := 26) dX6_cellsOf_26 ?_
        refine qV_iret (pc := 27) dX6_cellsOf_27 rfl (le_b rfl) (le_b rfl) ?_
        first | exact ⟨by rw [e, if_pos (by omega)], rfl, rfl⟩ | exact ⟨by rw [e, if_neg (by omega), if_pos (by omega)], rfl, rfl⟩ | exact ⟨by rw [e, if_neg (by omega), if_neg (by omega)], rfl, rfl⟩
      · refine qV_iconst (pc := 22) dX6_cellsOf_22 ?_
        refine qV_goto (pc := 23) 27 dX6_cellsOf_23 (by decide) ?_
        refine qV_iret (pc := 27) dX6_cellsOf_27 rfl (le_b rfl) (le_b rfl) ?_
        first | exact ⟨by rw [e, if_pos (by omega)], rfl, rfl⟩ | exact ⟨by rw [e, if_neg (by omega), if_pos (by omega)], rfl, rfl⟩ | exact ⟨by rw [e, if_neg (by omega), if_neg (by omega)], rfl, rfl⟩
    · refine qV_iconst (pc := 13) dX6_cellsOf_13 ?_
      refine qV_iret (pc := 14) dX6_cellsOf_14 rfl (le_b rfl) (le_b rfl) ?_
      first | exact ⟨by rw [e, if_pos (by omega)], rfl, rfl⟩ | exact ⟨by rw [e, if_neg (by omega), if_pos (by omega)], rfl, rfl⟩ | exact ⟨by rw [e, if_neg (by omega), if_neg (by omega)], rfl, rfl⟩
set_option maxRecDepth 100000 in
set_option maxHeartbeats 4000000 in
theorem c_mvT {a x k : Int} (ha : -9 ≤ a ∧ a ≤ 5000) (hx : 0 ≤ x ∧ x ≤ 5000) (hk : 0 ≤ k ∧ k ≤ 5000) : qRd l mX2_placeAfterTaking [vI a, vI x, vI k] h sz (vI (mvT a x k)) := by
  refine qC.of 0 (by decide) (le_b rfl) ?_
  refine qV_iload_n (pc := 0) 0 dX2_placeAfterTaking_0 rfl rfl ?_
  refine qV_iload_n (pc := 1) 1 dX2_placeAfterTaking_1 rfl rfl ?_
  refine qV_icmp_gt (pc := 2) 9 dX2_placeAfterTaking_2 (by decide) ⟨by omega, by omega⟩ ⟨by omega, by omega⟩ (fun c2 => ?_) (fun c2 => ?_)
  · refine qV_iload_n (pc := 9) 1 dX2_placeAfterTaking_9 rfl rfl ?_
    refine qV_iload_n (pc := 10) 0 dX2_placeAfterTaking_10 rfl rfl ?_
    refine qV_iload_n (pc := 11) 2 dX2_placeAfterTaking_11 rfl rfl ?_
    refine qV_isub (pc := 12) dX2_placeAfterTaking_12 ?_
    refine qV_max (pc := 13) lk_X2_78 dX2_placeAfterTaking_13 ⟨by omega, by omega⟩ ⟨by omega, by omega⟩ (le_b rfl) ⟨le_b rfl, le_b rfl⟩ (le_b rfl) ?_
    refine qV_iret (pc := 16) dX2_placeAfterTaking_16 rfl (le_b rfl) (le_b rfl) ?_
    first | exact ⟨by rw [mvT, if_pos (by omega)], rfl, rfl⟩ | exact ⟨by rw [mvT, if_neg (by omega)], rfl, rfl⟩
  · refine qV_iload_n (pc := 5) 0 dX2_placeAfterTaking_5 rfl rfl ?_
    refine qV_goto (pc := 6) 16 dX2_placeAfterTaking_6 (by decide) ?_
    refine qV_iret (pc := 16) dX2_placeAfterTaking_16 rfl (le_b rfl) (le_b rfl) ?_
    first | exact ⟨by rw [mvT, if_pos (by omega)], rfl, rfl⟩ | exact ⟨by rw [mvT, if_neg (by omega)], rfl, rfl⟩
set_option maxRecDepth 100000 in
set_option maxHeartbeats 4000000 in
theorem c_mvP {a x k : Int} (ha : -9 ≤ a ∧ a ≤ 5000) (hx : 0 ≤ x ∧ x ≤ 5000) (hk : 0 ≤ k ∧ k ≤ 5000) : qRd l mX2_placeAfterPutting [vI a, vI x, vI k] h sz (vI (mvP a x k)) := by
  refine qC.of 0 (by decide) (le_b rfl) ?_
  refine qV_iload_n (pc := 0) 0 dX2_placeAfterPutting_0 rfl rfl ?_
  refine qV_iload_n (pc := 1) 1 dX2_placeAfterPutting_1 rfl rfl ?_
  refine qV_icmp_gt (pc := 2) 9 dX2_placeAfterPutting_2 (by decide) ⟨by omega, by omega⟩ ⟨by omega, by omega⟩ (fun c2 => ?_) (fun c2 => ?_)
  · refine qV_iload_n (pc := 9) 0 dX2_placeAfterPutting_9 rfl rfl ?_
    refine qV_iload_n (pc := 10) 2 dX2_placeAfterPutting_10 rfl rfl ?_
    refine qV_iadd (pc := 11) dX2_placeAfterPutting_11 ?_
    refine qV_iret (pc := 12) dX2_placeAfterPutting_12 rfl (le_b rfl) (le_b rfl) ?_
    first | exact ⟨by rw [mvP, if_pos (by omega)], rfl, rfl⟩ | exact ⟨by rw [mvP, if_neg (by omega)], rfl, rfl⟩
  · refine qV_iload_n (pc := 5) 0 dX2_placeAfterPutting_5 rfl rfl ?_
    refine qV_goto (pc := 6) 12 dX2_placeAfterPutting_6 (by decide) ?_
    refine qV_iret (pc := 12) dX2_placeAfterPutting_12 rfl (le_b rfl) (le_b rfl) ?_
    first | exact ⟨by rw [mvP, if_pos (by omega)], rfl, rfl⟩ | exact ⟨by rw [mvP, if_neg (by omega)], rfl, rfl⟩
set_option maxRecDepth 100000 in
set_option maxHeartbeats 4000000 in
theorem take_marks {x k rd : Int} {n c : Nat} {T C mk : Nat → Int} (hx : 0 ≤ x ∧ x ≤ 5000) (hk : 0 ≤ k ∧ k ≤ 5000) (hrd : -9 ≤ rd ∧ rd ≤ 5000) (hmk : ∀ j, j < 26 → -9 ≤ mk j ∧ mk j ≤ 5000) : ∀ (m i : Nat) (q : Int) (h1 : qH), 26 - i = m → i ≤ 26 → q = i → h1 p = some (pob p rd) → Row h1 (p + 3) B n T → Row h1 (p + 5) B c C → Row h1 (p + 1) 26 26 (fun j => if j < i then mvT (mk j) x k else mk j) → Fr h h1 p (p + 7) → qVM l mX2_takesOut 0 0 h sz (fun v h' sz' => v = none ∧ Page h' p B (n, T, c, C, (fun j => mvT (mk j) x k), mvT rd x k) ∧ Fr h h' p (p + 7) ∧ sz' = sz) 0 0 h1 sz 27 [some (.ref p), some (vI x), some (vI k), some (vI q)] [] := by
  intro m
  induction m with
  | zero =>
    intro i q h1 hm hi hq ho hb hc hr hf
    obtain rfl : i = 26 := by omega
    refine qV_iload_n (pc := 27) 3 dX2_takesOut_27 rfl rfl ?_
    refine qV_bipush (pc := 28) dX2_takesOut_28 rfl ?_
    refine qV_icmp_ge (pc := 30) 60 dX2_takesOut_30 (by decide) ⟨by omega, by omega⟩ ⟨by omega, by omega⟩ (fun c30 => ?_) (fun c30 => ?_)
    · refine qV_aload_n (pc := 60) 0 dX2_takesOut_60 rfl rfl ?_
      refine qV_aload_n (pc := 61) 0 dX2_takesOut_61 rfl rfl ?_
      refine qV_get (pc := 62) kX2 3 (le_b rfl) lk_X2_33 rfl dX2_takesOut_62 (by first | assumption | exact hU_self _ _ _ | (refine (hU_ne (by omega)).trans ?_; first | assumption | exact hU_self _ _ _ | (refine (hU_ne (by omega)).trans ?_; first | assumption | exact hU_self _ _ _ | (refine (hU_ne (by omega)).trans ?_; first | assumption | exact hU_self _ _ _)))) (by exact rfl) ?_
      refine qV_iload_n (pc := 65) 1 dX2_takesOut_65 rfl rfl ?_
      refine qV_iload_n (pc := 66) 2 dX2_takesOut_66 rfl rfl ?_
      refine qV_rdS (pc := 67) (c_mvT hrd hx hk) nX2_placeAfterTaking lk_X2_58 dX2_takesOut_67 ⟨le_b rfl, le_b rfl⟩ ⟨le_b rfl, le_b rfl⟩ rfl (le_b rfl) ?_
      refine qV_put (pc := 70) kX2 3 (le_b rfl) lk_X2_33 rfl rfl rfl rfl dX2_takesOut_70 (by first | assumption | exact hU_self _ _ _ | (refine (hU_ne (by omega)).trans ?_; first | assumption | exact hU_self _ _ _ | (refine (hU_ne (by omega)).trans ?_; first | assumption | exact hU_self _ _ _ | (refine (hU_ne (by omega)).trans ?_; first | assumption | exact hU_self _ _ _)))) (by exact le_b rfl) ?_
      refine qV_vret (pc := 73) dX2_takesOut_73 rfl (le_b rfl) (le_b rfl) ?_
      have hf2 : Fr h1 (hU h1 p (pob p (mvT rd x k))) p (p + 1) := Fr.hU (by omega) (by omega)
      exact ⟨rfl, ⟨hU_self _ _ _, hb.fr hf2 (by omega), hc.fr hf2 (by omega), (hr.congr (fun j hj => if_pos hj)).fr hf2 (by omega)⟩, hf.trans (hf2.wide (by omega) (by omega)), rfl⟩
    · exfalso; omega
  | succ m ih =>
    intro i q h1 hm hi hq ho hb hc hr hf
    have hmi := hmk i (by omega)
    have e0 : (if i < i then mvT (mk i) x k else mk i) = mk i := if_neg (by omega)
    refine qV_iload_n (pc := 27) 3 dX2_takesOut_27 rfl rfl ?_
    refine qV_bipush (pc := 28) dX2_takesOut_28 rfl ?_
    refine qV_icmp_ge (pc := 30) 60 dX2_takesOut_30 (by decide) ⟨by omega, by omega⟩ ⟨by omega, by omega⟩ (fun c30 => ?_) (fun c30 => ?_)
    · exfalso; omega
    · refine qV_aload_n (pc := 33) 0 dX2_takesOut_33 rfl rfl ?_
      refine qV_get (pc := 34) kX2 2 (le_b rfl) lk_X2_14 rfl dX2_takesOut_34 (by first | assumption | exact hU_self _ _ _ | (refine (hU_ne (by omega)).trans ?_; first | assumption | exact hU_self _ _ _ | (refine (hU_ne (by omega)).trans ?_; first | assumption | exact hU_self _ _ _ | (refine (hU_ne (by omega)).trans ?_; first | assumption | exact hU_self _ _ _)))) (by exact rfl) ?_
      refine qV_iload_n (pc := 37) 3 dX2_takesOut_37 rfl rfl ?_
      refine qV_aload_n (pc := 38) 0 dX2_takesOut_38 rfl rfl ?_
      refine qV_get (pc := 39) kX2 2 (le_b rfl) lk_X2_14 rfl dX2_takesOut_39 (by first | assumption | exact hU_self _ _ _ | (refine (hU_ne (by omega)).trans ?_; first | assumption | exact hU_self _ _ _ | (refine (hU_ne (by omega)).trans ?_; first | assumption | exact hU_self _ _ _ | (refine (hU_ne (by omega)).trans ?_; first | assumption | exact hU_self _ _ _)))) (by exact rfl) ?_
      refine qV_iload_n (pc := 42) 3 dX2_takesOut_42 rfl rfl ?_
      refine qV_rdV (pc := 43) (c_gt hr hq (by omega)) nX3_get kX3 lk_X2_54 dX2_takesOut_43 hr.obj ⟨le_b rfl, le_b rfl⟩ ⟨le_b rfl, le_b rfl⟩ rfl (le_b rfl) ?_
      rw [e0]
      refine qV_iload_n (pc := 46) 1 dX2_takesOut_46 rfl rfl ?_
      refine qV_iload_n (pc := 47) 2 dX2_takesOut_47 rfl rfl ?_
      refine qV_rdS (pc := 48) (c_mvT hmi hx hk) nX2_placeAfterTaking lk_X2_58 dX2_takesOut_48 ⟨le_b rfl, le_b rfl⟩ ⟨le_b rfl, le_b rfl⟩ rfl (le_b rfl) ?_
      refine qV_voV (pc := 51) (c_set hr hq (by omega)) nX3_set kX3 lk_X2_62 dX2_takesOut_51 hr.obj ⟨le_b rfl, le_b rfl⟩ ⟨le_b rfl, le_b rfl⟩ rfl (le_b rfl) ?_
      rintro h2 _ ⟨hr2, hf2, rfl⟩
      refine qV_iinc (pc := 54) 3 dX2_takesOut_54 rfl (le_b rfl) (le_b rfl) rfl ?_
      refine qV_goto (pc := 57) 27 dX2_takesOut_57 (by decide) ?_
      refine ih (i + 1) _ h2 (by omega) (by omega) (by omega) ((hf2 p (by omega)).trans ho) (hb.fr hf2 (by omega)) (hc.fr hf2 (by omega)) (hr2.congr (fun j hj => ?_)) (hf.trans (hf2.wide (by omega) (by omega)))
      by_cases e : j = i
      · subst e; rw [va_up_self, if_pos (by omega)]
      · rw [va_up_ne _ _ e]
        by_cases e2 : j < i
        · rw [if_pos e2, if_pos (by omega)]
        · rw [if_neg e2, if_neg (by omega)]
set_option maxRecDepth 100000 in
set_option maxHeartbeats 4000000 in
theorem puts_marks {o : Nat} {x k rd : Int} {n c : Nat} {T C mk : Nat → Int} (hx : 0 ≤ x ∧ x ≤ 5000) (hk : 0 ≤ k ∧ k ≤ 5000) (hrd : -9 ≤ rd ∧ rd ≤ 5000) (hmk : ∀ j, j < 26 → -9 ≤ mk j ∧ mk j ≤ 5000) : ∀ (m i : Nat) (q : Int) (h1 : qH), 26 - i = m → i ≤ 26 → q = i → h1 p = some (pob p rd) → Row h1 (p + 3) B n T → Row h1 (p + 5) B c C → Row h1 (p + 1) 26 26 (fun j => if j < i then mvP (mk j) x k else mk j) → Fr h h1 p (p + 7) → qVM l mX2_putsIn 0 0 h sz (fun v h' sz' => v = none ∧ Page h' p B (n, T, c, C, (fun j => mvP (mk j) x k), mvP rd x k) ∧ Fr h h' p (p + 7) ∧ sz' = sz) 0 0 h1 sz 60 [some (.ref p), some (vI x), some (.ref o), some (vI k), some (vI q)] [] := by
  intro m
  induction m with
  | zero =>
    intro i q h1 hm hi hq ho hb hc hr hf
    obtain rfl : i = 26 := by omega
    refine qV_iload (pc := 60) 4 dX2_putsIn_60 rfl ?_
    refine qV_bipush (pc := 62) dX2_putsIn_62 rfl ?_
    refine qV_icmp_ge (pc := 64) 96 dX2_putsIn_64 (by decide) ⟨by omega, by omega⟩ ⟨by omega, by omega⟩ (fun c64 => ?_) (fun c64 => ?_)
    · refine qV_aload_n (pc := 96) 0 dX2_putsIn_96 rfl rfl ?_
      refine qV_aload_n (pc := 97) 0 dX2_putsIn_97 rfl rfl ?_
      refine qV_get (pc := 98) kX2 3 (le_b rfl) lk_X2_33 rfl dX2_putsIn_98 (by first | assumption | exact hU_self _ _ _ | (refine (hU_ne (by omega)).trans ?_; first | assumption | exact hU_self _ _ _ | (refine (hU_ne (by omega)).trans ?_; first | assumption | exact hU_self _ _ _ | (refine (hU_ne (by omega)).trans ?_; first | assumption | exact hU_self _ _ _)))) (by exact rfl) ?_
      refine qV_iload_n (pc := 101) 1 dX2_putsIn_101 rfl rfl ?_
      refine qV_iload_n (pc := 102) 3 dX2_putsIn_102 rfl rfl ?_
      refine qV_rdS (pc := 103) (c_mvP hrd hx hk) nX2_placeAfterPutting lk_X2_75 dX2_putsIn_103 ⟨le_b rfl, le_b rfl⟩ ⟨le_b rfl, le_b rfl⟩ rfl (le_b rfl) ?_
      refine qV_put (pc := 106) kX2 3 (le_b rfl) lk_X2_33 rfl rfl rfl rfl dX2_putsIn_106 (by first | assumption | exact hU_self _ _ _ | (refine (hU_ne (by omega)).trans ?_; first | assumption | exact hU_self _ _ _ | (refine (hU_ne (by omega)).trans ?_; first | assumption | exact hU_self _ _ _ | (refine (hU_ne (by omega)).trans ?_; first | assumption | exact hU_self _ _ _)))) (by exact le_b rfl) ?_
      refine qV_vret (pc := 109) dX2_putsIn_109 rfl (le_b rfl) (le_b rfl) ?_
      have hf2 : Fr h1 (hU h1 p (pob p (mvP rd x k))) p (p + 1) := Fr.hU (by omega) (by omega)
      exact ⟨rfl, ⟨hU_self _ _ _, hb.fr hf2 (by omega), hc.fr hf2 (by omega), (hr.congr (fun j hj => if_pos hj)).fr hf2 (by omega)⟩, hf.trans (hf2.wide (by omega) (by omega)), rfl⟩
    · exfalso; omega
  | succ m ih =>
    intro i q h1 hm hi hq ho hb hc hr hf
    have hmi := hmk i (by omega)
    have e0 : (if i < i then mvP (mk i) x k else mk i) = mk i := if_neg (by omega)
    refine qV_iload (pc := 60) 4 dX2_putsIn_60 rfl ?_
    refine qV_bipush (pc := 62) dX2_putsIn_62 rfl ?_
    refine qV_icmp_ge (pc := 64) 96 dX2_putsIn_64 (by decide) ⟨by omega, by omega⟩ ⟨by omega, by omega⟩ (fun c64 => ?_) (fun c64 => ?_)
    · exfalso; omega
    · refine qV_aload_n (pc := 67) 0 dX2_putsIn_67 rfl rfl ?_
      refine qV_get (pc := 68) kX2 2 (le_b rfl) lk_X2_14 rfl dX2_putsIn_68 (by first | assumption | exact hU_self _ _ _ | (refine (hU_ne (by omega)).trans ?_; first | assumption | exact hU_self _ _ _ | (refine (hU_ne (by omega)).trans ?_; first | assumption | exact hU_self _ _ _ | (refine (hU_ne (by omega)).trans ?_; first | assumption | exact hU_self _ _ _)))) (by exact rfl) ?_
      refine qV_iload (pc := 71) 4 dX2_putsIn_71 rfl ?_
      refine qV_aload_n (pc := 73) 0 dX2_putsIn_73 rfl rfl ?_
      refine qV_get (pc := 74) kX2 2 (le_b rfl) lk_X2_14 rfl dX2_putsIn_74 (by first | assumption | exact hU_self _ _ _ | (refine (hU_ne (by omega)).trans ?_; first | assumption | exact hU_self _ _ _ | (refine (hU_ne (by omega)).trans ?_; first | assumption | exact hU_self _ _ _ | (refine (hU_ne (by omega)).trans ?_; first | assumption | exact hU_self _ _ _)))) (by exact rfl) ?_
      refine qV_iload (pc := 77) 4 dX2_putsIn_77 rfl ?_
      refine qV_rdV (pc := 79) (c_gt hr hq (by omega)) nX3_get kX3 lk_X2_54 dX2_putsIn_79 hr.obj ⟨le_b rfl, le_b rfl⟩ ⟨le_b rfl, le_b rfl⟩ rfl (le_b rfl) ?_
      rw [e0]
      refine qV_iload_n (pc := 82) 1 dX2_putsIn_82 rfl rfl ?_
      refine qV_iload_n (pc := 83) 3 dX2_putsIn_83 rfl rfl ?_
      refine qV_rdS (pc := 84) (c_mvP hmi hx hk) nX2_placeAfterPutting lk_X2_75 dX2_putsIn_84 ⟨le_b rfl, le_b rfl⟩ ⟨le_b rfl, le_b rfl⟩ rfl (le_b rfl) ?_
      refine qV_voV (pc := 87) (c_set hr hq (by omega)) nX3_set kX3 lk_X2_62 dX2_putsIn_87 hr.obj ⟨le_b rfl, le_b rfl⟩ ⟨le_b rfl, le_b rfl⟩ rfl (le_b rfl) ?_
      rintro h2 _ ⟨hr2, hf2, rfl⟩
      refine qV_iinc (pc := 90) 4 dX2_putsIn_90 rfl (le_b rfl) (le_b rfl) rfl ?_
      refine qV_goto (pc := 93) 60 dX2_putsIn_93 (by decide) ?_
      refine ih (i + 1) _ h2 (by omega) (by omega) (by omega) ((hf2 p (by omega)).trans ho) (hb.fr hf2 (by omega)) (hc.fr hf2 (by omega)) (hr2.congr (fun j hj => ?_)) (hf.trans (hf2.wide (by omega) (by omega)))
      by_cases e : j = i
      · subst e; rw [va_up_self, if_pos (by omega)]
      · rw [va_up_ne _ _ e]
        by_cases e2 : j < i
        · rw [if_pos e2, if_pos (by omega)]
        · rw [if_neg e2, if_neg (by omega)]
set_option maxRecDepth 100000 in
set_option maxHeartbeats 4000000 in
theorem c_take {x q : Int} {i k : Nat} (hP : Page h p B P) (hw : wf B P) (hx : x = i) (hq : q = k) (hik : i + k ≤ P.1) : qVo l mX2_takesOut 0 0 [.ref p, vI x, vI q] h sz (fun h' sz' => Page h' p B (if k = 0 then P else takeP P i k) ∧ Fr h h' p (p + 7) ∧ sz' = sz) := by
  subst hx
  subst hq
  obtain ⟨ho, hb, hc, hm⟩ := hP
  have hle := hb.le
  obtain ⟨s1, s2⟩ := wf_sh hw hik
  obtain ⟨w1, w2, w3, w4, w5, w6, w7⟩ := id hw
  have hC : ∀ j, j < P.2.2.1 → 0 ≤ P.2.2.2.1 j := fun j hj => by have := w3 j hj; omega
  have hC1 : ∀ j, j < shN (stay P.2.2.2.1 i k) P.2.2.1 → 0 ≤ shF (stay P.2.2.2.1 i k) P.2.2.1 j := fun j hj => by have := s1 j hj; simp only [shG] at this; omega
  refine qC.of 1 (by decide) (le_b rfl) ?_
  refine qV_iload_n (pc := 0) 2 dX2_takesOut_0 rfl rfl ?_
  refine qV_ifgt (pc := 1) 5 dX2_takesOut_1 (by decide) ⟨by omega, by omega⟩ (fun c1 => ?_) (fun c1 => ?_)
  · refine qV_aload_n (pc := 5) 0 dX2_takesOut_5 rfl rfl ?_
    refine qV_get (pc := 6) kX2 0 (le_b rfl) lk_X2_20 rfl dX2_takesOut_6 (by first | assumption | exact hU_self _ _ _ | (refine (hU_ne (by omega)).trans ?_; first | assumption | exact hU_self _ _ _ | (refine (hU_ne (by omega)).trans ?_; first | assumption | exact hU_self _ _ _ | (refine (hU_ne (by omega)).trans ?_; first | assumption | exact hU_self _ _ _)))) (by exact rfl) ?_
    refine qV_iload_n (pc := 9) 1 dX2_takesOut_9 rfl rfl ?_
    refine qV_iload_n (pc := 10) 2 dX2_takesOut_10 rfl rfl ?_
    refine qV_voV (pc := 11) (c_closes (i := i) (k := k) hb rfl rfl hik) nX3_closes kX3 lk_X2_45 dX2_takesOut_11 hb.obj ⟨le_b rfl, le_b rfl⟩ ⟨le_b rfl, le_b rfl⟩ rfl (le_b rfl) ?_
    rintro h2 _ ⟨hb2, hf2, rfl⟩
    have ho2 := (hf2 p (by omega)).trans ho
    have hc2 := hc.fr hf2 (by omega)
    have hm2 := hm.fr hf2 (by omega)
    refine qV_aload_n (pc := 14) 0 dX2_takesOut_14 rfl rfl ?_
    refine qV_iload_n (pc := 15) 1 dX2_takesOut_15 rfl rfl ?_
    refine qV_iload_n (pc := 16) 2 dX2_takesOut_16 rfl rfl ?_
    refine qV_voV (pc := 17) (c_shrink ho2 hc2 ⟨by omega, by omega⟩ ⟨by omega, by omega⟩ hC (by omega)) nX2_shrinksChunks kX2 lk_X2_48 dX2_takesOut_17 (by first | assumption | exact hU_self _ _ _ | (refine (hU_ne (by omega)).trans ?_; first | assumption | exact hU_self _ _ _ | (refine (hU_ne (by omega)).trans ?_; first | assumption | exact hU_self _ _ _ | (refine (hU_ne (by omega)).trans ?_; first | assumption | exact hU_self _ _ _)))) ⟨le_b rfl, le_b rfl⟩ ⟨le_b rfl, le_b rfl⟩ rfl (le_b rfl) ?_
    rintro h3 _ ⟨hc3, hf3, rfl⟩
    have ho3 := (hf3 p (by omega)).trans ho2
    have hb3 := hb2.fr hf3 (by omega)
    have hm3 := hm2.fr hf3 (by omega)
    refine qV_aload_n (pc := 20) 0 dX2_takesOut_20 rfl rfl ?_
    refine qV_iload_n (pc := 21) 1 dX2_takesOut_21 rfl rfl ?_
    refine qV_voV (pc := 22) (c_join ho3 hc3 hC1 (by simp only [shG, shC] at s2; omega) ⟨by omega, by omega⟩ (fun _ => by simp only [shG, shC] at s2; omega)) nX2_joinsChunks kX2 lk_X2_51 dX2_takesOut_22 (by first | assumption | exact hU_self _ _ _ | (refine (hU_ne (by omega)).trans ?_; first | assumption | exact hU_self _ _ _ | (refine (hU_ne (by omega)).trans ?_; first | assumption | exact hU_self _ _ _ | (refine (hU_ne (by omega)).trans ?_; first | assumption | exact hU_self _ _ _)))) ⟨le_b rfl, le_b rfl⟩ ⟨le_b rfl, le_b rfl⟩ rfl (le_b rfl) ?_
    rintro h4 _ ⟨hc4, hf4, rfl⟩
    have ho4 := (hf4 p (by omega)).trans ho3
    have hb4 := hb3.fr hf4 (by omega)
    have hm4 := hm3.fr hf4 (by omega)
    refine qV_iconst (pc := 25) dX2_takesOut_25 ?_
    refine qV_istore_n (pc := 26) 3 dX2_takesOut_26 rfl (le_b rfl) (le_b rfl) rfl ?_
    have hk0 : ¬ k = 0 := by omega
    rw [if_neg hk0]
    exact take_marks ⟨by omega, by omega⟩ ⟨by omega, by omega⟩ ⟨by omega, by omega⟩ (fun j hj => by have := w5 j hj; omega) 26 0 _ h4 (by omega) (by omega) rfl ho4 hb4 hc4 (hm4.congr (fun j hj => (if_neg (by omega)).symm)) (((hf2.wide (by omega) (by omega)).trans (hf3.wide (by omega) (by omega))).trans (hf4.wide (by omega) (by omega)))
  · refine qV_vret (pc := 4) dX2_takesOut_4 rfl (le_b rfl) (le_b rfl) ?_
    have hk0 : k = 0 := by omega
    rw [if_pos hk0]
    exact ⟨rfl, ⟨ho, hb, hc, hm⟩, Fr.rf, rfl⟩
set_option maxRecDepth 100000 in
set_option maxHeartbeats 4000000 in
theorem puts_rest {i m o : Nat} {W : Nat → Int} (hw : wf B P) (hi : i ≤ P.1) (hm0 : 0 < m) (hm : m ≤ 24) (hB : P.1 + m ≤ B) (hB2 : B ≤ 5000) {h1 : qH} {x4 : Int} (ho : h1 p = some (pob p P.2.2.2.2.2)) (hb : Row h1 (p + 3) B (P.1 + m) (fun j => if j < i then P.2.1 j else if j < i + m then W (j - i) else P.2.1 (j - m))) (hc : Row h1 (p + 5) B P.2.2.1 P.2.2.2.1) (hmk : Row h1 (p + 1) 26 26 P.2.2.2.2.1) (hf : Fr h h1 p (p + 7)) : qVM l mX2_putsIn 0 0 h sz (fun v h' sz' => v = none ∧ Page h' p B (putP P i m W) ∧ Fr h h' p (p + 7) ∧ sz' = sz) 0 0 h1 sz 51 [some (.ref p), some (vI i), some (.ref o), some (vI m), some (vI x4)] [] := by
  obtain ⟨g1, g2, g3, g4, g5, g6⟩ := wf_g hw hi
  obtain ⟨s1, s2, s3⟩ := gP_ok hw hi hm0 hm
  have hcap : gC P + gP P i m - 1 ≤ P.1 + m := by
    have e1 := gw_sum (C := gG P) g4.1 s1 s2 s3
    have e2 := csum_ge (fun j hj => (gw_in g5 g4.1 s1 s2 s3 j hj).1)
    rw [e1, g2] at e2
    have : gS P i m = gG P (gK P i) + m := rfl
    omega
  obtain ⟨w1, w2, w3, w4, w5, w6, w7⟩ := id hw
  refine qV_aload_n (pc := 51) 0 dX2_putsIn_51 rfl rfl ?_
  refine qV_iload_n (pc := 52) 1 dX2_putsIn_52 rfl rfl ?_
  refine qV_iload_n (pc := 53) 3 dX2_putsIn_53 rfl rfl ?_
  refine qV_voV (pc := 54) (c_grow (z := gC P) (Z := gG P) (parts := gP P i m) ho hc rfl rfl g1 (by omega) ⟨by omega, by omega⟩ (by omega) ⟨hm0, hm⟩ s3 (by omega) (by omega)) nX2_growsChunk kX2 lk_X2_72 dX2_putsIn_54 (by first | assumption | exact hU_self _ _ _ | (refine (hU_ne (by omega)).trans ?_; first | assumption | exact hU_self _ _ _ | (refine (hU_ne (by omega)).trans ?_; first | assumption | exact hU_self _ _ _ | (refine (hU_ne (by omega)).trans ?_; first | assumption | exact hU_self _ _ _)))) ⟨le_b rfl, le_b rfl⟩ ⟨le_b rfl, le_b rfl⟩ rfl (le_b rfl) ?_
  rintro h2 _ ⟨hc2, hf2, rfl⟩
  refine qV_iconst (pc := 57) dX2_putsIn_57 ?_
  refine qV_istore (pc := 58) 4 dX2_putsIn_58 (le_b rfl) (le_b rfl) rfl ?_
  exact puts_marks ⟨by omega, by omega⟩ ⟨by omega, by omega⟩ ⟨by omega, by omega⟩ (fun j hj => by have := w5 j hj; omega) 26 0 _ h2 (by omega) (by omega) rfl ((hf2 p (by omega)).trans ho) (hb.fr hf2 (by omega)) hc2 ((hmk.fr hf2 (by omega)).congr (fun j hj => (if_neg (by omega)).symm)) (hf.trans (hf2.wide (by omega) (by omega)))
set_option maxRecDepth 100000 in
set_option maxHeartbeats 4000000 in
theorem puts_bytes {i m o No : Nat} {W : Nat → Int} (hw : wf B P) (hi : i ≤ P.1) (hm0 : 0 < m) (hm : m ≤ 24) (hB : P.1 + m ≤ B) (hB2 : B ≤ 5000) (hd : p + 7 ≤ o ∨ o + 2 ≤ p) : ∀ (d t : Nat) (q : Int) (h1 : qH) (R : Nat → Int), m - t = d → t ≤ m → q = t → h1 p = some (pob p P.2.2.2.2.2) → Row h1 (p + 3) B (P.1 + m) R → (∀ j, j < i → R j = P.2.1 j) → (∀ j, i + m ≤ j → j < P.1 + m → R j = P.2.1 (j - m)) → (∀ j, j < t → R (i + j) = W j) → Row h1 (p + 5) B P.2.2.1 P.2.2.2.1 → Row h1 (p + 1) 26 26 P.2.2.2.2.1 → Row h1 o No m W → Fr h h1 p (p + 7) → qVM l mX2_putsIn 0 0 h sz (fun v h' sz' => v = none ∧ Page h' p B (putP P i m W) ∧ Fr h h' p (p + 7) ∧ sz' = sz) 0 0 h1 sz 22 [some (.ref p), some (vI i), some (.ref o), some (vI m), some (vI q)] [] := by
  intro d
  induction d with
  | zero =>
    intro t q h1 R hd2 ht hq ho hb r1 r2 r3 hc hmk hW hf
    obtain rfl : t = m := by omega
    refine qV_iload (pc := 22) 4 dX2_putsIn_22 rfl ?_
    refine qV_iload_n (pc := 24) 3 dX2_putsIn_24 rfl rfl ?_
    refine qV_icmp_ge (pc := 25) 51 dX2_putsIn_25 (by decide) ⟨by omega, by omega⟩ ⟨by omega, by omega⟩ (fun c25 => ?_) (fun c25 => ?_)
    · exact puts_rest hw hi hm0 hm hB hB2 ho (hb.congr (fun j hj => by
        by_cases e : j < i
        · rw [if_pos e]; exact r1 j e
        · rw [if_neg e]
          by_cases e2 : j < i + t
          · rw [if_pos e2]
            have := r3 (j - i) (by omega)
            rw [show i + (j - i) = j by omega] at this
            exact this
          · rw [if_neg e2]; exact r2 j (by omega) hj)) hc hmk hf
    · exfalso; omega
  | succ d ih =>
    intro t q h1 R hd2 ht hq ho hb r1 r2 r3 hc hmk hW hf
    refine qV_iload (pc := 22) 4 dX2_putsIn_22 rfl ?_
    refine qV_iload_n (pc := 24) 3 dX2_putsIn_24 rfl rfl ?_
    refine qV_icmp_ge (pc := 25) 51 dX2_putsIn_25 (by decide) ⟨by omega, by omega⟩ ⟨by omega, by omega⟩ (fun c25 => ?_) (fun c25 => ?_)
    · exfalso; omega
    · refine qV_aload_n (pc := 28) 0 dX2_putsIn_28 rfl rfl ?_
      refine qV_get (pc := 29) kX2 0 (le_b rfl) lk_X2_20 rfl dX2_putsIn_29 (by first | assumption | exact hU_self _ _ _ | (refine (hU_ne (by omega)).trans ?_; first | assumption | exact hU_self _ _ _ | (refine (hU_ne (by omega)).trans ?_; first | assumption | exact hU_self _ _ _ | (refine (hU_ne (by omega)).trans ?_; first | assumption | exact hU_self _ _ _)))) (by exact rfl) ?_
      refine qV_iload_n (pc := 32) 1 dX2_putsIn_32 rfl rfl ?_
      refine qV_iload (pc := 33) 4 dX2_putsIn_33 rfl ?_
      refine qV_iadd (pc := 35) dX2_putsIn_35 ?_
      refine qV_aload_n (pc := 36) 2 dX2_putsIn_36 rfl rfl ?_
      refine qV_iload (pc := 37) 4 dX2_putsIn_37 rfl ?_
      refine qV_rdV (pc := 39) (c_gt hW hq (by omega)) nX3_get kX3 lk_X2_54 dX2_putsIn_39 hW.obj ⟨le_b rfl, le_b rfl⟩ ⟨le_b rfl, le_b rfl⟩ rfl (le_b rfl) ?_
      refine qV_voV (pc := 42) (c_set hb (i := i + t) (by omega) (by omega)) nX3_set kX3 lk_X2_62 dX2_putsIn_42 hb.obj ⟨le_b rfl, le_b rfl⟩ ⟨le_b rfl, le_b rfl⟩ rfl (le_b rfl) ?_
      rintro h2 _ ⟨hb2, hf2, rfl⟩
      refine qV_iinc (pc := 45) 4 dX2_putsIn_45 rfl (le_b rfl) (le_b rfl) rfl ?_
      refine qV_goto (pc := 48) 22 dX2_putsIn_48 (by decide) ?_
      refine ih (t + 1) _ h2 _ (by omega) (by omega) (by omega) ((hf2 p (by omega)).trans ho) hb2 (fun j hj => ?_) (fun j hj hj2 => ?_) (fun j hj => ?_) (hc.fr hf2 (by omega)) (hmk.fr hf2 (by omega)) (hW.fr hf2 (by omega)) (hf.trans (hf2.wide (by omega) (by omega)))
      · rw [va_up_ne _ _ (by omega)]; exact r1 j hj
      · rw [va_up_ne _ _ (by omega)]; exact r2 j hj hj2
      · by_cases e : j = t
        · subst e; rw [va_up_self]
        · rw [va_up_ne _ _ (by omega)]; exact r3 j (by omega)
set_option maxRecDepth 100000 in
set_option maxHeartbeats 4000000 in
theorem c_puts {x : Int} {i m o No : Nat} {W : Nat → Int} (hP : Page h p B P) (hw : wf B P) (hx : x = i) (hi : i ≤ P.1) (hm : m ≤ 24) (hB : P.1 + m ≤ B) (hW : Row h o No m W) (hd : p + 7 ≤ o ∨ o + 2 ≤ p) : qVo l mX2_putsIn 0 0 [.ref p, vI x, .ref o] h sz (fun h' sz' => Page h' p B (if m = 0 then P else putP P i m W) ∧ Fr h h' p (p + 7) ∧ sz' = sz) := by
  subst hx
  obtain ⟨ho, hb, hc, hmk⟩ := hP
  have hle := hb.le
  have hle2 := hW.le
  refine qC.of 2 (by decide) (le_b rfl) ?_
  refine qV_aload_n (pc := 0) 2 dX2_putsIn_0 rfl rfl ?_
  refine qV_rdV (pc := 1) (c_size hW) nX3_size kX3 lk_X2_65 dX2_putsIn_1 hW.obj ⟨le_b rfl, le_b rfl⟩ ⟨le_b rfl, le_b rfl⟩ rfl (le_b rfl) ?_
  refine qV_istore_n (pc := 4) 3 dX2_putsIn_4 rfl (le_b rfl) (le_b rfl) rfl ?_
  refine qV_iload_n (pc := 5) 3 dX2_putsIn_5 rfl rfl ?_
  refine qV_ifne (pc := 6) 10 dX2_putsIn_6 (by decide) ⟨by omega, by omega⟩ (fun c6 => ?_) (fun c6 => ?_)
  · refine qV_aload_n (pc := 10) 0 dX2_putsIn_10 rfl rfl ?_
    refine qV_get (pc := 11) kX2 0 (le_b rfl) lk_X2_20 rfl dX2_putsIn_11 (by first | assumption | exact hU_self _ _ _ | (refine (hU_ne (by omega)).trans ?_; first | assumption | exact hU_self _ _ _ | (refine (hU_ne (by omega)).trans ?_; first | assumption | exact hU_self _ _ _ | (refine (hU_ne (by omega)).trans ?_; first | assumption | exact hU_self _ _ _)))) (by exact rfl) ?_
    refine qV_iload_n (pc := 14) 1 dX2_putsIn_14 rfl rfl ?_
    refine qV_iload_n (pc := 15) 3 dX2_putsIn_15 rfl rfl ?_
    refine qV_voV (pc := 16) (c_opens (i := i) (k := m) hb rfl rfl hi hB) nX3_opens kX3 lk_X2_69 dX2_putsIn_16 hb.obj ⟨le_b rfl, le_b rfl⟩ ⟨le_b rfl, le_b rfl⟩ rfl (le_b rfl) ?_
    rintro h2 _ ⟨⟨T2, hb2, t1, t2⟩, hf2, rfl⟩
    refine qV_iconst (pc := 19) dX2_putsIn_19 ?_
    refine qV_istore (pc := 20) 4 dX2_putsIn_20 (le_b rfl) (le_b rfl) rfl ?_
    rw [if_neg (by omega : ¬ m = 0)]
    exact puts_bytes hw hi (by omega) hm hB (by omega) hd m 0 _ h2 T2 (by omega) (by omega) rfl ((hf2 p (by omega)).trans ho) hb2 t1 (fun j hj hj2 => by
      have := t2 (j - m) (by omega) (by omega)
      rw [show j - m + m = j by omega] at this
      exact this) (fun j hj => by omega) (hc.fr hf2 (by omega)) (hmk.fr hf2 (by omega)) (hW.fr hf2 (by omega)) (hf2.wide (by omega) (by omega))
  · refine qV_vret (pc := 9) dX2_putsIn_9 rfl (le_b rfl) (le_b rfl) ?_
    rw [if_pos (by omega : m = 0)]
    exact ⟨rfl, ⟨ho, hb, hc, hmk⟩, Fr.rf, rfl⟩
theorem edP_eq (P : PG) (p k m : Nat) (W : Nat → Int) : (if m = 0 then (if k = 0 then P else takeP P p k) else putP (if k = 0 then P else takeP P p k) p m W) = edP P p k m W := rfl
theorem take_n {P : PG} {p k : Nat} : (if k = 0 then P else takeP P p k).1 = P.1 - k := by
  by_cases e : k = 0
  · rw [if_pos e]; omega
  · rw [if_neg e]; rfl
theorem wf_take0 {B : Nat} {P : PG} (h : wf B P) {p k : Nat} (hp : p + k ≤ P.1) : wf B (if k = 0 then P else takeP P p k) := by
  by_cases e : k = 0
  · rw [if_pos e]; exact h
  · rw [if_neg e]; exact wf_take h hp
theorem ed_n {P : PG} {p k m : Nat} {W : Nat → Int} : (edP P p k m W).1 = P.1 - k + m := by
  simp only [edP]
  by_cases e : m = 0
  · rw [if_pos e, take_n]; omega
  · rw [if_neg e]
    show (if k = 0 then P else takeP P p k).1 + m = _
    rw [take_n]
theorem wf_ed {B B' : Nat} {P : PG} {W : Nat → Int} (h : wf B P) {p k m : Nat} (hp : p + k ≤ P.1) (hm : m ≤ 24) (hW : ∀ j, j < m → 0 ≤ W j ∧ W j ≤ 255) (hB : P.1 - k + m ≤ B') : wf B' (edP P p k m W) := by
  have h1 := wf_take0 h hp
  have h2 := take_n (P := P) (p := p) (k := k)
  simp only [edP]
  by_cases e : m = 0
  · rw [if_pos e]; exact h1.up (by omega)
  · rw [if_neg e]
    exact wf_put h1 (by omega) (by omega) hm hW (by omega)
set_option maxRecDepth 100000 in
set_option maxHeartbeats 4000000 in
theorem c_replaces {x q : Int} {i k m o No : Nat} {W : Nat → Int} (hP : Page h p B P) (hw : wf B P) (hx : x = i) (hq : q = k) (hik : i + k ≤ P.1) (hm : m ≤ 24) (hB : P.1 - k + m ≤ B) (hW : Row h o No m W) (hd : p + 7 ≤ o ∨ o + 2 ≤ p) : qVo l mX2_replaces 0 0 [.ref p, vI x, vI q, .ref o] h sz (fun h' sz' => Page h' p B (edP P i k m W) ∧ Fr h h' p (p + 7) ∧ sz' = sz) := by
  have hn := take_n (P := P) (p := i) (k := k)
  have hob := hP.1
  refine qC.of 0 (by decide) (le_b rfl) ?_
  refine qV_aload_n (pc := 0) 0 dX2_replaces_0 rfl rfl ?_
  refine qV_iload_n (pc := 1) 1 dX2_replaces_1 rfl rfl ?_
  refine qV_iload_n (pc := 2) 2 dX2_replaces_2 rfl rfl ?_
  refine qV_voV (pc := 3) (c_take hP hw hx hq hik) nX2_takesOut kX2 lk_X2_37 dX2_replaces_3 (by first | assumption | exact hU_self _ _ _ | (refine (hU_ne (by omega)).trans ?_; first | assumption | exact hU_self _ _ _ | (refine (hU_ne (by omega)).trans ?_; first | assumption | exact hU_self _ _ _ | (refine (hU_ne (by omega)).trans ?_; first | assumption | exact hU_self _ _ _)))) ⟨le_b rfl, le_b rfl⟩ ⟨le_b rfl, le_b rfl⟩ rfl (le_b rfl) ?_
  rintro h2 _ ⟨hP2, hf2, rfl⟩
  have hob2 := hP2.1
  refine qV_aload_n (pc := 6) 0 dX2_replaces_6 rfl rfl ?_
  refine qV_iload_n (pc := 7) 1 dX2_replaces_7 rfl rfl ?_
  refine qV_aload_n (pc := 8) 3 dX2_replaces_8 rfl rfl ?_
  refine qV_voV (pc := 9) (c_puts hP2 (wf_take0 hw hik) hx (by omega) hm (by omega) (hW.fr hf2 (by omega)) hd) nX2_putsIn kX2 lk_X2_41 dX2_replaces_9 (by first | assumption | exact hU_self _ _ _ | (refine (hU_ne (by omega)).trans ?_; first | assumption | exact hU_self _ _ _ | (refine (hU_ne (by omega)).trans ?_; first | assumption | exact hU_self _ _ _ | (refine (hU_ne (by omega)).trans ?_; first | assumption | exact hU_self _ _ _)))) ⟨le_b rfl, le_b rfl⟩ ⟨le_b rfl, le_b rfl⟩ rfl (le_b rfl) ?_
  rintro h3 _ ⟨hP3, hf3, rfl⟩
  refine qV_vret (pc := 12) dX2_replaces_12 rfl (le_b rfl) (le_b rfl) ?_
  exact ⟨rfl, hP3, hf2.trans hf3, rfl⟩
set_option maxRecDepth 100000 in
set_option maxHeartbeats 4000000 in
theorem c_becomes {o B' : Nat} {P' : PG} (hP : Page h p B P) (hO : Page h o B' P') (hn : P'.1 ≤ B) (hc : P'.2.2.1 ≤ B) (hd : p + 7 ≤ o ∨ o + 7 ≤ p) : qVo l mX2_becomes 0 0 [.ref p, .ref o] h sz (fun h' sz' => Page h' p B P' ∧ Fr h h' p (p + 7) ∧ sz' = sz) := by
  obtain ⟨p1, p2, p3, p4⟩ := hP
  obtain ⟨o1, o2, o3, o4⟩ := hO
  refine qC.of 0 (by decide) (le_b rfl) ?_
  refine qV_aload_n (pc := 0) 0 dX2_becomes_0 rfl rfl ?_
  refine qV_get (pc := 1) kX2 0 (le_b rfl) lk_X2_20 rfl dX2_becomes_1 (by first | assumption | exact hU_self _ _ _ | (refine (hU_ne (by omega)).trans ?_; first | assumption | exact hU_self _ _ _ | (refine (hU_ne (by omega)).trans ?_; first | assumption | exact hU_self _ _ _ | (refine (hU_ne (by omega)).trans ?_; first | assumption | exact hU_self _ _ _)))) (by exact rfl) ?_
  refine qV_aload_n (pc := 4) 1 dX2_becomes_4 rfl rfl ?_
  refine qV_get (pc := 5) kX2 0 (le_b rfl) lk_X2_20 rfl dX2_becomes_5 (by first | assumption | exact hU_self _ _ _ | (refine (hU_ne (by omega)).trans ?_; first | assumption | exact hU_self _ _ _ | (refine (hU_ne (by omega)).trans ?_; first | assumption | exact hU_self _ _ _ | (refine (hU_ne (by omega)).trans ?_; first | assumption | exact hU_self _ _ _)))) (by exact rfl) ?_
  refine qV_voV (pc := 8) (c_copies p2 o2 (by omega) hn) nX3_copies kX3 lk_X2_29 dX2_becomes_8 p2.obj ⟨le_b rfl, le_b rfl⟩ ⟨le_b rfl, le_b rfl⟩ rfl (le_b rfl) ?_
  rintro h2 _ ⟨q2, f2, rfl⟩
  have p1 := (f2 p (by omega)).trans p1
  have p3 := p3.fr f2 (by omega)
  have p4 := p4.fr f2 (by omega)
  have o1 := (f2 o (by omega)).trans o1
  have o3 := o3.fr f2 (by omega)
  have o4 := o4.fr f2 (by omega)
  refine qV_aload_n (pc := 11) 0 dX2_becomes_11 rfl rfl ?_
  refine qV_get (pc := 12) kX2 1 (le_b rfl) lk_X2_23 rfl dX2_becomes_12 (by first | assumption | exact hU_self _ _ _ | (refine (hU_ne (by omega)).trans ?_; first | assumption | exact hU_self _ _ _ | (refine (hU_ne (by omega)).trans ?_; first | assumption | exact hU_self _ _ _ | (refine (hU_ne (by omega)).trans ?_; first | assumption | exact hU_self _ _ _)))) (by exact rfl) ?_
  refine qV_aload_n (pc := 15) 1 dX2_becomes_15 rfl rfl ?_
  refine qV_get (pc := 16) kX2 1 (le_b rfl) lk_X2_23 rfl dX2_becomes_16 (by first | assumption | exact hU_self _ _ _ | (refine (hU_ne (by omega)).trans ?_; first | assumption | exact hU_self _ _ _ | (refine (hU_ne (by omega)).trans ?_; first | assumption | exact hU_self _ _ _ | (refine (hU_ne (by omega)).trans ?_; first | assumption | exact hU_self _ _ _)))) (by exact rfl) ?_
  refine qV_voV (pc := 19) (c_copies p3 o3 (by omega) hc) nX3_copies kX3 lk_X2_29 dX2_becomes_19 p3.obj ⟨le_b rfl, le_b rfl⟩ ⟨le_b rfl, le_b rfl⟩ rfl (le_b rfl) ?_
  rintro h3 _ ⟨q3, f3, rfl⟩
  have p1 := (f3 p (by omega)).trans p1
  have q2 := q2.fr f3 (by omega)
  have p4 := p4.fr f3 (by omega)
  have o1 := (f3 o (by omega)).trans o1
  have o4 := o4.fr f3 (by omega)
  refine qV_aload_n (pc := 22) 0 dX2_becomes_22 rfl rfl ?_
  refine qV_get (pc := 23) kX2 2 (le_b rfl) lk_X2_14 rfl dX2_becomes_23 (by first | assumption | exact hU_self _ _ _ | (refine (hU_ne (by omega)).trans ?_; first | assumption | exact hU_self _ _ _ | (refine (hU_ne (by omega)).trans ?_; first | assumption | exact hU_self _ _ _ | (refine (hU_ne (by omega)).trans ?_; first | assumption | exact hU_self _ _ _)))) (by exact rfl) ?_
  refine qV_aload_n (pc := 26) 1 dX2_becomes_26 rfl rfl ?_
  refine qV_get (pc := 27) kX2 2 (le_b rfl) lk_X2_14 rfl dX2_becomes_27 (by first | assumption | exact hU_self _ _ _ | (refine (hU_ne (by omega)).trans ?_; first | assumption | exact hU_self _ _ _ | (refine (hU_ne (by omega)).trans ?_; first | assumption | exact hU_self _ _ _ | (refine (hU_ne (by omega)).trans ?_; first | assumption | exact hU_self _ _ _)))) (by exact rfl) ?_
  refine qV_voV (pc := 30) (c_copies p4 o4 (by omega) (by omega)) nX3_copies kX3 lk_X2_29 dX2_becomes_30 p4.obj ⟨le_b rfl, le_b rfl⟩ ⟨le_b rfl, le_b rfl⟩ rfl (le_b rfl) ?_
  rintro h4 _ ⟨q4, f4, rfl⟩
  have p1 := (f4 p (by omega)).trans p1
  have q2 := q2.fr f4 (by omega)
  have q3 := q3.fr f4 (by omega)
  have o1 := (f4 o (by omega)).trans o1
  refine qV_aload_n (pc := 33) 0 dX2_becomes_33 rfl rfl ?_
  refine qV_aload_n (pc := 34) 1 dX2_becomes_34 rfl rfl ?_
  refine qV_get (pc := 35) kX2 3 (le_b rfl) lk_X2_33 rfl dX2_becomes_35 (by first | assumption | exact hU_self _ _ _ | (refine (hU_ne (by omega)).trans ?_; first | assumption | exact hU_self _ _ _ | (refine (hU_ne (by omega)).trans ?_; first | assumption | exact hU_self _ _ _ | (refine (hU_ne (by omega)).trans ?_; first | assumption | exact hU_self _ _ _)))) (by exact rfl) ?_
  refine qV_put (pc := 38) kX2 3 (le_b rfl) lk_X2_33 rfl rfl rfl rfl dX2_becomes_38 (by first | assumption | exact hU_self _ _ _ | (refine (hU_ne (by omega)).trans ?_; first | assumption | exact hU_self _ _ _ | (refine (hU_ne (by omega)).trans ?_; first | assumption | exact hU_self _ _ _ | (refine (hU_ne (by omega)).trans ?_; first | assumption | exact hU_self _ _ _)))) (by exact le_b rfl) ?_
  refine qV_vret (pc := 41) dX2_becomes_41 rfl (le_b rfl) (le_b rfl) ?_
  have f5 : Fr h4 (hU h4 p (pob p P'.2.2.2.2.2)) p (p + 1) := Fr.hU (by omega) (by omega)
  exact ⟨rfl, ⟨hU_self _ _ _, q2.fr f5 (by omega), q3.fr f5 (by omega), q4.fr f5 (by omega)⟩, (((f2.wide (by omega) (by omega)).trans (f3.wide (by omega) (by omega))).trans (f4.wide (by omega) (by omega))).trans (f5.wide (by omega) (by omega)), rfl⟩
end PAGE
end
section
/-! ===== Page: a new one, what is asked of it ===== -/
section PAGE2
variable {l : Launch} {h : qH} {sz p B : Nat} {P : PG}
theorem fs2 : ∀ j, j < 2 → defaultValue (tyX3 j) = vp_V [.null, vI 0] j := by intro j hj; rcases (show j = 0 ∨ j = 1 by omega) with rfl | rfl <;> rfl
set_option maxRecDepth 100000 in
set_option maxHeartbeats 4000000 in
theorem init_loop {k n : Nat} {x : Int} (hk : k ≤ 6) (hn : n ≤ 32 + 2 * B) : ∀ (m i : Nat) (q : Int) (h1 : qH), 26 - i = m → i ≤ 26 → q = i → h1 p = some (pob p 0) → Row h1 (p + 3) B 0 (fun _ => 0) → Row h1 (p + 5) B 0 (fun _ => 0) → Row h1 (p + 1) 26 i (fun _ => -9) → Fr h h1 p (p + 7) → qVM l mX2_init 6 (32 + 2 * B) h sz (fun v h' sz' => v = none ∧ Page h' p B (0, (fun _ => 0), 0, (fun _ => 0), (fun _ => -9), 0) ∧ Fr h h' p (p + 7) ∧ sz' = p + 7) k n h1 (p + 7) 43 [some (.ref p), some (vI x), some (vI q)] [] := by
  intro m
  induction m with
  | zero =>
    intro i q h1 hm hi hq ho hb hc hr hf
    obtain rfl : i = 26 := by omega
    refine qV_iload_n (pc := 43) 2 dX2_init_43 rfl rfl ?_
    refine qV_bipush (pc := 44) dX2_init_44 rfl ?_
    refine qV_icmp_ge (pc := 46) 64 dX2_init_46 (by decide) ⟨by omega, by omega⟩ ⟨by omega, by omega⟩ (fun c46 => ?_) (fun c46 => ?_)
    · refine qV_vret (pc := 64) dX2_init_64 rfl hk hn ?_
      exact ⟨rfl, ⟨ho, hb, hc, hr⟩, hf, rfl⟩
    · exfalso; omega
  | succ m ih =>
    intro i q h1 hm hi hq ho hb hc hr hf
    refine qV_iload_n (pc := 43) 2 dX2_init_43 rfl rfl ?_
    refine qV_bipush (pc := 44) dX2_init_44 rfl ?_
    refine qV_icmp_ge (pc := 46) 64 dX2_init_46 (by decide) ⟨by omega, by omega⟩ ⟨by omega, by omega⟩ (fun c46 => ?_) (fun c46 => ?_)
    · exfalso; omega
    · refine qV_aload_n (pc := 49) 0 dX2_init_49 rfl rfl ?_
      refine qV_get (pc := 50) kX2 2 (le_b rfl) lk_X2_14 rfl dX2_init_50 (by first | assumption | exact hU_self _ _ _ | (refine (hU_ne (by omega)).trans ?_; first | assumption | exact hU_self _ _ _ | (refine (hU_ne (by omega)).trans ?_; first | assumption | exact hU_self _ _ _ | (refine (hU_ne (by omega)).trans ?_; first | assumption | exact hU_self _ _ _)))) (by exact rfl) ?_
      refine qV_bipush (pc := 53) dX2_init_53 rfl ?_
      refine qV_voV (pc := 55) (c_add hr (by omega)) nX3_add kX3 lk_X2_26 dX2_init_55 hr.obj ⟨le_b rfl, le_b rfl⟩ ⟨hk, hn⟩ rfl (le_b rfl) ?_
      rintro h2 _ ⟨hr2, hf2, rfl⟩
      refine qV_iinc (pc := 58) 2 dX2_init_58 rfl (le_b rfl) (le_b rfl) rfl ?_
      refine qV_goto (pc := 61) 43 dX2_init_61 (by decide) ?_
      exact ih (i + 1) _ h2 (by omega) (by omega) (by omega) ((hf2 p (by omega)).trans ho) (hb.fr hf2 (by omega)) (hc.fr hf2 (by omega)) (hr2.congr (fun j hj => by
        by_cases e : j = i
        · subst e; rw [va_up_self]
        · rw [va_up_ne _ _ e])) (hf.trans (hf2.wide (by omega) (by omega)))
set_option maxRecDepth 100000 in
set_option maxHeartbeats 4000000 in
theorem c_Page_init {q : Int} (hq : q = B) (hB : B ≤ 5000) (h1 : h p = some (oB 2 [.null, .null, .null, vI 0])) (hs : sz = p + 1) : qVo l mX2_init 6 (32 + 2 * B) [.ref p, vI q] h sz (fun h' sz' => Page h' p B (0, (fun _ => 0), 0, (fun _ => 0), (fun _ => -9), 0) ∧ Fr h h' p (p + 7) ∧ sz' = p + 7) := by
  subst hs
  refine qC.of 1 (by decide) (le_b rfl) ?_
  refine qV_aload_n (pc := 0) 0 dX2_init_0 rfl rfl ?_
  refine qV_objinit (pc := 1) lk_X2_3 dX2_init_1 (le_b rfl) (le_b rfl) ?_
  refine qV_aload_n (pc := 4) 0 dX2_init_4 rfl rfl ?_
  refine qV_new (pc := 5) [.null, vI 0] kX3 lk_X2_9 wb_X3 wn_X3 fs2 dX2_init_5 (le_b rfl) (by show _ ≤ 32 + 2 * B; omega) ?_
  refine qV_dup (pc := 8) dX2_init_8 rfl ?_
  refine qV_bipush (pc := 9) dX2_init_9 rfl ?_
  refine qV_voI (pc := 11) (c_Row_init (r := p + 1) (N := 26) (fun _ => -9) rfl (by omega) (hU_self _ _ _) rfl) nX3_init lk_X2_11 dX2_init_11 ⟨le_b rfl, le_b rfl⟩ ⟨le_b rfl, by show _ ≤ 32 + 2 * B; omega⟩ rfl (le_b rfl) ?_
  rintro h2 _ ⟨r2, f2, rfl⟩
  have o2 : h2 p = some (oB 2 [.null, .null, .null, vI 0]) := (f2 p (by omega)).trans ((hU_ne (by omega)).trans h1)
  refine qV_putF (pc := 14) kX2 2 (le_b rfl) lk_X2_14 rfl rfl rfl rfl rfl rfl dX2_init_14 (by first | assumption | exact hU_self _ _ _ | (refine (hU_ne (by omega)).trans ?_; first | assumption | exact hU_self _ _ _ | (refine (hU_ne (by omega)).trans ?_; first | assumption | exact hU_self _ _ _ | (refine (hU_ne (by omega)).trans ?_; first | assumption | exact hU_self _ _ _)))) (by exact le_b rfl) ?_
  refine qV_aload_n (pc := 17) 0 dX2_init_17 rfl rfl ?_
  refine qV_new (pc := 18) [.null, vI 0] kX3 lk_X2_9 wb_X3 wn_X3 fs2 dX2_init_18 (le_b rfl) (by show _ ≤ 32 + 2 * B; omega) ?_
  refine qV_dup (pc := 21) dX2_init_21 rfl ?_
  refine qV_iload_n (pc := 22) 1 dX2_init_22 rfl rfl ?_
  refine qV_voI (pc := 23) (c_Row_init (r := p + 3) (N := B) (fun _ => 0) hq hB (hU_self _ _ _) rfl) nX3_init lk_X2_11 dX2_init_23 ⟨le_b rfl, le_b rfl⟩ ⟨le_b rfl, by show _ ≤ 32 + 2 * B; omega⟩ rfl (le_b rfl) ?_
  rintro h3 _ ⟨r3, f3, rfl⟩
  have o3 : h3 p = some (oB 2 [.null, .null, .ref (p + 1), vI 0]) := (f3 p (by omega)).trans ((hU_ne (by omega)).trans (hU_self _ _ _))
  have g2 : Fr h2 h3 p (p + 7) := ((Fr.hU (lo := p) (hi := p + 7) (by omega) (by omega)).trans (Fr.hU (by omega) (by omega))).trans (f3.wide (by omega) (by omega))
  have r2' : Row h3 (p + 1) 26 0 (fun _ => -9) := ((r2.fr (Fr.hU (lo := p) (hi := p + 1) (by omega) (by omega)) (by omega)).fr (Fr.hU (lo := p + 3) (hi := p + 4) (by omega) (by omega)) (by omega)).fr f3 (by omega)
  refine qV_putF (pc := 26) kX2 0 (le_b rfl) lk_X2_20 rfl rfl rfl rfl rfl rfl dX2_init_26 (by first | assumption | exact hU_self _ _ _ | (refine (hU_ne (by omega)).trans ?_; first | assumption | exact hU_self _ _ _ | (refine (hU_ne (by omega)).trans ?_; first | assumption | exact hU_self _ _ _ | (refine (hU_ne (by omega)).trans ?_; first | assumption | exact hU_self _ _ _)))) (by exact le_b rfl) ?_
  refine qV_aload_n (pc := 29) 0 dX2_init_29 rfl rfl ?_
  refine qV_new (pc := 30) [.null, vI 0] kX3 lk_X2_9 wb_X3 wn_X3 fs2 dX2_init_30 (le_b rfl) (by show _ ≤ 32 + 2 * B; omega) ?_
  refine qV_dup (pc := 33) dX2_init_33 rfl ?_
  refine qV_iload_n (pc := 34) 1 dX2_init_34 rfl rfl ?_
  refine qV_voI (pc := 35) (c_Row_init (r := p + 5) (N := B) (fun _ => 0) hq hB (hU_self _ _ _) rfl) nX3_init lk_X2_11 dX2_init_35 ⟨le_b rfl, le_b rfl⟩ ⟨le_b rfl, by show _ ≤ 32 + 2 * B; omega⟩ rfl (le_b rfl) ?_
  rintro h4 _ ⟨r4, f4, rfl⟩
  have o4 : h4 p = some (oB 2 [.ref (p + 3), .null, .ref (p + 1), vI 0]) := (f4 p (by omega)).trans ((hU_ne (by omega)).trans (hU_self _ _ _))
  have g3 : Fr h3 h4 p (p + 7) := ((Fr.hU (lo := p) (hi := p + 7) (by omega) (by omega)).trans (Fr.hU (by omega) (by omega))).trans (f4.wide (by omega) (by omega))
  have r2'' : Row h4 (p + 1) 26 0 (fun _ => -9) := ((r2'.fr (Fr.hU (lo := p) (hi := p + 1) (by omega) (by omega)) (by omega)).fr (Fr.hU (lo := p + 5) (hi := p + 6) (by omega) (by omega)) (by omega)).fr f4 (by omega)
  have r3' : Row h4 (p + 3) B 0 (fun _ => 0) := ((r3.fr (Fr.hU (lo := p) (hi := p + 1) (by omega) (by omega)) (by omega)).fr (Fr.hU (lo := p + 5) (hi := p + 6) (by omega) (by omega)) (by omega)).fr f4 (by omega)
  refine qV_putF (pc := 38) kX2 1 (le_b rfl) lk_X2_23 rfl rfl rfl rfl rfl rfl dX2_init_38 (by first | assumption | exact hU_self _ _ _ | (refine (hU_ne (by omega)).trans ?_; first | assumption | exact hU_self _ _ _ | (refine (hU_ne (by omega)).trans ?_; first | assumption | exact hU_self _ _ _ | (refine (hU_ne (by omega)).trans ?_; first | assumption | exact hU_self _ _ _)))) (by exact le_b rfl) ?_
  refine qV_iconst (pc := 41) dX2_init_41 ?_
  refine qV_istore_n (pc := 42) 2 dX2_init_42 rfl (le_b rfl) (le_b rfl) rfl ?_
  have f5 : ∀ e : qE, Fr h4 (hU h4 p e) p (p + 1) := fun e => Fr.hU (by omega) (by omega)
  exact init_loop (le_b rfl) (by omega) 26 0 _ _ (by omega) (by omega) rfl (hU_self _ _ _) (r3'.fr (f5 _) (by omega)) (r4.fr (f5 _) (by omega)) (r2''.fr (f5 _) (by omega)) (((((Fr.hU (lo := p) (hi := p + 7) (by omega) (by omega)).trans (f2.wide (by omega) (by omega))).trans g2).trans g3).trans ((f5 _).wide (by omega) (by omega)))
set_option maxRecDepth 100000 in
set_option maxHeartbeats 4000000 in
theorem cbegin_loop {k : Nat} (hP : Page h p B P) (hk : k ≤ P.2.2.1) : ∀ (m i : Nat) (q : Int), k - i = m → i ≤ k → q = i → qVM l mX2_chunkBegin 0 0 h sz (fun v h' sz' => v = some (vI (csum P.2.2.2.1 k)) ∧ h' = h ∧ sz' = sz) 0 0 h sz 4 [some (.ref p), some (vI k), some (vI (csum P.2.2.2.1 i)), some (vI q)] [] := by
  obtain ⟨ho, -, hc, -⟩ := hP
  have hle := hc.le
  intro m
  induction m with
  | zero =>
    intro i q hm hi hq
    obtain rfl : i = k := by omega
    refine qV_iload_n (pc := 4) 3 dX2_chunkBegin_4 rfl rfl ?_
    refine qV_iload_n (pc := 5) 1 dX2_chunkBegin_5 rfl rfl ?_
    refine qV_icmp_ge (pc := 6) 37 dX2_chunkBegin_6 (by decide) ⟨by omega, by omega⟩ ⟨by omega, by omega⟩ (fun c6 => ?_) (fun c6 => ?_)
    · refine qV_iload_n (pc := 37) 2 dX2_chunkBegin_37 rfl rfl ?_
      refine qV_iret (pc := 38) dX2_chunkBegin_38 rfl (le_b rfl) (le_b rfl) ?_
      exact ⟨rfl, rfl, rfl⟩
    · exfalso; omega
  | succ m ih =>
    intro i q hm hi hq
    refine qV_iload_n (pc := 4) 3 dX2_chunkBegin_4 rfl rfl ?_
    refine qV_iload_n (pc := 5) 1 dX2_chunkBegin_5 rfl rfl ?_
    refine qV_icmp_ge (pc := 6) 37 dX2_chunkBegin_6 (by decide) ⟨by omega, by omega⟩ ⟨by omega, by omega⟩ (fun c6 => ?_) (fun c6 => ?_)
    · exfalso; omega
    · refine qV_iload_n (pc := 9) 3 dX2_chunkBegin_9 rfl rfl ?_
      refine qV_aload_n (pc := 10) 0 dX2_chunkBegin_10 rfl rfl ?_
      refine qV_get (pc := 11) kX2 1 (le_b rfl) lk_X2_23 rfl dX2_chunkBegin_11 (by first | assumption | exact hU_self _ _ _ | (refine (hU_ne (by omega)).trans ?_; first | assumption | exact hU_self _ _ _ | (refine (hU_ne (by omega)).trans ?_; first | assumption | exact hU_self _ _ _ | (refine (hU_ne (by omega)).trans ?_; first | assumption | exact hU_self _ _ _)))) (by exact rfl) ?_
      refine qV_rdV (pc := 14) (c_size hc) nX3_size kX3 lk_X2_65 dX2_chunkBegin_14 hc.obj ⟨le_b rfl, le_b rfl⟩ ⟨le_b rfl, le_b rfl⟩ rfl (le_b rfl) ?_
      refine qV_icmp_ge (pc := 17) 37 dX2_chunkBegin_17 (by decide) ⟨by omega, by omega⟩ ⟨by omega, by omega⟩ (fun c17 => ?_) (fun c17 => ?_)
      · exfalso; omega
      · refine qV_iload_n (pc := 20) 2 dX2_chunkBegin_20 rfl rfl ?_
        refine qV_aload_n (pc := 21) 0 dX2_chunkBegin_21 rfl rfl ?_
        refine qV_get (pc := 22) kX2 1 (le_b rfl) lk_X2_23 rfl dX2_chunkBegin_22 (by first | assumption | exact hU_self _ _ _ | (refine (hU_ne (by omega)).trans ?_; first | assumption | exact hU_self _ _ _ | (refine (hU_ne (by omega)).trans ?_; first | assumption | exact hU_self _ _ _ | (refine (hU_ne (by omega)).trans ?_; first | assumption | exact hU_self _ _ _)))) (by exact rfl) ?_
        refine qV_iload_n (pc := 25) 3 dX2_chunkBegin_25 rfl rfl ?_
        refine qV_rdV (pc := 26) (c_gt hc hq (by omega)) nX3_get kX3 lk_X2_54 dX2_chunkBegin_26 hc.obj ⟨le_b rfl, le_b rfl⟩ ⟨le_b rfl, le_b rfl⟩ rfl (le_b rfl) ?_
        refine qV_iadd (pc := 29) dX2_chunkBegin_29 ?_
        refine qV_istore_n (pc := 30) 2 dX2_chunkBegin_30 rfl (le_b rfl) (le_b rfl) rfl ?_
        refine qV_iinc (pc := 31) 3 dX2_chunkBegin_31 rfl (le_b rfl) (le_b rfl) rfl ?_
        refine qV_goto (pc := 34) 4 dX2_chunkBegin_34 (by decide) ?_
        exact ih (i + 1) _ (by omega) (by omega) (by omega)
set_option maxRecDepth 100000 in
set_option maxHeartbeats 4000000 in
theorem c_chunkBegin {q : Int} {k : Nat} (hP : Page h p B P) (hq : q = k) (hk : k ≤ P.2.2.1) : qRd l mX2_chunkBegin [.ref p, vI q] h sz (vI (csum P.2.2.2.1 k)) := by
  subst hq
  refine qC.of 2 (by decide) (le_b rfl) ?_
  refine qV_iconst (pc := 0) dX2_chunkBegin_0 ?_
  refine qV_istore_n (pc := 1) 2 dX2_chunkBegin_1 rfl (le_b rfl) (le_b rfl) rfl ?_
  refine qV_iconst (pc := 2) dX2_chunkBegin_2 ?_
  refine qV_istore_n (pc := 3) 3 dX2_chunkBegin_3 rfl (le_b rfl) (le_b rfl) rfl ?_
  exact cbegin_loop hP hk k 0 _ (by omega) (by omega) rfl
set_option maxRecDepth 100000 in
set_option maxHeartbeats 4000000 in
theorem c_markPlace {q : Int} {i : Nat} (hP : Page h p B P) (hq : q = 97 + (i : Int)) (hi : i < 26) : qRd l mX2_markPlace [.ref p, vI q] h sz (vI (P.2.2.2.2.1 i)) := by
  obtain ⟨ho, -, -, hm⟩ := hP
  refine qC.of 0 (by decide) (le_b rfl) ?_
  refine qV_aload_n (pc := 0) 0 dX2_markPlace_0 rfl rfl ?_
  refine qV_get (pc := 1) kX2 2 (le_b rfl) lk_X2_14 rfl dX2_markPlace_1 (by first | assumption | exact hU_self _ _ _ | (refine (hU_ne (by omega)).trans ?_; first | assumption | exact hU_self _ _ _ | (refine (hU_ne (by omega)).trans ?_; first | assumption | exact hU_self _ _ _ | (refine (hU_ne (by omega)).trans ?_; first | assumption | exact hU_self _ _ _)))) (by exact rfl) ?_
  refine qV_iload_n (pc := 4) 1 dX2_markPlace_4 rfl rfl ?_
  refine qV_bipush (pc := 5) dX2_markPlace_5 rfl ?_
  refine qV_isub (pc := 7) dX2_markPlace_7 ?_
  refine qV_rdV (pc := 8) (c_gt hm (by omega) hi) nX3_get kX3 lk_X2_54 dX2_markPlace_8 hm.obj ⟨le_b rfl, le_b rfl⟩ ⟨le_b rfl, le_b rfl⟩ rfl (le_b rfl) ?_
  refine qV_iret (pc := 11) dX2_markPlace_11 rfl (le_b rfl) (le_b rfl) ?_
  exact ⟨rfl, rfl, rfl⟩
set_option maxRecDepth 100000 in
set_option maxHeartbeats 4000000 in
theorem c_putMark {q v : Int} {i : Nat} (hP : Page h p B P) (hq : q = 97 + (i : Int)) (hi : i < 26) : qVo l mX2_putMark 0 0 [.ref p, vI q, vI v] h sz (fun h' sz' => Page h' p B (P.1, P.2.1, P.2.2.1, P.2.2.2.1, va_up P.2.2.2.2.1 i v, P.2.2.2.2.2) ∧ Fr h h' p (p + 7) ∧ sz' = sz) := by
  obtain ⟨ho, hb, hc, hm⟩ := hP
  refine qC.of 0 (by decide) (le_b rfl) ?_
  refine qV_aload_n (pc := 0) 0 dX2_putMark_0 rfl rfl ?_
  refine qV_get (pc := 1) kX2 2 (le_b rfl) lk_X2_14 rfl dX2_putMark_1 (by first | assumption | exact hU_self _ _ _ | (refine (hU_ne (by omega)).trans ?_; first | assumption | exact hU_self _ _ _ | (refine (hU_ne (by omega)).trans ?_; first | assumption | exact hU_self _ _ _ | (refine (hU_ne (by omega)).trans ?_; first | assumption | exact hU_self _ _ _)))) (by exact rfl) ?_
  refine qV_iload_n (pc := 4) 1 dX2_putMark_4 rfl rfl ?_
  refine qV_bipush (pc := 5) dX2_putMark_5 rfl ?_
  refine qV_isub (pc := 7) dX2_putMark_7 ?_
  refine qV_iload_n (pc := 8) 2 dX2_putMark_8 rfl rfl ?_
  refine qV_voV (pc := 9) (c_set hm (i := i) (by omega) hi) nX3_set kX3 lk_X2_62 dX2_putMark_9 hm.obj ⟨le_b rfl, le_b rfl⟩ ⟨le_b rfl, le_b rfl⟩ rfl (le_b rfl) ?_
  rintro h2 _ ⟨hm2, hf2, rfl⟩
  refine qV_vret (pc := 12) dX2_putMark_12 rfl (le_b rfl) (le_b rfl) ?_
  exact ⟨rfl, ⟨(hf2 p (by omega)).trans ho, hb.fr hf2 (by omega), hc.fr hf2 (by omega), hm2⟩, hf2.wide (by omega) (by omega), rfl⟩
set_option maxRecDepth 100000 in
set_option maxHeartbeats 4000000 in
theorem mset_loop (hP : Page h p B P) (hmk : ∀ j, j < 26 → -9 ≤ P.2.2.2.2.1 j ∧ P.2.2.2.2.1 j ≤ 5000) : ∀ (m i : Nat) (q w : Int), 26 - i = m → i ≤ 26 → q = i → w = mcnt P.2.2.2.2.1 i → qVM l mX2_marksSet 0 0 h sz (fun v h' sz' => v = some (vI (mcnt P.2.2.2.2.1 26)) ∧ h' = h ∧ sz' = sz) 0 0 h sz 4 [some (.ref p), some (vI w), some (vI q)] [] := by
  obtain ⟨ho, -, -, hr⟩ := hP
  intro m
  induction m with
  | zero =>
    intro i q w hm hi hq hw
    obtain rfl : i = 26 := by omega
    subst hw
    refine qV_iload_n (pc := 4) 2 dX2_marksSet_4 rfl rfl ?_
    refine qV_bipush (pc := 5) dX2_marksSet_5 rfl ?_
    refine qV_icmp_ge (pc := 7) 32 dX2_marksSet_7 (by decide) ⟨by omega, by omega⟩ ⟨by omega, by omega⟩ (fun c7 => ?_) (fun c7 => ?_)
    · refine qV_iload_n (pc := 32) 1 dX2_marksSet_32 rfl rfl ?_
      refine qV_iret (pc := 33) dX2_marksSet_33 rfl (le_b rfl) (le_b rfl) ?_
      exact ⟨rfl, rfl, rfl⟩
    · exfalso; omega
  | succ m ih =>
    intro i q w hm hi hq hw
    have b := hmk i (by omega)
    refine qV_iload_n (pc := 4) 2 dX2_marksSet_4 rfl rfl ?_
    refine qV_bipush (pc := 5) dX2_marksSet_5 rfl ?_
    refine qV_icmp_ge (pc := 7) 32 dX2_marksSet_7 (by decide) ⟨by omega, by omega⟩ ⟨by omega, by omega⟩ (fun c7 => ?_) (fun c7 => ?_)
    · exfalso; omega
    · refine qV_aload_n (pc := 10) 0 dX2_marksSet_10 rfl rfl ?_
      refine qV_get (pc := 11) kX2 2 (le_b rfl) lk_X2_14 rfl dX2_marksSet_11 (by first | assumption | exact hU_self _ _ _ | (refine (hU_ne (by omega)).trans ?_; first | assumption | exact hU_self _ _ _ | (refine (hU_ne (by omega)).trans ?_; first | assumption | exact hU_self _ _ _ | (refine (hU_ne (by omega)).trans ?_; first | assumption | exact hU_self _ _ _)))) (by exact rfl) ?_
      refine qV_iload_n (pc := 14) 2 dX2_marksSet_14 rfl rfl ?_
      refine qV_rdV (pc := 15) (c_gt hr hq (by omega)) nX3_get kX3 lk_X2_54 dX2_marksSet_15 hr.obj ⟨le_b rfl, le_b rfl⟩ ⟨le_b rfl, le_b rfl⟩ rfl (le_b rfl) ?_
      refine qV_bipush (pc := 18) dX2_marksSet_18 rfl ?_
      refine qV_icmp_eq (pc := 20) 26 dX2_marksSet_20 (by decide) ⟨by omega, by omega⟩ ⟨by omega, by omega⟩ (fun c20 => ?_) (fun c20 => ?_)
      · refine qV_iinc (pc := 26) 2 dX2_marksSet_26 rfl (le_b rfl) (le_b rfl) rfl ?_
        refine qV_goto (pc := 29) 4 dX2_marksSet_29 (by decide) ?_
        first
        | exact ih (i + 1) _ _ (by omega) (by omega) (by omega) (by simp only [mcnt]; rw [if_pos c20]; omega)
        | exact ih (i + 1) _ _ (by omega) (by omega) (by omega) (by simp only [mcnt]; rw [if_neg c20]; omega)
      · refine qV_iinc (pc := 23) 1 dX2_marksSet_23 rfl (le_b rfl) (le_b rfl) rfl ?_
        refine qV_iinc (pc := 26) 2 dX2_marksSet_26 rfl (le_b rfl) (le_b rfl) rfl ?_
        refine qV_goto (pc := 29) 4 dX2_marksSet_29 (by decide) ?_
        first
        | exact ih (i + 1) _ _ (by omega) (by omega) (by omega) (by simp only [mcnt]; rw [if_pos c20]; omega)
        | exact ih (i + 1) _ _ (by omega) (by omega) (by omega) (by simp only [mcnt]; rw [if_neg c20]; omega)
set_option maxRecDepth 100000 in
set_option maxHeartbeats 4000000 in
theorem c_marksSet (hP : Page h p B P) (hmk : ∀ j, j < 26 → -9 ≤ P.2.2.2.2.1 j ∧ P.2.2.2.2.1 j ≤ 5000) : qRd l mX2_marksSet [.ref p] h sz (vI (mcnt P.2.2.2.2.1 26)) := by
  refine qC.of 2 (by decide) (le_b rfl) ?_
  refine qV_iconst (pc := 0) dX2_marksSet_0 ?_
  refine qV_istore_n (pc := 1) 1 dX2_marksSet_1 rfl (le_b rfl) (le_b rfl) rfl ?_
  refine qV_iconst (pc := 2) dX2_marksSet_2 ?_
  refine qV_istore_n (pc := 3) 2 dX2_marksSet_3 rfl (le_b rfl) (le_b rfl) rfl ?_
  exact mset_loop hP hmk 26 0 _ _ (by omega) (by omega) rfl rfl
set_option maxRecDepth 100000 in
set_option maxHeartbeats 4000000 in
theorem mfrom_loop {x : Int} (hP : Page h p B P) (hmk : ∀ j, j < 26 → -9 ≤ P.2.2.2.2.1 j ∧ P.2.2.2.2.1 j ≤ 5000) (hx : 0 ≤ x ∧ x ≤ 5000) : ∀ (m i : Nat) (q w z : Int) (x5 : Option Value), 26 - i = m → i ≤ 26 → q = i → w = (mfr P.2.2.2.2.1 x i).1 → z = (mfr P.2.2.2.2.1 x i).2 → qVM l mX2_markFrom 0 0 h sz (fun v h' sz' => v = some (vI (mfr P.2.2.2.2.1 x 26).1) ∧ h' = h ∧ sz' = sz) 0 0 h sz 8 [some (.ref p), some (vI x), some (vI w), some (vI z), some (vI q), x5] [] := by
  obtain ⟨ho, -, -, hr⟩ := hP
  intro m
  induction m with
  | zero =>
    intro i q w z x5 hm hi hq hw hz
    obtain rfl : i = 26 := by omega
    subst hw
    refine qV_iload (pc := 8) 4 dX2_markFrom_8 rfl ?_
    refine qV_bipush (pc := 10) dX2_markFrom_10 rfl ?_
    refine qV_icmp_ge (pc := 12) 59 dX2_markFrom_12 (by decide) ⟨by omega, by omega⟩ ⟨by omega, by omega⟩ (fun c12 => ?_) (fun c12 => ?_)
    · refine qV_iload_n (pc := 59) 2 dX2_markFrom_59 rfl rfl ?_
      refine qV_iret (pc := 60) dX2_markFrom_60 rfl (le_b rfl) (le_b rfl) ?_
      exact ⟨rfl, rfl, rfl⟩
    · exfalso; omega
  | succ m ih =>
    intro i q w z x5 hm hi hq hw hz
    have b := hmk i (by omega)
    have b2 := mfr_in (mk := P.2.2.2.2.1) (x := x) (j := i) (fun j hj => hmk j (by omega))
    refine qV_iload (pc := 8) 4 dX2_markFrom_8 rfl ?_
    refine qV_bipush (pc := 10) dX2_markFrom_10 rfl ?_
    refine qV_icmp_ge (pc := 12) 59 dX2_markFrom_12 (by decide) ⟨by omega, by omega⟩ ⟨by omega, by omega⟩ (fun c12 => ?_) (fun c12 => ?_)
    · exfalso; omega
    · refine qV_aload_n (pc := 15) 0 dX2_markFrom_15 rfl rfl ?_
      refine qV_get (pc := 16) kX2 2 (le_b rfl) lk_X2_14 rfl dX2_markFrom_16 (by first | assumption | exact hU_self _ _ _ | (refine (hU_ne (by omega)).trans ?_; first | assumption | exact hU_self _ _ _ | (refine (hU_ne (by omega)).trans ?_; first | assumption | exact hU_self _ _ _ | (refine (hU_ne (by omega)).trans ?_; first | assumption | exact hU_self _ _ _)))) (by exact rfl) ?_
      refine qV_iload (pc := 19) 4 dX2_markFrom_19 rfl ?_
      refine qV_rdV (pc := 21) (c_gt hr hq (by omega)) nX3_get kX3 lk_X2_54 dX2_markFrom_21 hr.obj ⟨le_b rfl, le_b rfl⟩ ⟨le_b rfl, le_b rfl⟩ rfl (le_b rfl) ?_
      refine qV_istore (pc := 24) 5 dX2_markFrom_24 (le_b rfl) (le_b rfl) rfl ?_
      refine qV_iload (pc := 26) 5 dX2_markFrom_26 rfl ?_
      refine qV_iload_n (pc := 28) 1 dX2_markFrom_28 rfl rfl ?_
      refine qV_icmp_lt (pc := 29) 53 dX2_markFrom_29 (by decide) ⟨by omega, by omega⟩ ⟨by omega, by omega⟩ (fun c29 => ?_) (fun c29 => ?_)
      · refine qV_iinc (pc := 53) 4 dX2_markFrom_53 rfl (le_b rfl) (le_b rfl) rfl ?_
        refine qV_goto (pc := 56) 8 dX2_markFrom_56 (by decide) ?_
        first
        | exact ih (i + 1) _ _ _ _ (by omega) (by omega) (by omega) (by simp only [mfr]; rw [if_neg (by omega)]; exact hw) (by simp only [mfr]; rw [if_neg (by omega)]; exact hz)
        | exact ih (i + 1) _ _ _ _ (by omega) (by omega) (by omega) (by simp only [mfr]; rw [if_pos (by omega)]; rw [hq]) (by simp only [mfr]; rw [if_pos (by omega)])
      · refine qV_iload_n (pc := 32) 2 dX2_markFrom_32 rfl rfl ?_
        refine qV_bipush (pc := 33) dX2_markFrom_33 rfl ?_
        refine qV_icmp_eq (pc := 35) 44 dX2_markFrom_35 (by decide) ⟨by omega, by omega⟩ ⟨by omega, by omega⟩ (fun c35 => ?_) (fun c35 => ?_)
        · refine qV_bipush (pc := 44) dX2_markFrom_44 rfl ?_
          refine qV_iload (pc := 46) 4 dX2_markFrom_46 rfl ?_
          refine qV_iadd (pc := 48) dX2_markFrom_48 ?_
          refine qV_istore_n (pc := 49) 2 dX2_markFrom_49 rfl (le_b rfl) (le_b rfl) rfl ?_
          refine qV_iload (pc := 50) 5 dX2_markFrom_50 rfl ?_
          refine qV_istore_n (pc := 52) 3 dX2_markFrom_52 rfl (le_b rfl) (le_b rfl) rfl ?_
          refine qV_iinc (pc := 53) 4 dX2_markFrom_53 rfl (le_b rfl) (le_b rfl) rfl ?_
          refine qV_goto (pc := 56) 8 dX2_markFrom_56 (by decide) ?_
          first
          | exact ih (i + 1) _ _ _ _ (by omega) (by omega) (by omega) (by simp only [mfr]; rw [if_neg (by omega)]; exact hw) (by simp only [mfr]; rw [if_neg (by omega)]; exact hz)
          | exact ih (i + 1) _ _ _ _ (by omega) (by omega) (by omega) (by simp only [mfr]; rw [if_pos (by omega)]; rw [hq]) (by simp only [mfr]; rw [if_pos (by omega)])
        · refine qV_iload (pc := 38) 5 dX2_markFrom_38 rfl ?_
          refine qV_iload_n (pc := 40) 3 dX2_markFrom_40 rfl rfl ?_
          refine qV_icmp_ge (pc := 41) 53 dX2_markFrom_41 (by decide) ⟨by omega, by omega⟩ ⟨by omega, by omega⟩ (fun c41 => ?_) (fun c41 => ?_)
          · refine qV_iinc (pc := 53) 4 dX2_markFrom_53 rfl (le_b rfl) (le_b rfl) rfl ?_
            refine qV_goto (pc := 56) 8 dX2_markFrom_56 (by decide) ?_
            first
            | exact ih (i + 1) _ _ _ _ (by omega) (by omega) (by omega) (by simp only [mfr]; rw [if_neg (by omega)]; exact hw) (by simp only [mfr]; rw [if_neg (by omega)]; exact hz)
            | exact ih (i + 1) _ _ _ _ (by omega) (by omega) (by omega) (by simp only [mfr]; rw [if_pos (by omega)]; rw [hq]) (by simp only [mfr]; rw [if_pos (by omega)])
          · refine qV_bipush (pc := 44) dX2_markFrom_44 rfl ?_
            refine qV_iload (pc := 46) 4 dX2_markFrom_46 rfl ?_
            refine qV_iadd (pc := 48) dX2_markFrom_48 ?_
            refine qV_istore_n (pc := 49) 2 dX2_markFrom_49 rfl (le_b rfl) (le_b rfl) rfl ?_
            refine qV_iload (pc := 50) 5 dX2_markFrom_50 rfl ?_
            refine qV_istore_n (pc := 52) 3 dX2_markFrom_52 rfl (le_b rfl) (le_b rfl) rfl ?_
            refine qV_iinc (pc := 53) 4 dX2_markFrom_53 rfl (le_b rfl) (le_b rfl) rfl ?_
            refine qV_goto (pc := 56) 8 dX2_markFrom_56 (by decide) ?_
            first
            | exact ih (i + 1) _ _ _ _ (by omega) (by omega) (by omega) (by simp only [mfr]; rw [if_neg (by omega)]; exact hw) (by simp only [mfr]; rw [if_neg (by omega)]; exact hz)
            | exact ih (i + 1) _ _ _ _ (by omega) (by omega) (by omega) (by simp only [mfr]; rw [if_pos (by omega)]; rw [hq]) (by simp only [mfr]; rw [if_pos (by omega)])
set_option maxRecDepth 100000 in
set_option maxHeartbeats 4000000 in
theorem c_markFrom {x : Int} (hP : Page h p B P) (hmk : ∀ j, j < 26 → -9 ≤ P.2.2.2.2.1 j ∧ P.2.2.2.2.1 j ≤ 5000) (hx : 0 ≤ x ∧ x ≤ 5000) : qRd l mX2_markFrom [.ref p, vI x] h sz (vI (mfr P.2.2.2.2.1 x 26).1) := by
  refine qC.of 4 (by decide) (le_b rfl) ?_
  refine qV_bipush (pc := 0) dX2_markFrom_0 rfl ?_
  refine qV_istore_n (pc := 2) 2 dX2_markFrom_2 rfl (le_b rfl) (le_b rfl) rfl ?_
  refine qV_iconst (pc := 3) dX2_markFrom_3 ?_
  refine qV_istore_n (pc := 4) 3 dX2_markFrom_4 rfl (le_b rfl) (le_b rfl) rfl ?_
  refine qV_iconst (pc := 5) dX2_markFrom_5 ?_
  refine qV_istore (pc := 6) 4 dX2_markFrom_6 (le_b rfl) (le_b rfl) rfl ?_
  exact mfrom_loop hP hmk hx 26 0 _ _ _ _ (by omega) (by omega) rfl rfl rfl
set_option maxRecDepth 100000 in
set_option maxHeartbeats 4000000 in
theorem reads_loop {i : Nat} (hP : Page h p B P) (hT : ∀ j, j < P.1 → 0 ≤ P.2.1 j ∧ P.2.1 j ≤ 255) : ∀ (d b : Nat) (q : Int), P.1 - b = d → b ≤ P.1 → q = b → skp P.2.1 d b = skp P.2.1 (P.1 - (i + 1)) (i + 1) → qVM l mX2_readsLetter 0 0 h sz (fun v h' sz' => ∃ w, v = some w ∧ w = vI (P.2.1 i) ∧ Page h' p B (P.1, P.2.1, P.2.2.1, P.2.2.2.1, P.2.2.2.2.1, ((skp P.2.1 (P.1 - (i + 1)) (i + 1) : Nat) : Int)) ∧ Fr h h' p (p + 7) ∧ sz' = sz) 0 0 h sz 19 [some (.ref p), some (vI (P.2.1 i)), some (vI q)] [] := by
  obtain ⟨ho, hb, hc, hm⟩ := hP
  have hle := hb.le
  have hret : ∀ q : Int, q = ((skp P.2.1 (P.1 - (i + 1)) (i + 1) : Nat) : Int) → Page (hU h p (pob p q)) p B (P.1, P.2.1, P.2.2.1, P.2.2.2.1, P.2.2.2.2.1, ((skp P.2.1 (P.1 - (i + 1)) (i + 1) : Nat) : Int)) ∧ Fr h (hU h p (pob p q)) p (p + 7) := fun q hq => by
    have hf : Fr h (hU h p (pob p q)) p (p + 1) := Fr.hU (by omega) (by omega)
    exact ⟨⟨by rw [hU_self, hq], hb.fr hf (by omega), hc.fr hf (by omega), hm.fr hf (by omega)⟩, hf.wide (by omega) (by omega)⟩
  intro d
  induction d with
  | zero =>
    intro b q hd hb1 hq hs
    obtain rfl : b = P.1 := by omega
    refine qV_iload_n (pc := 19) 2 dX2_readsLetter_19 rfl rfl ?_
    refine qV_aload_n (pc := 20) 0 dX2_readsLetter_20 rfl rfl ?_
    refine qV_get (pc := 21) kX2 0 (le_b rfl) lk_X2_20 rfl dX2_readsLetter_21 (by first | assumption | exact hU_self _ _ _ | (refine (hU_ne (by omega)).trans ?_; first | assumption | exact hU_self _ _ _ | (refine (hU_ne (by omega)).trans ?_; first | assumption | exact hU_self _ _ _ | (refine (hU_ne (by omega)).trans ?_; first | assumption | exact hU_self _ _ _)))) (by exact rfl) ?_
    refine qV_rdV (pc := 24) (c_size hb) nX3_size kX3 lk_X2_65 dX2_readsLetter_24 hb.obj ⟨le_b rfl, le_b rfl⟩ ⟨le_b rfl, le_b rfl⟩ rfl (le_b rfl) ?_
    refine qV_icmp_ge (pc := 27) 50 dX2_readsLetter_27 (by decide) ⟨by omega, by omega⟩ ⟨by omega, by omega⟩ (fun c27 => ?_) (fun c27 => ?_)
    · refine qV_aload_n (pc := 50) 0 dX2_readsLetter_50 rfl rfl ?_
      refine qV_iload_n (pc := 51) 2 dX2_readsLetter_51 rfl rfl ?_
      refine qV_put (pc := 52) kX2 3 (le_b rfl) lk_X2_33 rfl rfl rfl rfl dX2_readsLetter_52 (by first | assumption | exact hU_self _ _ _ | (refine (hU_ne (by omega)).trans ?_; first | assumption | exact hU_self _ _ _ | (refine (hU_ne (by omega)).trans ?_; first | assumption | exact hU_self _ _ _ | (refine (hU_ne (by omega)).trans ?_; first | assumption | exact hU_self _ _ _)))) (by exact le_b rfl) ?_
      refine qV_iload_n (pc := 55) 1 dX2_readsLetter_55 rfl rfl ?_
      refine qV_iret (pc := 56) dX2_readsLetter_56 rfl (le_b rfl) (le_b rfl) ?_
      obtain ⟨e1, e2⟩ := hret q (by rw [← hs, hq]; rfl)
      exact ⟨_, rfl, rfl, e1, e2, rfl⟩
    · exfalso; omega
  | succ d ih =>
    intro b q hd hb1 hq hs
    have t := hT b (by omega)
    refine qV_iload_n (pc := 19) 2 dX2_readsLetter_19 rfl rfl ?_
    refine qV_aload_n (pc := 20) 0 dX2_readsLetter_20 rfl rfl ?_
    refine qV_get (pc := 21) kX2 0 (le_b rfl) lk_X2_20 rfl dX2_readsLetter_21 (by first | assumption | exact hU_self _ _ _ | (refine (hU_ne (by omega)).trans ?_; first | assumption | exact hU_self _ _ _ | (refine (hU_ne (by omega)).trans ?_; first | assumption | exact hU_self _ _ _ | (refine (hU_ne (by omega)).trans ?_; first | assumption | exact hU_self _ _ _)))) (by exact rfl) ?_
    refine qV_rdV (pc := 24) (c_size hb) nX3_size kX3 lk_X2_65 dX2_readsLetter_24 hb.obj ⟨le_b rfl, le_b rfl⟩ ⟨le_b rfl, le_b rfl⟩ rfl (le_b rfl) ?_
    refine qV_icmp_ge (pc := 27) 50 dX2_readsLetter_27 (by decide) ⟨by omega, by omega⟩ ⟨by omega, by omega⟩ (fun c27 => ?_) (fun c27 => ?_)
    · exfalso; omega
    · refine qV_aload_n (pc := 30) 0 dX2_readsLetter_30 rfl rfl ?_
      refine qV_get (pc := 31) kX2 0 (le_b rfl) lk_X2_20 rfl dX2_readsLetter_31 (by first | assumption | exact hU_self _ _ _ | (refine (hU_ne (by omega)).trans ?_; first | assumption | exact hU_self _ _ _ | (refine (hU_ne (by omega)).trans ?_; first | assumption | exact hU_self _ _ _ | (refine (hU_ne (by omega)).trans ?_; first | assumption | exact hU_self _ _ _)))) (by exact rfl) ?_
      refine qV_iload_n (pc := 34) 2 dX2_readsLetter_34 rfl rfl ?_
      refine qV_rdV (pc := 35) (c_gt hb hq (by omega)) nX3_get kX3 lk_X2_54 dX2_readsLetter_35 hb.obj ⟨le_b rfl, le_b rfl⟩ ⟨le_b rfl, le_b rfl⟩ rfl (le_b rfl) ?_
      refine qV_rdSN (pc := 38) (c_beginsLetter ⟨by omega, by omega⟩) nX6_beginsLetter lk_X2_96 dX2_readsLetter_38 ⟨le_b rfl, le_b rfl⟩ ⟨le_b rfl, le_b rfl⟩ rfl (le_b rfl) ?_
      refine qV_ifneB (pc := 41) 50 dX2_readsLetter_41 (by decide) (fun c41 => ?_) (fun c41 => ?_)
      · refine qV_aload_n (pc := 50) 0 dX2_readsLetter_50 rfl rfl ?_
        refine qV_iload_n (pc := 51) 2 dX2_readsLetter_51 rfl rfl ?_
        refine qV_put (pc := 52) kX2 3 (le_b rfl) lk_X2_33 rfl rfl rfl rfl dX2_readsLetter_52 (by first | assumption | exact hU_self _ _ _ | (refine (hU_ne (by omega)).trans ?_; first | assumption | exact hU_self _ _ _ | (refine (hU_ne (by omega)).trans ?_; first | assumption | exact hU_self _ _ _ | (refine (hU_ne (by omega)).trans ?_; first | assumption | exact hU_self _ _ _)))) (by exact le_b rfl) ?_
        refine qV_iload_n (pc := 55) 1 dX2_readsLetter_55 rfl rfl ?_
        refine qV_iret (pc := 56) dX2_readsLetter_56 rfl (le_b rfl) (le_b rfl) ?_
        obtain ⟨e1, e2⟩ := hret q (by rw [← hs, hq]; simp only [skp]; rw [if_pos c41])
        exact ⟨_, rfl, rfl, e1, e2, rfl⟩
      · refine qV_iinc (pc := 44) 2 dX2_readsLetter_44 rfl (le_b rfl) (le_b rfl) rfl ?_
        refine qV_goto (pc := 47) 19 dX2_readsLetter_47 (by decide) ?_
        exact ih (b + 1) _ (by omega) (by omega) (by omega) (by rw [← hs]; simp only [skp]; rw [if_neg c41])
set_option maxRecDepth 100000 in
set_option maxHeartbeats 4000000 in
theorem c_readsLetter {i : Nat} (hP : Page h p B P) (hT : ∀ j, j < P.1 → 0 ≤ P.2.1 j ∧ P.2.1 j ≤ 255) (hr : P.2.2.2.2.2 = i) (hi : i < P.1) : qRt l mX2_readsLetter 0 0 [.ref p] h sz (fun w h' sz' => w = vI (P.2.1 i) ∧ Page h' p B (P.1, P.2.1, P.2.2.1, P.2.2.2.1, P.2.2.2.2.1, ((skp P.2.1 (P.1 - (i + 1)) (i + 1) : Nat) : Int)) ∧ Fr h h' p (p + 7) ∧ sz' = sz) := by
  obtain ⟨ho, hb, hc, hm⟩ := id hP
  rw [hr] at ho
  refine qC.of 2 (by decide) (le_b rfl) ?_
  refine qV_aload_n (pc := 0) 0 dX2_readsLetter_0 rfl rfl ?_
  refine qV_get (pc := 1) kX2 0 (le_b rfl) lk_X2_20 rfl dX2_readsLetter_1 (by first | assumption | exact hU_self _ _ _ | (refine (hU_ne (by omega)).trans ?_; first | assumption | exact hU_self _ _ _ | (refine (hU_ne (by omega)).trans ?_; first | assumption | exact hU_self _ _ _ | (refine (hU_ne (by omega)).trans ?_; first | assumption | exact hU_self _ _ _)))) (by exact rfl) ?_
  refine qV_aload_n (pc := 4) 0 dX2_readsLetter_4 rfl rfl ?_
  refine qV_get (pc := 5) kX2 3 (le_b rfl) lk_X2_33 rfl dX2_readsLetter_5 (by first | assumption | exact hU_self _ _ _ | (refine (hU_ne (by omega)).trans ?_; first | assumption | exact hU_self _ _ _ | (refine (hU_ne (by omega)).trans ?_; first | assumption | exact hU_self _ _ _ | (refine (hU_ne (by omega)).trans ?_; first | assumption | exact hU_self _ _ _)))) (by exact rfl) ?_
  refine qV_rdV (pc := 8) (c_gt hb rfl hi) nX3_get kX3 lk_X2_54 dX2_readsLetter_8 hb.obj ⟨le_b rfl, le_b rfl⟩ ⟨le_b rfl, le_b rfl⟩ rfl (le_b rfl) ?_
  refine qV_istore_n (pc := 11) 1 dX2_readsLetter_11 rfl (le_b rfl) (le_b rfl) rfl ?_
  refine qV_aload_n (pc := 12) 0 dX2_readsLetter_12 rfl rfl ?_
  refine qV_get (pc := 13) kX2 3 (le_b rfl) lk_X2_33 rfl dX2_readsLetter_13 (by first | assumption | exact hU_self _ _ _ | (refine (hU_ne (by omega)).trans ?_; first | assumption | exact hU_self _ _ _ | (refine (hU_ne (by omega)).trans ?_; first | assumption | exact hU_self _ _ _ | (refine (hU_ne (by omega)).trans ?_; first | assumption | exact hU_self _ _ _)))) (by exact rfl) ?_
  refine qV_iconst (pc := 16) dX2_readsLetter_16 ?_
  refine qV_iadd (pc := 17) dX2_readsLetter_17 ?_
  refine qV_istore_n (pc := 18) 2 dX2_readsLetter_18 rfl (le_b rfl) (le_b rfl) rfl ?_
  exact reads_loop hP hT (P.1 - (i + 1)) (i + 1) _ rfl (by omega) (by omega) rfl
end PAGE2
end
section
/-! ===== Sums ===== -/
abbrev sob (u : Nat) (s : Int) : qE := oB 5 [.ref (u + 1), .ref (u + 3), .ref (u + 5), .ref (u + 7), .ref (u + 9), .ref (u + 11), vI s]
def SumW (h : qH) (u n : Nat) (T : Nat → Int) : Prop := Row h (u + 1) 121 (n + 1) (measM T 0) ∧ Row h (u + 3) 121 (n + 1) (measM T 1) ∧ Row h (u + 5) 121 (n + 1) (measM T 2) ∧ Row h (u + 7) 121 (n + 1) (measM T 3)
theorem SumW.fr {h h' : qH} {u n lo hi : Nat} {T : Nat → Int} (a : SumW h u n T) (b : Fr h h' lo hi) (d : u + 9 ≤ lo ∨ hi ≤ u + 1) : SumW h' u n T := ⟨a.1.fr b (by omega), a.2.1.fr b (by omega), a.2.2.1.fr b (by omega), a.2.2.2.fr b (by omega)⟩
theorem SumW.at {h : qH} {u n : Nat} {T : Nat → Int} (a : SumW h u n T) {w : Nat} (hw : w < 4) : Row h (u + 1 + 2 * w) 121 (n + 1) (measM T w) := by
  rcases (show w = 0 ∨ w = 1 ∨ w = 2 ∨ w = 3 by omega) with rfl | rfl | rfl | rfl
  · exact a.1
  · exact a.2.1
  · exact a.2.2.1
  · exact a.2.2.2
def SumB (h : qH) (u n : Nat) (T : Nat → Int) (s : Int) : Prop := ∃ (m : Nat) (X : Nat → Int), Row h (u + 11) 121 m X ∧ (s = 1 → ∃ xs, srt (lnW T n) (nl T n + 1) xs ∧ m = nl T n + 1 ∧ ∀ j, j < m → X j = ((xs.getD j 0 : Nat) : Int))
def Sums (h : qH) (u n : Nat) (T : Nat → Int) (s : Int) : Prop := h u = some (sob u s) ∧ SumW h u n T ∧ Row h (u + 9) 121 (nl T n + 1) (fun k => ((lbN T n k : Nat) : Int)) ∧ SumB h u n T s ∧ (s = 0 ∨ s = 1) ∧ n ≤ 120
theorem Sums.fr {h h' : qH} {u n lo hi : Nat} {T : Nat → Int} {s : Int} (a : Sums h u n T s) (b : Fr h h' lo hi) (d : u + 13 ≤ lo ∨ hi ≤ u) : Sums h' u n T s := by
  obtain ⟨a1, a2, a3, ⟨m, X, a4, a5⟩, a6⟩ := a
  exact ⟨(b u (by omega)).trans a1, a2.fr b (by omega), a3.fr b (by omega), ⟨m, X, a4.fr b (by omega), a5⟩, a6⟩
section SUMS
variable {l : Launch} {h : qH} {sz u n : Nat} {T : Nat → Int} {s : Int}
set_option maxRecDepth 100000 in
set_option maxHeartbeats 4000000 in
theorem c_addsPlace {a b c d : Int} {m : Nat} {A0 A1 A2 A3 : Nat → Int} (ho : h u = some (sob u s)) (r0 : Row h (u + 1) 121 m A0) (r1 : Row h (u + 3) 121 m A1) (r2 : Row h (u + 5) 121 m A2) (r3 : Row h (u + 7) 121 m A3) (hm : m < 121) : qVo l mX5_addsPlace 0 0 [.ref u, vI a, vI b, vI c, vI d] h sz (fun h' sz' => Row h' (u + 1) 121 (m + 1) (va_up A0 m a) ∧ Row h' (u + 3) 121 (m + 1) (va_up A1 m b) ∧ Row h' (u + 5) 121 (m + 1) (va_up A2 m c) ∧ Row h' (u + 7) 121 (m + 1) (va_up A3 m d) ∧ Fr h h' (u + 1) (u + 9) ∧ sz' = sz) := by
  refine qC.of 0 (by decide) (le_b rfl) ?_
  refine qV_aload_n (pc := 0) 0 dX5_addsPlace_0 rfl rfl ?_
  refine qV_get (pc := 1) kX5 0 (le_b rfl) lk_X5_14 rfl dX5_addsPlace_1 (by first | assumption | exact hU_self _ _ _ | (refine (hU_ne (by omega)).trans ?_; first | assumption | exact hU_self _ _ _ | (refine (hU_ne (by omega)).trans ?_; first | assumption | exact hU_self _ _ _ | (refine (hU_ne (by omega)).trans ?_; first | assumption | exact hU_self _ _ _)))) (by exact rfl) ?_
  refine qV_iload_n (pc := 4) 1 dX5_addsPlace_4 rfl rfl ?_
  refine qV_voV (pc := 5) (c_add r0 hm) nX3_add kX3 lk_X5_45 dX5_addsPlace_5 r0.obj ⟨le_b rfl, le_b rfl⟩ ⟨le_b rfl, le_b rfl⟩ rfl (le_b rfl) ?_
  rintro h1 _ ⟨q0, f1, rfl⟩
  have ho := (f1 u (by omega)).trans ho
  have r1 := r1.fr f1 (by omega)
  have r2 := r2.fr f1 (by omega)
  have r3 := r3.fr f1 (by omega)
  refine qV_aload_n (pc := 8) 0 dX5_addsPlace_8 rfl rfl ?_
  refine qV_get (pc := 9) kX5 1 (le_b rfl) lk_X5_20 rfl dX5_addsPlace_9 (by first | assumption | exact hU_self _ _ _ | (refine (hU_ne (by omega)).trans ?_; first | assumption | exact hU_self _ _ _ | (refine (hU_ne (by omega)).trans ?_; first | assumption | exact hU_self _ _ _ | (refine (hU_ne (by omega)).trans ?_; first | assumption | exact hU_self _ _ _)))) (by exact rfl) ?_
  refine qV_iload_n (pc := 12) 2 dX5_addsPlace_12 rfl rfl ?_
  refine qV_voV (pc := 13) (c_add r1 hm) nX3_add kX3 lk_X5_45 dX5_addsPlace_13 r1.obj ⟨le_b rfl, le_b rfl⟩ ⟨le_b rfl, le_b rfl⟩ rfl (le_b rfl) ?_
  rintro h2 _ ⟨q1, f2, rfl⟩
  have ho := (f2 u (by omega)).trans ho
  have q0 := q0.fr f2 (by omega)
  have r2 := r2.fr f2 (by omega)
  have r3 := r3.fr f2 (by omega)
  refine qV_aload_n (pc := 16) 0 dX5_addsPlace_16 rfl rfl ?_
  refine qV_get (pc := 17) kX5 2 (le_b rfl) lk_X5_23 rfl dX5_addsPlace_17 (by first | assumption | exact hU_self _ _ _ | (refine (hU_ne (by omega)).trans ?_; first | assumption | exact hU_self _ _ _ | (refine (hU_ne (by omega)).trans ?_; first | assumption | exact hU_self _ _ _ | (refine (hU_ne (by omega)).trans ?_; first | assumption | exact hU_self _ _ _)))) (by exact rfl) ?_
  refine qV_iload_n (pc := 20) 3 dX5_addsPlace_20 rfl rfl ?_
  refine qV_voV (pc := 21) (c_add r2 hm) nX3_add kX3 lk_X5_45 dX5_addsPlace_21 r2.obj ⟨le_b rfl, le_b rfl⟩ ⟨le_b rfl, le_b rfl⟩ rfl (le_b rfl) ?_
  rintro h3 _ ⟨q2, f3, rfl⟩
  have ho := (f3 u (by omega)).trans ho
  have q0 := q0.fr f3 (by omega)
  have q1 := q1.fr f3 (by omega)
  have r3 := r3.fr f3 (by omega)
  refine qV_aload_n (pc := 24) 0 dX5_addsPlace_24 rfl rfl ?_
  refine qV_get (pc := 25) kX5 3 (le_b rfl) lk_X5_26 rfl dX5_addsPlace_25 (by first | assumption | exact hU_self _ _ _ | (refine (hU_ne (by omega)).trans ?_; first | assumption | exact hU_self _ _ _ | (refine (hU_ne (by omega)).trans ?_; first | assumption | exact hU_self _ _ _ | (refine (hU_ne (by omega)).trans ?_; first | assumption | exact hU_self _ _ _)))) (by exact rfl) ?_
  refine qV_iload (pc := 28) 4 dX5_addsPlace_28 rfl ?_
  refine qV_voV (pc := 30) (c_add r3 hm) nX3_add kX3 lk_X5_45 dX5_addsPlace_30 r3.obj ⟨le_b rfl, le_b rfl⟩ ⟨le_b rfl, le_b rfl⟩ rfl (le_b rfl) ?_
  rintro h4 _ ⟨q3, f4, rfl⟩
  have q0 := q0.fr f4 (by omega)
  have q1 := q1.fr f4 (by omega)
  have q2 := q2.fr f4 (by omega)
  refine qV_vret (pc := 33) dX5_addsPlace_33 rfl (le_b rfl) (le_b rfl) ?_
  exact ⟨rfl, q0, q1, q2, q3, ((((f1.wide (by omega) (by omega)).trans (f2.wide (by omega) (by omega))).trans (f3.wide (by omega) (by omega))).trans (f4.wide (by omega) (by omega))), rfl⟩
set_option maxRecDepth 100000 in
set_option maxHeartbeats 4000000 in
theorem c_startsOver {n0 n1 n2 n3 n4 n5 : Nat} {A0 A1 A2 A3 A4 A5 : Nat → Int} (ho : h u = some (sob u s)) (r0 : Row h (u + 1) 121 n0 A0) (r1 : Row h (u + 3) 121 n1 A1) (r2 : Row h (u + 5) 121 n2 A2) (r3 : Row h (u + 7) 121 n3 A3) (r4 : Row h (u + 9) 121 n4 A4) (r5 : Row h (u + 11) 121 n5 A5) (T : Nat → Int) : qVo l mX5_startsOver 0 0 [.ref u] h sz (fun h' sz' => Sums h' u 0 T 0 ∧ Fr h h' u (u + 13) ∧ sz' = sz) := by
  refine qC.of 0 (by decide) (le_b rfl) ?_
  refine qV_aload_n (pc := 0) 0 dX5_startsOver_0 rfl rfl ?_
  refine qV_get (pc := 1) kX5 0 (le_b rfl) lk_X5_14 rfl dX5_startsOver_1 (by first | assumption | exact hU_self _ _ _ | (refine (hU_ne (by omega)).trans ?_; first | assumption | exact hU_self _ _ _ | (refine (hU_ne (by omega)).trans ?_; first | assumption | exact hU_self _ _ _ | (refine (hU_ne (by omega)).trans ?_; first | assumption | exact hU_self _ _ _)))) (by exact rfl) ?_
  refine qV_voV (pc := 4) (c_empties (fun _ => 0) r0) nX3_empties kX3 lk_X5_38 dX5_startsOver_4 r0.obj ⟨le_b rfl, le_b rfl⟩ ⟨le_b rfl, le_b rfl⟩ rfl (le_b rfl) ?_
  rintro h1 _ ⟨q0, f1, rfl⟩
  have ho := (f1 u (by omega)).trans ho
  have r1 := r1.fr f1 (by omega)
  have r2 := r2.fr f1 (by omega)
  have r3 := r3.fr f1 (by omega)
  have r4 := r4.fr f1 (by omega)
  have r5 := r5.fr f1 (by omega)
  refine qV_aload_n (pc := 7) 0 dX5_startsOver_7 rfl rfl ?_
  refine qV_get (pc := 8) kX5 1 (le_b rfl) lk_X5_20 rfl dX5_startsOver_8 (by first | assumption | exact hU_self _ _ _ | (refine (hU_ne (by omega)).trans ?_; first | assumption | exact hU_self _ _ _ | (refine (hU_ne (by omega)).trans ?_; first | assumption | exact hU_self _ _ _ | (refine (hU_ne (by omega)).trans ?_; first | assumption | exact hU_self _ _ _)))) (by exact rfl) ?_
  refine qV_voV (pc := 11) (c_empties (fun _ => 0) r1) nX3_empties kX3 lk_X5_38 dX5_startsOver_11 r1.obj ⟨le_b rfl, le_b rfl⟩ ⟨le_b rfl, le_b rfl⟩ rfl (le_b rfl) ?_
  rintro h2 _ ⟨q1, f2, rfl⟩
  have ho := (f2 u (by omega)).trans ho
  have r2 := r2.fr f2 (by omega)
  have r3 := r3.fr f2 (by omega)
  have r4 := r4.fr f2 (by omega)
  have r5 := r5.fr f2 (by omega)
  have q0 := q0.fr f2 (by omega)
  refine qV_aload_n (pc := 14) 0 dX5_startsOver_14 rfl rfl ?_
  refine qV_get (pc := 15) kX5 2 (le_b rfl) lk_X5_23 rfl dX5_startsOver_15 (by first | assumption | exact hU_self _ _ _ | (refine (hU_ne (by omega)).trans ?_; first | assumption | exact hU_self _ _ _ | (refine (hU_ne (by omega)).trans ?_; first | assumption | exact hU_self _ _ _ | (refine (hU_ne (by omega)).trans ?_; first | assumption | exact hU_self _ _ _)))) (by exact rfl) ?_
  refine qV_voV (pc := 18) (c_empties (fun _ => 0) r2) nX3_empties kX3 lk_X5_38 dX5_startsOver_18 r2.obj ⟨le_b rfl, le_b rfl⟩ ⟨le_b rfl, le_b rfl⟩ rfl (le_b rfl) ?_
  rintro h3 _ ⟨q2, f3, rfl⟩
  have ho := (f3 u (by omega)).trans ho
  have r3 := r3.fr f3 (by omega)
  have r4 := r4.fr f3 (by omega)
  have r5 := r5.fr f3 (by omega)
  have q0 := q0.fr f3 (by omega)
  have q1 := q1.fr f3 (by omega)
  refine qV_aload_n (pc := 21) 0 dX5_startsOver_21 rfl rfl ?_
  refine qV_get (pc := 22) kX5 3 (le_b rfl) lk_X5_26 rfl dX5_startsOver_22 (by first | assumption | exact hU_self _ _ _ | (refine (hU_ne (by omega)).trans ?_; first | assumption | exact hU_self _ _ _ | (refine (hU_ne (by omega)).trans ?_; first | assumption | exact hU_self _ _ _ | (refine (hU_ne (by omega)).trans ?_; first | assumption | exact hU_self _ _ _)))) (by exact rfl) ?_
  refine qV_voV (pc := 25) (c_empties (fun _ => 0) r3) nX3_empties kX3 lk_X5_38 dX5_startsOver_25 r3.obj ⟨le_b rfl, le_b rfl⟩ ⟨le_b rfl, le_b rfl⟩ rfl (le_b rfl) ?_
  rintro h4 _ ⟨q3, f4, rfl⟩
  have ho := (f4 u (by omega)).trans ho
  have r4 := r4.fr f4 (by omega)
  have r5 := r5.fr f4 (by omega)
  have q0 := q0.fr f4 (by omega)
  have q1 := q1.fr f4 (by omega)
  have q2 := q2.fr f4 (by omega)
  refine qV_aload_n (pc := 28) 0 dX5_startsOver_28 rfl rfl ?_
  refine qV_iconst (pc := 29) dX5_startsOver_29 ?_
  refine qV_iconst (pc := 30) dX5_startsOver_30 ?_
  refine qV_iconst (pc := 31) dX5_startsOver_31 ?_
  refine qV_iconst (pc := 32) dX5_startsOver_32 ?_
  refine qV_voV (pc := 33) (c_addsPlace ho q0 q1 q2 q3 (by omega)) nX5_addsPlace kX5 lk_X5_41 dX5_startsOver_33 (by first | assumption | exact hU_self _ _ _ | (refine (hU_ne (by omega)).trans ?_; first | assumption | exact hU_self _ _ _ | (refine (hU_ne (by omega)).trans ?_; first | assumption | exact hU_self _ _ _ | (refine (hU_ne (by omega)).trans ?_; first | assumption | exact hU_self _ _ _)))) ⟨le_b rfl, le_b rfl⟩ ⟨le_b rfl, le_b rfl⟩ rfl (le_b rfl) ?_
  rintro h5 _ ⟨q0, q1, q2, q3, f5, rfl⟩
  have ho := (f5 u (by omega)).trans ho
  have r4 := r4.fr f5 (by omega)
  have r5 := r5.fr f5 (by omega)
  refine qV_aload_n (pc := 36) 0 dX5_startsOver_36 rfl rfl ?_
  refine qV_get (pc := 37) kX5 4 (le_b rfl) lk_X5_29 rfl dX5_startsOver_37 (by first | assumption | exact hU_self _ _ _ | (refine (hU_ne (by omega)).trans ?_; first | assumption | exact hU_self _ _ _ | (refine (hU_ne (by omega)).trans ?_; first | assumption | exact hU_self _ _ _ | (refine (hU_ne (by omega)).trans ?_; first | assumption | exact hU_self _ _ _)))) (by exact rfl) ?_
  refine qV_voV (pc := 40) (c_empties (fun _ => 0) r4) nX3_empties kX3 lk_X5_38 dX5_startsOver_40 r4.obj ⟨le_b rfl, le_b rfl⟩ ⟨le_b rfl, le_b rfl⟩ rfl (le_b rfl) ?_
  rintro h6 _ ⟨q4, f6, rfl⟩
  have ho := (f6 u (by omega)).trans ho
  have r5 := r5.fr f6 (by omega)
  have q0 := q0.fr f6 (by omega)
  have q1 := q1.fr f6 (by omega)
  have q2 := q2.fr f6 (by omega)
  have q3 := q3.fr f6 (by omega)
  refine qV_aload_n (pc := 43) 0 dX5_startsOver_43 rfl rfl ?_
  refine qV_get (pc := 44) kX5 4 (le_b rfl) lk_X5_29 rfl dX5_startsOver_44 (by first | assumption | exact hU_self _ _ _ | (refine (hU_ne (by omega)).trans ?_; first | assumption | exact hU_self _ _ _ | (refine (hU_ne (by omega)).trans ?_; first | assumption | exact hU_self _ _ _ | (refine (hU_ne (by omega)).trans ?_; first | assumption | exact hU_self _ _ _)))) (by exact rfl) ?_
  refine qV_iconst (pc := 47) dX5_startsOver_47 ?_
  refine qV_voV (pc := 48) (c_add q4 (by omega)) nX3_add kX3 lk_X5_45 dX5_startsOver_48 q4.obj ⟨le_b rfl, le_b rfl⟩ ⟨le_b rfl, le_b rfl⟩ rfl (le_b rfl) ?_
  rintro h7 _ ⟨q4, f7, rfl⟩
  have ho := (f7 u (by omega)).trans ho
  have q0 := q0.fr f7 (by omega)
  have q1 := q1.fr f7 (by omega)
  have q2 := q2.fr f7 (by omega)
  have q3 := q3.fr f7 (by omega)
  have r5 := r5.fr f7 (by omega)
  refine qV_aload_n (pc := 51) 0 dX5_startsOver_51 rfl rfl ?_
  refine qV_iconst (pc := 52) dX5_startsOver_52 ?_
  refine qV_put (pc := 53) kX5 6 (le_b rfl) lk_X5_48 rfl rfl rfl rfl dX5_startsOver_53 (by first | assumption | exact hU_self _ _ _ | (refine (hU_ne (by omega)).trans ?_; first | assumption | exact hU_self _ _ _ | (refine (hU_ne (by omega)).trans ?_; first | assumption | exact hU_self _ _ _ | (refine (hU_ne (by omega)).trans ?_; first | assumption | exact hU_self _ _ _)))) (by exact le_b rfl) ?_
  refine qV_vret (pc := 56) dX5_startsOver_56 rfl (le_b rfl) (le_b rfl) ?_
  have f8 : Fr h7 (hU h7 u (sob u 0)) u (u + 1) := Fr.hU (by omega) (by omega)
  have e : ∀ (w : Nat) (j : Nat), j < 0 + 1 → va_up (fun _ => (0 : Int)) 0 0 j = measM T w j := fun w j hj => by
    obtain rfl : j = 0 := by omega
    rw [va_up_self]; rfl
  exact ⟨rfl, ⟨hU_self _ _ _, ⟨(q0.fr f8 (by omega)).congr (e 0), (q1.fr f8 (by omega)).congr (e 1), (q2.fr f8 (by omega)).congr (e 2), (q3.fr f8 (by omega)).congr (e 3)⟩, (q4.fr f8 (by omega)).congr (fun j hj => by
    obtain rfl : j = 0 := by omega
    rw [va_up_self]; rfl), ⟨_, _, r5.fr f8 (by omega), fun q => by omega⟩, Or.inl rfl, by omega⟩, ((((((((f1.wide (by omega) (by omega)).trans (f2.wide (by omega) (by omega))).trans (f3.wide (by omega) (by omega))).trans (f4.wide (by omega) (by omega))).trans (f5.wide (by omega) (by omega))).trans (f6.wide (by omega) (by omega))).trans (f7.wide (by omega) (by omega))).trans (f8.wide (by omega) (by omega))), rfl⟩
set_option maxRecDepth 100000 in
set_option maxHeartbeats 4000000 in
theorem meas_add {i : Nat} {q : Int} {h1 : qH} {No o : Nat} {x5 : Int} (hn : n ≤ 120) (hi : i < n) (hq : q = i) (hd : u + 13 ≤ o ∨ o + 2 ≤ u)
    (ho : h1 u = some (sob u 0)) (hw : SumW h1 u i T) (hb : Row h1 (u + 9) 121 (nl T (i + 1) + 1) (fun k => ((lbN T (i + 1) k : Nat) : Int))) (hx : SumB h1 u i T 0) (hr : Row h1 o No n T) (hf : Fr h h1 u (u + 13))
    (ih : ∀ h2, Sums h2 u (i + 1) T 0 → Row h2 o No n T → Fr h h2 u (u + 13) → qVM l mX5_measures 0 0 h sz (fun v h' sz' => v = none ∧ Sums h' u n T 0 ∧ Fr h h' u (u + 13) ∧ sz' = sz) 0 0 h2 sz 11 [some (.ref u), some (.ref o), some (vI (measM T 1 (i + 1))), some (vI (measM T 3 (i + 1))), some (vI (q + 1)), some (vI x5)] []) : qVM l mX5_measures 0 0 h sz (fun v h' sz' => v = none ∧ Sums h' u n T 0 ∧ Fr h h' u (u + 13) ∧ sz' = sz) 0 0 h1 sz 70 [some (.ref u), some (.ref o), some (vI (measM T 1 (i + 1))), some (vI (measM T 3 (i + 1))), some (vI q), some (vI x5)] [] := by
  have hle := hb.le
  obtain ⟨w0, w1, w2, w3⟩ := hw
  refine qV_aload_n (pc := 70) 0 dX5_measures_70 rfl rfl ?_
  refine qV_iload (pc := 71) 4 dX5_measures_71 rfl ?_
  refine qV_iconst (pc := 73) dX5_measures_73 ?_
  refine qV_iadd (pc := 74) dX5_measures_74 ?_
  refine qV_iload_n (pc := 75) 2 dX5_measures_75 rfl rfl ?_
  refine qV_aload_n (pc := 76) 0 dX5_measures_76 rfl rfl ?_
  refine qV_get (pc := 77) kX5 4 (le_b rfl) lk_X5_29 rfl dX5_measures_77 (by first | assumption | exact hU_self _ _ _ | (refine (hU_ne (by omega)).trans ?_; first | assumption | exact hU_self _ _ _ | (refine (hU_ne (by omega)).trans ?_; first | assumption | exact hU_self _ _ _ | (refine (hU_ne (by omega)).trans ?_; first | assumption | exact hU_self _ _ _)))) (by exact rfl) ?_
  refine qV_rdV (pc := 80) (c_size hb) nX3_size kX3 lk_X5_52 dX5_measures_80 hb.obj ⟨le_b rfl, le_b rfl⟩ ⟨le_b rfl, le_b rfl⟩ rfl (le_b rfl) ?_
  refine qV_iconst (pc := 83) dX5_measures_83 ?_
  refine qV_isub (pc := 84) dX5_measures_84 ?_
  refine qV_iload_n (pc := 85) 3 dX5_measures_85 rfl rfl ?_
  refine qV_voV (pc := 86) (c_addsPlace ho w0 w1 w2 w3 (by omega)) nX5_addsPlace kX5 lk_X5_41 dX5_measures_86 (by first | assumption | exact hU_self _ _ _ | (refine (hU_ne (by omega)).trans ?_; first | assumption | exact hU_self _ _ _ | (refine (hU_ne (by omega)).trans ?_; first | assumption | exact hU_self _ _ _ | (refine (hU_ne (by omega)).trans ?_; first | assumption | exact hU_self _ _ _)))) ⟨le_b rfl, le_b rfl⟩ ⟨le_b rfl, le_b rfl⟩ rfl (le_b rfl) ?_
  rintro h2 _ ⟨q0, q1, q2, q3, f2, rfl⟩
  refine qV_iinc (pc := 89) 4 dX5_measures_89 rfl (le_b rfl) (le_b rfl) rfl ?_
  refine qV_goto (pc := 92) 11 dX5_measures_92 (by decide) ?_
  obtain ⟨m, X, b1, b2⟩ := hx
  have e : ∀ (w : Nat) (v : Int), v = measM T w (i + 1) → ∀ j, j < i + 1 + 1 → va_up (measM T w) (i + 1) v j = measM T w j := fun w v hv j hj => by
    by_cases e : j = i + 1
    · subst e; rw [va_up_self]; exact hv
    · rw [va_up_ne _ _ e]
  exact ih h2 ⟨(f2 u (by omega)).trans ho, ⟨q0.congr (e 0 _ (by rw [measM_0]; omega)), q1.congr (e 1 _ rfl), q2.congr (e 2 _ (by rw [nl_meas]; omega)), q3.congr (e 3 _ rfl)⟩, hb.fr f2 (by omega), ⟨m, X, b1.fr f2 (by omega), fun z => by omega⟩, Or.inl rfl, by omega⟩ (hr.fr f2 (by omega)) (hf.trans (f2.wide (by omega) (by omega)))
set_option maxRecDepth 100000 in
set_option maxHeartbeats 4000000 in
theorem meas_loop {No o : Nat} (hn : n ≤ 120) (hT : ∀ j, j < n → 0 ≤ T j ∧ T j ≤ 255) (hd : u + 13 ≤ o ∨ o + 2 ≤ u) : ∀ (m i : Nat) (q : Int) (h1 : qH) (x5 : Option Value), n - i = m → i ≤ n → q = i → Sums h1 u i T 0 → Row h1 o No n T → Fr h h1 u (u + 13) → qVM l mX5_measures 0 0 h sz (fun v h' sz' => v = none ∧ Sums h' u n T 0 ∧ Fr h h' u (u + 13) ∧ sz' = sz) 0 0 h1 sz 11 [some (.ref u), some (.ref o), some (vI (measM T 1 i)), some (vI (measM T 3 i)), some (vI q), x5] [] := by
  intro m
  induction m with
  | zero =>
    intro i q h1 x5 hm hi hq hs hr hf
    obtain rfl : i = n := by omega
    have hle := hr.le
    refine qV_iload (pc := 11) 4 dX5_measures_11 rfl ?_
    refine qV_aload_n (pc := 13) 1 dX5_measures_13 rfl rfl ?_
    refine qV_rdV (pc := 14) (c_size hr) nX3_size kX3 lk_X5_52 dX5_measures_14 hr.obj ⟨le_b rfl, le_b rfl⟩ ⟨le_b rfl, le_b rfl⟩ rfl (le_b rfl) ?_
    refine qV_icmp_ge (pc := 17) 95 dX5_measures_17 (by decide) ⟨by omega, by omega⟩ ⟨by omega, by omega⟩ (fun c17 => ?_) (fun c17 => ?_)
    · refine qV_vret (pc := 95) dX5_measures_95 rfl (le_b rfl) (le_b rfl) ?_
      exact ⟨rfl, hs, hf, rfl⟩
    · exfalso; omega
  | succ m ih =>
    intro i q h1 x5 hm hi hq hs hr hf
    have hle := hr.le
    have t := hT i (by omega)
    obtain ⟨ho, hw, hb, hx, -, -⟩ := hs
    have hln := hb.le
    have e1 : ∀ v : Int, v = hasM (T i) 1 → measM T 1 i + v = measM T 1 (i + 1) := fun v hv => by rw [hv]; rfl
    have e3 : measM T 3 i + hasM (T i) 3 = measM T 3 (i + 1) := rfl
    have hnl := nl_le T i
    refine qV_iload (pc := 11) 4 dX5_measures_11 rfl ?_
    refine qV_aload_n (pc := 13) 1 dX5_measures_13 rfl rfl ?_
    refine qV_rdV (pc := 14) (c_size hr) nX3_size kX3 lk_X5_52 dX5_measures_14 hr.obj ⟨le_b rfl, le_b rfl⟩ ⟨le_b rfl, le_b rfl⟩ rfl (le_b rfl) ?_
    refine qV_icmp_ge (pc := 17) 95 dX5_measures_17 (by decide) ⟨by omega, by omega⟩ ⟨by omega, by omega⟩ (fun c17 => ?_) (fun c17 => ?_)
    · exfalso; omega
    · refine qV_aload_n (pc := 20) 1 dX5_measures_20 rfl rfl ?_
      refine qV_iload (pc := 21) 4 dX5_measures_21 rfl ?_
      refine qV_rdV (pc := 23) (c_gt hr hq (by omega)) nX3_get kX3 lk_X5_56 dX5_measures_23 hr.obj ⟨le_b rfl, le_b rfl⟩ ⟨le_b rfl, le_b rfl⟩ rfl (le_b rfl) ?_
      refine qV_istore (pc := 26) 5 dX5_measures_26 (le_b rfl) (le_b rfl) rfl ?_
      refine qV_iload_n (pc := 28) 2 dX5_measures_28 rfl rfl ?_
      refine qV_iload (pc := 29) 5 dX5_measures_29 rfl ?_
      refine qV_rdSN (pc := 31) (c_beginsLetter ⟨by omega, by omega⟩) nX6_beginsLetter lk_X5_60 dX5_measures_31 ⟨le_b rfl, le_b rfl⟩ ⟨le_b rfl, le_b rfl⟩ rfl (le_b rfl) ?_
      refine qV_ifeqB (pc := 34) 41 dX5_measures_34 (by decide) (fun c34 => ?_) (fun c34 => ?_)
      · refine qV_iconst (pc := 41) dX5_measures_41 ?_
        refine qV_iadd (pc := 42) dX5_measures_42 ?_
        first | rw [e1 1 (by simp [hasM, c34])] | rw [e1 0 (by simp [hasM, c34])]
        refine qV_istore_n (pc := 43) 2 dX5_measures_43 rfl (le_b rfl) (le_b rfl) rfl ?_
        refine qV_iload_n (pc := 44) 3 dX5_measures_44 rfl rfl ?_
        refine qV_iload (pc := 45) 5 dX5_measures_45 rfl ?_
        refine qV_rdSN (pc := 47) (c_cellsOf ⟨by omega, by omega⟩) nX6_cellsOf lk_X5_64 dX5_measures_47 ⟨le_b rfl, le_b rfl⟩ ⟨le_b rfl, le_b rfl⟩ rfl (le_b rfl) ?_
        refine qV_iadd (pc := 50) dX5_measures_50 ?_
        rw [e3]
        refine qV_istore_n (pc := 51) 3 dX5_measures_51 rfl (le_b rfl) (le_b rfl) rfl ?_
        refine qV_iload (pc := 52) 5 dX5_measures_52 rfl ?_
        refine qV_bipush (pc := 54) dX5_measures_54 rfl ?_
        refine qV_icmp_ne (pc := 56) 70 dX5_measures_56 (by decide) ⟨by omega, by omega⟩ ⟨by omega, by omega⟩ (fun c56 => ?_) (fun c56 => ?_)
        · first
          | (obtain ⟨k, X, b1, b2⟩ := hx
             refine meas_add hn (by omega) hq hd ((f2 u (by omega)).trans ho) (hw.fr f2 (by omega)) ?_ ⟨k, X, b1.fr f2 (by omega), b2⟩ (hr.fr f2 (by omega)) (hf.trans (f2.wide (by omega) (by omega))) (fun h3 s3 r3 f3 => ih (i + 1) _ h3 _ (by omega) (by omega) (by omega) s3 r3 f3)
             simp only [nl, lbN, if_pos c56]
             exact hb2.congr (fun j hj => by
               by_cases e : j = nl T i + 1
               · subst e; rw [va_up_self, va_up_self, hq]; rfl
               · rw [va_up_ne _ _ e, va_up_ne _ _ e]))
          | (refine meas_add hn (by omega) hq hd ho hw ?_ hx hr hf (fun h3 s3 r3 f3 => ih (i + 1) _ h3 _ (by omega) (by omega) (by omega) s3 r3 f3)
             simp only [nl, lbN, if_neg c56]
             exact hb)
        · refine qV_aload_n (pc := 59) 0 dX5_measures_59 rfl rfl ?_
          refine qV_get (pc := 60) kX5 4 (le_b rfl) lk_X5_29 rfl dX5_measures_60 (by first | assumption | exact hU_self _ _ _ | (refine (hU_ne (by omega)).trans ?_; first | assumption | exact hU_self _ _ _ | (refine (hU_ne (by omega)).trans ?_; first | assumption | exact hU_self _ _ _ | (refine (hU_ne (by omega)).trans ?_; first | assumption | exact hU_self _ _ _)))) (by exact rfl) ?_
          refine qV_iload (pc := 63) 4 dX5_measures_63 rfl ?_
          refine qV_iconst (pc := 65) dX5_measures_65 ?_
          refine qV_iadd (pc := 66) dX5_measures_66 ?_
          refine qV_voV (pc := 67) (c_add hb (by omega)) nX3_add kX3 lk_X5_45 dX5_measures_67 hb.obj ⟨le_b rfl, le_b rfl⟩ ⟨le_b rfl, le_b rfl⟩ rfl (le_b rfl) ?_
          rintro h2 _ ⟨hb2, f2, rfl⟩
          first
          | (obtain ⟨k, X, b1, b2⟩ := hx
             refine meas_add hn (by omega) hq hd ((f2 u (by omega)).trans ho) (hw.fr f2 (by omega)) ?_ ⟨k, X, b1.fr f2 (by omega), b2⟩ (hr.fr f2 (by omega)) (hf.trans (f2.wide (by omega) (by omega))) (fun h3 s3 r3 f3 => ih (i + 1) _ h3 _ (by omega) (by omega) (by omega) s3 r3 f3)
             simp only [nl, lbN, if_pos c56]
             exact hb2.congr (fun j hj => by
               by_cases e : j = nl T i + 1
               · subst e; rw [va_up_self, va_up_self, hq]; rfl
               · rw [va_up_ne _ _ e, va_up_ne _ _ e]))
          | (refine meas_add hn (by omega) hq hd ho hw ?_ hx hr hf (fun h3 s3 r3 f3 => ih (i + 1) _ h3 _ (by omega) (by omega) (by omega) s3 r3 f3)
             simp only [nl, lbN, if_neg c56]
             exact hb)
      · refine qV_iconst (pc := 37) dX5_measures_37 ?_
        refine qV_goto (pc := 38) 42 dX5_measures_38 (by decide) ?_
        refine qV_iadd (pc := 42) dX5_measures_42 ?_
        first | rw [e1 1 (by simp [hasM, c34])] | rw [e1 0 (by simp [hasM, c34])]
        refine qV_istore_n (pc := 43) 2 dX5_measures_43 rfl (le_b rfl) (le_b rfl) rfl ?_
        refine qV_iload_n (pc := 44) 3 dX5_measures_44 rfl rfl ?_
        refine qV_iload (pc := 45) 5 dX5_measures_45 rfl ?_
        refine qV_rdSN (pc := 47) (c_cellsOf ⟨by omega, by omega⟩) nX6_cellsOf lk_X5_64 dX5_measures_47 ⟨le_b rfl, le_b rfl⟩ ⟨le_b rfl, le_b rfl⟩ rfl (le_b rfl) ?_
        refine qV_iadd (pc := 50) dX5_measures_50 ?_
        rw [e3]
        refine qV_istore_n (pc := 51) 3 dX5_measures_51 rfl (le_b rfl) (le_b rfl) rfl ?_
        refine qV_iload (pc := 52) 5 dX5_measures_52 rfl ?_
        refine qV_bipush (pc := 54) dX5_measures_54 rfl ?_
        refine qV_icmp_ne (pc := 56) 70 dX5_measures_56 (by decide) ⟨by omega, by omega⟩ ⟨by omega, by omega⟩ (fun c56 => ?_) (fun c56 => ?_)
        · first
          | (obtain ⟨k, X, b1, b2⟩ := hx
             refine meas_add hn (by omega) hq hd ((f2 u (by omega)).trans ho) (hw.fr f2 (by omega)) ?_ ⟨k, X, b1.fr f2 (by omega), b2⟩ (hr.fr f2 (by omega)) (hf.trans (f2.wide (by omega) (by omega))) (fun h3 s3 r3 f3 => ih (i + 1) _ h3 _ (by omega) (by omega) (by omega) s3 r3 f3)
             simp only [nl, lbN, if_pos c56]
             exact hb2.congr (fun j hj => by
               by_cases e : j = nl T i + 1
               · subst e; rw [va_up_self, va_up_self, hq]; rfl
               · rw [va_up_ne _ _ e, va_up_ne _ _ e]))
          | (refine meas_add hn (by omega) hq hd ho hw ?_ hx hr hf (fun h3 s3 r3 f3 => ih (i + 1) _ h3 _ (by omega) (by omega) (by omega) s3 r3 f3)
             simp only [nl, lbN, if_neg c56]
             exact hb)
        · refine qV_aload_n (pc := 59) 0 dX5_measures_59 rfl rfl ?_
          refine qV_get (pc := 60) kX5 4 (le_b rfl) lk_X5_29 rfl dX5_measures_60 (by first | assumption | exact hU_self _ _ _ | (refine (hU_ne (by omega)).trans ?_; first | assumption | exact hU_self _ _ _ | (refine (hU_ne (by omega)).trans ?_; first | assumption | exact hU_self _ _ _ | (refine (hU_ne (by omega)).trans ?_; first | assumption | exact hU_self _ _ _)))) (by exact rfl) ?_
          refine qV_iload (pc := 63) 4 dX5_measures_63 rfl ?_
          refine qV_iconst (pc := 65) dX5_measures_65 ?_
          refine qV_iadd (pc := 66) dX5_measures_66 ?_
          refine qV_voV (pc := 67) (c_add hb (by omega)) nX3_add kX3 lk_X5_45 dX5_measures_67 hb.obj ⟨le_b rfl, le_b rfl⟩ ⟨le_b rfl, le_b rfl⟩ rfl (le_b rfl) ?_
          rintro h2 _ ⟨hb2, f2, rfl⟩
          first
          | (obtain ⟨k, X, b1, b2⟩ := hx
             refine meas_add hn (by omega) hq hd ((f2 u (by omega)).trans ho) (hw.fr f2 (by omega)) ?_ ⟨k, X, b1.fr f2 (by omega), b2⟩ (hr.fr f2 (by omega)) (hf.trans (f2.wide (by omega) (by omega))) (fun h3 s3 r3 f3 => ih (i + 1) _ h3 _ (by omega) (by omega) (by omega) s3 r3 f3)
             simp only [nl, lbN, if_pos c56]
             exact hb2.congr (fun j hj => by
               by_cases e : j = nl T i + 1
               · subst e; rw [va_up_self, va_up_self, hq]; rfl
               · rw [va_up_ne _ _ e, va_up_ne _ _ e]))
          | (refine meas_add hn (by omega) hq hd ho hw ?_ hx hr hf (fun h3 s3 r3 f3 => ih (i + 1) _ h3 _ (by omega) (by omega) (by omega) s3 r3 f3)
             simp only [nl, lbN, if_neg c56]
             exact hb)
set_option maxRecDepth 100000 in
set_option maxHeartbeats 4000000 in
theorem c_measures {n0 No o : Nat} {T0 : Nat → Int} (hs : Sums h u n0 T0 s) (hr : Row h o No n T) (hn : n ≤ 120) (hT : ∀ j, j < n → 0 ≤ T j ∧ T j ≤ 255) (hd : u + 13 ≤ o ∨ o + 2 ≤ u) : qVo l mX5_measures 0 0 [.ref u, .ref o] h sz (fun h' sz' => Sums h' u n T 0 ∧ Fr h h' u (u + 13) ∧ sz' = sz) := by
  obtain ⟨ho, hw, hb, ⟨m, X, hx, -⟩, -, -⟩ := hs
  refine qC.of 4 (by decide) (le_b rfl) ?_
  refine qV_aload_n (pc := 0) 0 dX5_measures_0 rfl rfl ?_
  refine qV_voV (pc := 1) (c_startsOver ho hw.1 hw.2.1 hw.2.2.1 hw.2.2.2 hb hx T) nX5_startsOver kX5 lk_X5_35 dX5_measures_1 (by first | assumption | exact hU_self _ _ _ | (refine (hU_ne (by omega)).trans ?_; first | assumption | exact hU_self _ _ _ | (refine (hU_ne (by omega)).trans ?_; first | assumption | exact hU_self _ _ _ | (refine (hU_ne (by omega)).trans ?_; first | assumption | exact hU_self _ _ _)))) ⟨le_b rfl, le_b rfl⟩ ⟨le_b rfl, le_b rfl⟩ rfl (le_b rfl) ?_
  rintro h1 _ ⟨s1, f1, rfl⟩
  refine qV_iconst (pc := 4) dX5_measures_4 ?_
  refine qV_istore_n (pc := 5) 2 dX5_measures_5 rfl (le_b rfl) (le_b rfl) rfl ?_
  refine qV_iconst (pc := 6) dX5_measures_6 ?_
  refine qV_istore_n (pc := 7) 3 dX5_measures_7 rfl (le_b rfl) (le_b rfl) rfl ?_
  refine qV_iconst (pc := 8) dX5_measures_8 ?_
  refine qV_istore (pc := 9) 4 dX5_measures_9 (le_b rfl) (le_b rfl) rfl ?_
  exact meas_loop hn hT hd n 0 _ h1 _ (by omega) (by omega) rfl s1 (hr.fr f1 (by omega)) f1
set_option maxRecDepth 100000 in
set_option maxHeartbeats 4000000 in
theorem c_rowOf {q : Int} {w : Nat} (hs : Sums h u n T s) (hq : q = w) (hw4 : w < 4) : qRd l mX5_rowOf [.ref u, vI q] h sz (.ref (u + 1 + 2 * w)) := by
  obtain ⟨ho, hw, hb, hx, hs1, hn⟩ := id hs
  subst hq
  rcases (show w = 0 ∨ w = 1 ∨ w = 2 ∨ w = 3 by omega) with rfl | rfl | rfl | rfl
  · refine qC.of 0 (by decide) (le_b rfl) ?_
    refine qV_iload_n (pc := 0) 1 dX5_rowOf_0 rfl rfl ?_
    refine qV_tswOut (pc := 1) 43 dX5_rowOf_1 ⟨by decide, by decide⟩ (by decide) (by decide) ?_
    refine qV_aload_n (pc := 43) 0 dX5_rowOf_43 rfl rfl ?_
    refine qV_get (pc := 44) kX5 0 (le_b rfl) lk_X5_14 rfl dX5_rowOf_44 (by first | assumption | exact hU_self _ _ _ | (refine (hU_ne (by omega)).trans ?_; first | assumption | exact hU_self _ _ _ | (refine (hU_ne (by omega)).trans ?_; first | assumption | exact hU_self _ _ _ | (refine (hU_ne (by omega)).trans ?_; first | assumption | exact hU_self _ _ _)))) (by exact rfl) ?_
    refine qV_aret (pc := 47) dX5_rowOf_47 rfl (Or.inl ⟨_, rfl⟩) (by first | exact Or.inl rfl | exact Or.inr ⟨_, rfl⟩) (le_b rfl) (le_b rfl) ?_
    exact ⟨rfl, rfl, rfl⟩
  · refine qC.of 0 (by decide) (le_b rfl) ?_
    refine qV_iload_n (pc := 0) 1 dX5_rowOf_0 rfl rfl ?_
    refine qV_tswIn (pc := 1) 28 dX5_rowOf_1 ⟨by decide, by decide⟩ (by decide) (by decide) rfl (by decide) ?_
    refine qV_aload_n (pc := 28) 0 dX5_rowOf_28 rfl rfl ?_
    refine qV_get (pc := 29) kX5 1 (le_b rfl) lk_X5_20 rfl dX5_rowOf_29 (by first | assumption | exact hU_self _ _ _ | (refine (hU_ne (by omega)).trans ?_; first | assumption | exact hU_self _ _ _ | (refine (hU_ne (by omega)).trans ?_; first | assumption | exact hU_self _ _ _ | (refine (hU_ne (by omega)).trans ?_; first | assumption | exact hU_self _ _ _)))) (by exact rfl) ?_
    refine qV_aret (pc := 32) dX5_rowOf_32 rfl (Or.inl ⟨_, rfl⟩) (by first | exact Or.inl rfl | exact Or.inr ⟨_, rfl⟩) (le_b rfl) (le_b rfl) ?_
    exact ⟨rfl, rfl, rfl⟩
  · refine qC.of 0 (by decide) (le_b rfl) ?_
    refine qV_iload_n (pc := 0) 1 dX5_rowOf_0 rfl rfl ?_
    refine qV_tswIn (pc := 1) 33 dX5_rowOf_1 ⟨by decide, by decide⟩ (by decide) (by decide) rfl (by decide) ?_
    refine qV_aload_n (pc := 33) 0 dX5_rowOf_33 rfl rfl ?_
    refine qV_get (pc := 34) kX5 2 (le_b rfl) lk_X5_23 rfl dX5_rowOf_34 (by first | assumption | exact hU_self _ _ _ | (refine (hU_ne (by omega)).trans ?_; first | assumption | exact hU_self _ _ _ | (refine (hU_ne (by omega)).trans ?_; first | assumption | exact hU_self _ _ _ | (refine (hU_ne (by omega)).trans ?_; first | assumption | exact hU_self _ _ _)))) (by exact rfl) ?_
    refine qV_aret (pc := 37) dX5_rowOf_37 rfl (Or.inl ⟨_, rfl⟩) (by first | exact Or.inl rfl | exact Or.inr ⟨_, rfl⟩) (le_b rfl) (le_b rfl) ?_
    exact ⟨rfl, rfl, rfl⟩
  · refine qC.of 0 (by decide) (le_b rfl) ?_
    refine qV_iload_n (pc := 0) 1 dX5_rowOf_0 rfl rfl ?_
    refine qV_tswIn (pc := 1) 38 dX5_rowOf_1 ⟨by decide, by decide⟩ (by decide) (by decide) rfl (by decide) ?_
    refine qV_aload_n (pc := 38) 0 dX5_rowOf_38 rfl rfl ?_
    refine qV_get (pc := 39) kX5 3 (le_b rfl) lk_X5_26 rfl dX5_rowOf_39 (by first | assumption | exact hU_self _ _ _ | (refine (hU_ne (by omega)).trans ?_; first | assumption | exact hU_self _ _ _ | (refine (hU_ne (by omega)).trans ?_; first | assumption | exact hU_self _ _ _ | (refine (hU_ne (by omega)).trans ?_; first | assumption | exact hU_self _ _ _)))) (by exact rfl) ?_
    refine qV_aret (pc := 42) dX5_rowOf_42 rfl (Or.inl ⟨_, rfl⟩) (by first | exact Or.inl rfl | exact Or.inr ⟨_, rfl⟩) (le_b rfl) (le_b rfl) ?_
    exact ⟨rfl, rfl, rfl⟩
set_option maxRecDepth 100000 in
set_option maxHeartbeats 4000000 in
theorem c_ahead {q x : Int} {w j : Nat} (hs : Sums h u n T s) (hq : q = w) (hw4 : w < 4) (hx0 : x = j) (hj : j ≤ n) : qRd l mX5_ahead [.ref u, vI q, vI x] h sz (vI (measM T w j)) := by
  obtain ⟨ho, hw, hb, hx, hs1, hn⟩ := id hs
  have hr := hw.at hw4
  refine qC.of 0 (by decide) (le_b rfl) ?_
  refine qV_aload_n (pc := 0) 0 dX5_ahead_0 rfl rfl ?_
  refine qV_iload_n (pc := 1) 1 dX5_ahead_1 rfl rfl ?_
  refine qV_rdV (pc := 2) (c_rowOf hs hq hw4) nX5_rowOf kX5 lk_X5_67 dX5_ahead_2 (by first | assumption | exact hU_self _ _ _ | (refine (hU_ne (by omega)).trans ?_; first | assumption | exact hU_self _ _ _ | (refine (hU_ne (by omega)).trans ?_; first | assumption | exact hU_self _ _ _ | (refine (hU_ne (by omega)).trans ?_; first | assumption | exact hU_self _ _ _)))) ⟨le_b rfl, le_b rfl⟩ ⟨le_b rfl, le_b rfl⟩ rfl (le_b rfl) ?_
  refine qV_iload_n (pc := 5) 2 dX5_ahead_5 rfl rfl ?_
  refine qV_rdV (pc := 6) (c_gt hr hx0 (by omega)) nX3_get kX3 lk_X5_56 dX5_ahead_6 hr.obj ⟨le_b rfl, le_b rfl⟩ ⟨le_b rfl, le_b rfl⟩ rfl (le_b rfl) ?_
  refine qV_iret (pc := 9) dX5_ahead_9 rfl (le_b rfl) (le_b rfl) ?_
  exact ⟨rfl, rfl, rfl⟩
set_option maxRecDepth 100000 in
set_option maxHeartbeats 4000000 in
theorem c_between {q x y : Int} {w i j : Nat} (hs : Sums h u n T s) (hq : q = w) (hw4 : w < 4) (hx0 : x = i) (hi : i ≤ n) (hy0 : y = j) (hj : j ≤ n) : qRd l mX5_between [.ref u, vI q, vI x, vI y] h sz (vI (measM T w j - measM T w i)) := by
  obtain ⟨ho, hw, hb, hx, hs1, hn⟩ := id hs
  refine qC.of 0 (by decide) (le_b rfl) ?_
  refine qV_aload_n (pc := 0) 0 dX5_between_0 rfl rfl ?_
  refine qV_iload_n (pc := 1) 1 dX5_between_1 rfl rfl ?_
  refine qV_iload_n (pc := 2) 3 dX5_between_2 rfl rfl ?_
  refine qV_rdV (pc := 3) (c_ahead hs hq hw4 hy0 hj) nX5_ahead kX5 lk_X5_71 dX5_between_3 (by first | assumption | exact hU_self _ _ _ | (refine (hU_ne (by omega)).trans ?_; first | assumption | exact hU_self _ _ _ | (refine (hU_ne (by omega)).trans ?_; first | assumption | exact hU_self _ _ _ | (refine (hU_ne (by omega)).trans ?_; first | assumption | exact hU_self _ _ _)))) ⟨le_b rfl, le_b rfl⟩ ⟨le_b rfl, le_b rfl⟩ rfl (le_b rfl) ?_
  refine qV_aload_n (pc := 6) 0 dX5_between_6 rfl rfl ?_
  refine qV_iload_n (pc := 7) 1 dX5_between_7 rfl rfl ?_
  refine qV_iload_n (pc := 8) 2 dX5_between_8 rfl rfl ?_
  refine qV_rdV (pc := 9) (c_ahead hs hq hw4 hx0 hi) nX5_ahead kX5 lk_X5_71 dX5_between_9 (by first | assumption | exact hU_self _ _ _ | (refine (hU_ne (by omega)).trans ?_; first | assumption | exact hU_self _ _ _ | (refine (hU_ne (by omega)).trans ?_; first | assumption | exact hU_self _ _ _ | (refine (hU_ne (by omega)).trans ?_; first | assumption | exact hU_self _ _ _)))) ⟨le_b rfl, le_b rfl⟩ ⟨le_b rfl, le_b rfl⟩ rfl (le_b rfl) ?_
  refine qV_isub (pc := 12) dX5_between_12 ?_
  refine qV_iret (pc := 13) dX5_between_13 rfl (le_b rfl) (le_b rfl) ?_
  exact ⟨rfl, rfl, rfl⟩
set_option maxRecDepth 100000 in
set_option maxHeartbeats 4000000 in
theorem c_lastPlace (hs : Sums h u n T s) : qRd l mX5_lastPlace [.ref u] h sz (vI n) := by
  obtain ⟨ho, hw, hb, hx, hs1, hn⟩ := id hs
  refine qC.of 0 (by decide) (le_b rfl) ?_
  refine qV_aload_n (pc := 0) 0 dX5_lastPlace_0 rfl rfl ?_
  refine qV_get (pc := 1) kX5 0 (le_b rfl) lk_X5_14 rfl dX5_lastPlace_1 (by first | assumption | exact hU_self _ _ _ | (refine (hU_ne (by omega)).trans ?_; first | assumption | exact hU_self _ _ _ | (refine (hU_ne (by omega)).trans ?_; first | assumption | exact hU_self _ _ _ | (refine (hU_ne (by omega)).trans ?_; first | assumption | exact hU_self _ _ _)))) (by exact rfl) ?_
  refine qV_rdV (pc := 4) (c_size hw.1) nX3_size kX3 lk_X5_52 dX5_lastPlace_4 hw.1.obj ⟨le_b rfl, le_b rfl⟩ ⟨le_b rfl, le_b rfl⟩ rfl (le_b rfl) ?_
  refine qV_iconst (pc := 7) dX5_lastPlace_7 ?_
  refine qV_isub (pc := 8) dX5_lastPlace_8 ?_
  refine qV_iret (pc := 9) dX5_lastPlace_9 rfl (le_b rfl) (le_b rfl) ?_
  exact ⟨by congr 2; omega, rfl, rfl⟩
set_option maxRecDepth 100000 in
set_option maxHeartbeats 4000000 in
theorem c_total {q : Int} {w : Nat} (hs : Sums h u n T s) (hq : q = w) (hw4 : w < 4) : qRd l mX5_total [.ref u, vI q] h sz (vI (measM T w n)) := by
  obtain ⟨ho, hw, hb, hx, hs1, hn⟩ := id hs
  refine qC.of 0 (by decide) (le_b rfl) ?_
  refine qV_aload_n (pc := 0) 0 dX5_total_0 rfl rfl ?_
  refine qV_iload_n (pc := 1) 1 dX5_total_1 rfl rfl ?_
  refine qV_aload_n (pc := 2) 0 dX5_total_2 rfl rfl ?_
  refine qV_rdV (pc := 3) (c_lastPlace hs) nX5_lastPlace kX5 lk_X5_75 dX5_total_3 (by first | assumption | exact hU_self _ _ _ | (refine (hU_ne (by omega)).trans ?_; first | assumption | exact hU_self _ _ _ | (refine (hU_ne (by omega)).trans ?_; first | assumption | exact hU_self _ _ _ | (refine (hU_ne (by omega)).trans ?_; first | assumption | exact hU_self _ _ _)))) ⟨le_b rfl, le_b rfl⟩ ⟨le_b rfl, le_b rfl⟩ rfl (le_b rfl) ?_
  refine qV_rdV (pc := 6) (c_ahead hs hq hw4 rfl (Nat.le_refl n)) nX5_ahead kX5 lk_X5_71 dX5_total_6 (by first | assumption | exact hU_self _ _ _ | (refine (hU_ne (by omega)).trans ?_; first | assumption | exact hU_self _ _ _ | (refine (hU_ne (by omega)).trans ?_; first | assumption | exact hU_self _ _ _ | (refine (hU_ne (by omega)).trans ?_; first | assumption | exact hU_self _ _ _)))) ⟨le_b rfl, le_b rfl⟩ ⟨le_b rfl, le_b rfl⟩ rfl (le_b rfl) ?_
  refine qV_iret (pc := 9) dX5_total_9 rfl (le_b rfl) (le_b rfl) ?_
  exact ⟨rfl, rfl, rfl⟩
set_option maxRecDepth 100000 in
set_option maxHeartbeats 4000000 in
theorem c_lines (hs : Sums h u n T s) : qRd l mX5_lines [.ref u] h sz (vI (((nl T n + 1 : Nat)) : Int)) := by
  obtain ⟨ho, hw, hb, hx, hs1, hn⟩ := id hs
  refine qC.of 0 (by decide) (le_b rfl) ?_
  refine qV_aload_n (pc := 0) 0 dX5_lines_0 rfl rfl ?_
  refine qV_get (pc := 1) kX5 4 (le_b rfl) lk_X5_29 rfl dX5_lines_1 (by first | assumption | exact hU_self _ _ _ | (refine (hU_ne (by omega)).trans ?_; first | assumption | exact hU_self _ _ _ | (refine (hU_ne (by omega)).trans ?_; first | assumption | exact hU_self _ _ _ | (refine (hU_ne (by omega)).trans ?_; first | assumption | exact hU_self _ _ _)))) (by exact rfl) ?_
  refine qV_rdV (pc := 4) (c_size hb) nX3_size kX3 lk_X5_52 dX5_lines_4 hb.obj ⟨le_b rfl, le_b rfl⟩ ⟨le_b rfl, le_b rfl⟩ rfl (le_b rfl) ?_
  refine qV_iret (pc := 7) dX5_lines_7 rfl (le_b rfl) (le_b rfl) ?_
  exact ⟨rfl, rfl, rfl⟩
set_option maxRecDepth 100000 in
set_option maxHeartbeats 4000000 in
theorem c_lineBegin {q : Int} {k : Nat} (hs : Sums h u n T s) (hq : q = k) (hk : k ≤ nl T n) : qRd l mX5_lineBegin [.ref u, vI q] h sz (vI ((lbN T n k : Nat) : Int)) := by
  obtain ⟨ho, hw, hb, hx, hs1, hn⟩ := id hs
  refine qC.of 0 (by decide) (le_b rfl) ?_
  refine qV_aload_n (pc := 0) 0 dX5_lineBegin_0 rfl rfl ?_
  refine qV_get (pc := 1) kX5 4 (le_b rfl) lk_X5_29 rfl dX5_lineBegin_1 (by first | assumption | exact hU_self _ _ _ | (refine (hU_ne (by omega)).trans ?_; first | assumption | exact hU_self _ _ _ | (refine (hU_ne (by omega)).trans ?_; first | assumption | exact hU_self _ _ _ | (refine (hU_ne (by omega)).trans ?_; first | assumption | exact hU_self _ _ _)))) (by exact rfl) ?_
  refine qV_iload_n (pc := 4) 1 dX5_lineBegin_4 rfl rfl ?_
  refine qV_rdV (pc := 5) (c_gt hb hq (by omega)) nX3_get kX3 lk_X5_56 dX5_lineBegin_5 hb.obj ⟨le_b rfl, le_b rfl⟩ ⟨le_b rfl, le_b rfl⟩ rfl (le_b rfl) ?_
  refine qV_iret (pc := 8) dX5_lineBegin_8 rfl (le_b rfl) (le_b rfl) ?_
  exact ⟨rfl, rfl, rfl⟩
set_option maxRecDepth 100000 in
set_option maxHeartbeats 4000000 in
theorem c_lineEnd {q : Int} {k : Nat} (hs : Sums h u n T s) (hq : q = k) (hk : k ≤ nl T n) : qRd l mX5_lineEnd [.ref u, vI q] h sz (vI ((lnE T n k : Nat) : Int)) := by
  obtain ⟨ho, hw, hb, hx, hs1, hn⟩ := id hs
  have hle := hb.le
  have hln := nl_le T n
  refine qC.of 0 (by decide) (le_b rfl) ?_
  refine qV_iload_n (pc := 0) 1 dX5_lineEnd_0 rfl rfl ?_
  refine qV_iconst (pc := 1) dX5_lineEnd_1 ?_
  refine qV_iadd (pc := 2) dX5_lineEnd_2 ?_
  refine qV_aload_n (pc := 3) 0 dX5_lineEnd_3 rfl rfl ?_
  refine qV_rdV (pc := 4) (c_lines hs) nX5_lines kX5 lk_X5_89 dX5_lineEnd_4 (by first | assumption | exact hU_self _ _ _ | (refine (hU_ne (by omega)).trans ?_; first | assumption | exact hU_self _ _ _ | (refine (hU_ne (by omega)).trans ?_; first | assumption | exact hU_self _ _ _ | (refine (hU_ne (by omega)).trans ?_; first | assumption | exact hU_self _ _ _)))) ⟨le_b rfl, le_b rfl⟩ ⟨le_b rfl, le_b rfl⟩ rfl (le_b rfl) ?_
  refine qV_icmp_ge (pc := 7) 22 dX5_lineEnd_7 (by decide) ⟨by omega, by omega⟩ ⟨by omega, by omega⟩ (fun c7 => ?_) (fun c7 => ?_)
  · refine qV_aload_n (pc := 22) 0 dX5_lineEnd_22 rfl rfl ?_
    refine qV_rdV (pc := 23) (c_lastPlace hs) nX5_lastPlace kX5 lk_X5_75 dX5_lineEnd_23 (by first | assumption | exact hU_self _ _ _ | (refine (hU_ne (by omega)).trans ?_; first | assumption | exact hU_self _ _ _ | (refine (hU_ne (by omega)).trans ?_; first | assumption | exact hU_self _ _ _ | (refine (hU_ne (by omega)).trans ?_; first | assumption | exact hU_self _ _ _)))) ⟨le_b rfl, le_b rfl⟩ ⟨le_b rfl, le_b rfl⟩ rfl (le_b rfl) ?_
    refine qV_iret (pc := 26) dX5_lineEnd_26 rfl (le_b rfl) (le_b rfl) ?_
    first
    | exact ⟨by simp only [lnE]; rw [if_neg (by omega)], rfl, rfl⟩
    | exact ⟨by simp only [lnE]; rw [if_pos (by omega)]; congr 2; omega, rfl, rfl⟩
  · have hlt := lb_lt (T := T) (n := n) (k := k) (by omega)
    refine qV_aload_n (pc := 10) 0 dX5_lineEnd_10 rfl rfl ?_
    refine qV_iload_n (pc := 11) 1 dX5_lineEnd_11 rfl rfl ?_
    refine qV_iconst (pc := 12) dX5_lineEnd_12 ?_
    refine qV_iadd (pc := 13) dX5_lineEnd_13 ?_
    refine qV_rdV (pc := 14) (c_lineBegin (k := k + 1) hs (by omega) (by omega)) nX5_lineBegin kX5 lk_X5_78 dX5_lineEnd_14 (by first | assumption | exact hU_self _ _ _ | (refine (hU_ne (by omega)).trans ?_; first | assumption | exact hU_self _ _ _ | (refine (hU_ne (by omega)).trans ?_; first | assumption | exact hU_self _ _ _ | (refine (hU_ne (by omega)).trans ?_; first | assumption | exact hU_self _ _ _)))) ⟨le_b rfl, le_b rfl⟩ ⟨le_b rfl, le_b rfl⟩ rfl (le_b rfl) ?_
    refine qV_iconst (pc := 17) dX5_lineEnd_17 ?_
    refine qV_isub (pc := 18) dX5_lineEnd_18 ?_
    refine qV_goto (pc := 19) 26 dX5_lineEnd_19 (by decide) ?_
    refine qV_iret (pc := 26) dX5_lineEnd_26 rfl (le_b rfl) (le_b rfl) ?_
    first
    | exact ⟨by simp only [lnE]; rw [if_neg (by omega)], rfl, rfl⟩
    | exact ⟨by simp only [lnE]; rw [if_pos (by omega)]; congr 2; omega, rfl, rfl⟩
set_option maxRecDepth 100000 in
set_option maxHeartbeats 4000000 in
theorem c_lineWidth {q : Int} {k : Nat} (hs : Sums h u n T s) (hq : q = k) (hk : k ≤ nl T n) : qRd l mX5_lineWidth [.ref u, vI q] h sz (vI (lnW T n k)) := by
  obtain ⟨ho, hw, hb, hx, hs1, hn⟩ := id hs
  have he := lnE_in hk
  refine qC.of 0 (by decide) (le_b rfl) ?_
  refine qV_aload_n (pc := 0) 0 dX5_lineWidth_0 rfl rfl ?_
  refine qV_iconst (pc := 1) dX5_lineWidth_1 ?_
  refine qV_aload_n (pc := 2) 0 dX5_lineWidth_2 rfl rfl ?_
  refine qV_iload_n (pc := 3) 1 dX5_lineWidth_3 rfl rfl ?_
  refine qV_rdV (pc := 4) (c_lineBegin hs hq hk) nX5_lineBegin kX5 lk_X5_78 dX5_lineWidth_4 (by first | assumption | exact hU_self _ _ _ | (refine (hU_ne (by omega)).trans ?_; first | assumption | exact hU_self _ _ _ | (refine (hU_ne (by omega)).trans ?_; first | assumption | exact hU_self _ _ _ | (refine (hU_ne (by omega)).trans ?_; first | assumption | exact hU_self _ _ _)))) ⟨le_b rfl, le_b rfl⟩ ⟨le_b rfl, le_b rfl⟩ rfl (le_b rfl) ?_
  refine qV_aload_n (pc := 7) 0 dX5_lineWidth_7 rfl rfl ?_
  refine qV_iload_n (pc := 8) 1 dX5_lineWidth_8 rfl rfl ?_
  refine qV_rdV (pc := 9) (c_lineEnd hs hq hk) nX5_lineEnd kX5 lk_X5_92 dX5_lineWidth_9 (by first | assumption | exact hU_self _ _ _ | (refine (hU_ne (by omega)).trans ?_; first | assumption | exact hU_self _ _ _ | (refine (hU_ne (by omega)).trans ?_; first | assumption | exact hU_self _ _ _ | (refine (hU_ne (by omega)).trans ?_; first | assumption | exact hU_self _ _ _)))) ⟨le_b rfl, le_b rfl⟩ ⟨le_b rfl, le_b rfl⟩ rfl (le_b rfl) ?_
  refine qV_rdV (pc := 12) (c_between (w := 3) hs rfl (by omega) rfl (by omega) rfl (by omega)) nX5_between kX5 lk_X5_85 dX5_lineWidth_12 (by first | assumption | exact hU_self _ _ _ | (refine (hU_ne (by omega)).trans ?_; first | assumption | exact hU_self _ _ _ | (refine (hU_ne (by omega)).trans ?_; first | assumption | exact hU_self _ _ _ | (refine (hU_ne (by omega)).trans ?_; first | assumption | exact hU_self _ _ _)))) ⟨le_b rfl, le_b rfl⟩ ⟨le_b rfl, le_b rfl⟩ rfl (le_b rfl) ?_
  refine qV_iret (pc := 15) dX5_lineWidth_15 rfl (le_b rfl) (le_b rfl) ?_
  exact ⟨rfl, rfl, rfl⟩
set_option maxRecDepth 100000 in
set_option maxHeartbeats 4000000 in
theorem far_loop {w a b : Nat} {v0 : Int} (hs : Sums h u n T s) (hw4 : w < 4) (hab : a ≤ b) (hbn : b ≤ n) (hv : iR v0) : ∀ (d p : Nat) (q : Int), b - p = d → a ≤ p → p ≤ b → q = p → far T w a v0 d p = far T w a v0 (b - a) a → qVM l mX5_farthest 0 0 h sz (fun v h' sz' => v = some (vI ((far T w a v0 (b - a) a : Nat) : Int)) ∧ h' = h ∧ sz' = sz) 0 0 h sz 3 [some (.ref u), some (vI w), some (vI a), some (vI b), some (vI v0), some (vI q)] [] := by
  obtain ⟨ho, hw, hb, hx, hs1, hn⟩ := id hs
  obtain ⟨v1, v2⟩ := hv
  intro d
  induction d with
  | zero =>
    intro p q hd ha hp hq he
    obtain rfl : p = b := by omega
    refine qV_iload (pc := 3) 5 dX5_farthest_3 rfl ?_
    refine qV_iload_n (pc := 5) 3 dX5_farthest_5 rfl rfl ?_
    refine qV_icmp_ge (pc := 6) 30 dX5_farthest_6 (by decide) ⟨by omega, by omega⟩ ⟨by omega, by omega⟩ (fun c6 => ?_) (fun c6 => ?_)
    · refine qV_iload (pc := 30) 5 dX5_farthest_30 rfl ?_
      refine qV_iret (pc := 32) dX5_farthest_32 rfl (le_b rfl) (le_b rfl) ?_
      exact ⟨by rw [← he, hq]; rfl, rfl, rfl⟩
    · exfalso; omega
  | succ d ih =>
    intro p q hd ha hp hq he
    have m1 := measM_in T w (p + 1)
    have m2 := measM_in T w a
    refine qV_iload (pc := 3) 5 dX5_farthest_3 rfl ?_
    refine qV_iload_n (pc := 5) 3 dX5_farthest_5 rfl rfl ?_
    refine qV_icmp_ge (pc := 6) 30 dX5_farthest_6 (by decide) ⟨by omega, by omega⟩ ⟨by omega, by omega⟩ (fun c6 => ?_) (fun c6 => ?_)
    · exfalso; omega
    · refine qV_aload_n (pc := 9) 0 dX5_farthest_9 rfl rfl ?_
      refine qV_iload_n (pc := 10) 1 dX5_farthest_10 rfl rfl ?_
      refine qV_iload_n (pc := 11) 2 dX5_farthest_11 rfl rfl ?_
      refine qV_iload (pc := 12) 5 dX5_farthest_12 rfl ?_
      refine qV_iconst (pc := 14) dX5_farthest_14 ?_
      refine qV_iadd (pc := 15) dX5_farthest_15 ?_
      refine qV_rdV (pc := 16) (c_between (w := w) (i := a) (j := p + 1) hs rfl hw4 rfl (by omega) (by omega) (by omega)) nX5_between kX5 lk_X5_85 dX5_farthest_16 (by first | assumption | exact hU_self _ _ _ | (refine (hU_ne (by omega)).trans ?_; first | assumption | exact hU_self _ _ _ | (refine (hU_ne (by omega)).trans ?_; first | assumption | exact hU_self _ _ _ | (refine (hU_ne (by omega)).trans ?_; first | assumption | exact hU_self _ _ _)))) ⟨le_b rfl, le_b rfl⟩ ⟨le_b rfl, le_b rfl⟩ rfl (le_b rfl) ?_
      refine qV_iload (pc := 19) 4 dX5_farthest_19 rfl ?_
      refine qV_icmp_gt (pc := 21) 30 dX5_farthest_21 (by decide) ⟨by omega, by omega⟩ ⟨by omega, by omega⟩ (fun c21 => ?_) (fun c21 => ?_)
      · refine qV_iload (pc := 30) 5 dX5_farthest_30 rfl ?_
        refine qV_iret (pc := 32) dX5_farthest_32 rfl (le_b rfl) (le_b rfl) ?_
        exact ⟨by rw [← he, hq]; simp only [far]; rw [if_neg (by omega)], rfl, rfl⟩
      · refine qV_iinc (pc := 24) 5 dX5_farthest_24 rfl (le_b rfl) (le_b rfl) rfl ?_
        refine qV_goto (pc := 27) 3 dX5_farthest_27 (by decide) ?_
        exact ih (p + 1) _ (by omega) (by omega) (by omega) (by omega) (by rw [← he]; simp only [far]; rw [if_pos (by omega)])
set_option maxRecDepth 100000 in
set_option maxHeartbeats 4000000 in
theorem c_farthest {q x y v0 : Int} {w a b : Nat} (hs : Sums h u n T s) (hq : q = w) (hw4 : w < 4) (hx0 : x = a) (hab : a ≤ b) (hy0 : y = b) (hbn : b ≤ n) (hv : iR v0) : qRd l mX5_farthest [.ref u, vI q, vI x, vI y, vI v0] h sz (vI ((far T w a v0 (b - a) a : Nat) : Int)) := by
  subst hq; subst hx0; subst hy0
  refine qC.of 1 (by decide) (le_b rfl) ?_
  refine qV_iload_n (pc := 0) 2 dX5_farthest_0 rfl rfl ?_
  refine qV_istore (pc := 1) 5 dX5_farthest_1 (le_b rfl) (le_b rfl) rfl ?_
  exact far_loop hs hw4 hab hbn hv (b - a) a _ rfl (Nat.le_refl a) hab rfl rfl
set_option maxRecDepth 100000 in
set_option maxHeartbeats 4000000 in
theorem c_placeBy {q v0 : Int} {w : Nat} (hs : Sums h u n T s) (hq : q = w) (hw4 : w < 4) (h0 : 0 ≤ v0) (hv : v0 ≤ measM T w n) : qRd l mX5_placeBy [.ref u, vI q, vI v0] h sz (vI ((if w = 2 then lbN T n v0.toNat else far T w 0 v0 n 0 : Nat) : Int)) := by
  obtain ⟨ho, hw, hb, hx, hs1, hn⟩ := id hs
  have hm := measM_in T w n
  refine qC.of 0 (by decide) (le_b rfl) ?_
  refine qV_iload_n (pc := 0) 1 dX5_placeBy_0 rfl rfl ?_
  refine qV_iconst (pc := 1) dX5_placeBy_1 ?_
  refine qV_icmp_ne (pc := 2) 11 dX5_placeBy_2 (by decide) ⟨by omega, by omega⟩ ⟨by omega, by omega⟩ (fun c2 => ?_) (fun c2 => ?_)
  · refine qV_aload_n (pc := 11) 0 dX5_placeBy_11 rfl rfl ?_
    refine qV_iload_n (pc := 12) 1 dX5_placeBy_12 rfl rfl ?_
    refine qV_iconst (pc := 13) dX5_placeBy_13 ?_
    refine qV_aload_n (pc := 14) 0 dX5_placeBy_14 rfl rfl ?_
    refine qV_rdV (pc := 15) (c_lastPlace hs) nX5_lastPlace kX5 lk_X5_75 dX5_placeBy_15 (by first | assumption | exact hU_self _ _ _ | (refine (hU_ne (by omega)).trans ?_; first | assumption | exact hU_self _ _ _ | (refine (hU_ne (by omega)).trans ?_; first | assumption | exact hU_self _ _ _ | (refine (hU_ne (by omega)).trans ?_; first | assumption | exact hU_self _ _ _)))) ⟨le_b rfl, le_b rfl⟩ ⟨le_b rfl, le_b rfl⟩ rfl (le_b rfl) ?_
    refine qV_iload_n (pc := 18) 2 dX5_placeBy_18 rfl rfl ?_
    refine qV_rdV (pc := 19) (c_farthest (w := w) (a := 0) (b := n) hs hq hw4 rfl (by omega) rfl (Nat.le_refl n) ⟨by omega, by omega⟩) nX5_farthest kX5 lk_X5_81 dX5_placeBy_19 (by first | assumption | exact hU_self _ _ _ | (refine (hU_ne (by omega)).trans ?_; first | assumption | exact hU_self _ _ _ | (refine (hU_ne (by omega)).trans ?_; first | assumption | exact hU_self _ _ _ | (refine (hU_ne (by omega)).trans ?_; first | assumption | exact hU_self _ _ _)))) ⟨le_b rfl, le_b rfl⟩ ⟨le_b rfl, le_b rfl⟩ rfl (le_b rfl) ?_
    refine qV_iret (pc := 22) dX5_placeBy_22 rfl (le_b rfl) (le_b rfl) ?_
    first | exact ⟨by rw [if_pos (by omega)], rfl, rfl⟩ | exact ⟨by rw [if_neg (by omega)]; rfl, rfl, rfl⟩
  · have h2 : w = 2 := by omega
    subst h2
    rw [nl_meas] at hv
    refine qV_aload_n (pc := 5) 0 dX5_placeBy_5 rfl rfl ?_
    refine qV_iload_n (pc := 6) 2 dX5_placeBy_6 rfl rfl ?_
    refine qV_rdV (pc := 7) (c_lineBegin (k := v0.toNat) hs (by omega) (by omega)) nX5_lineBegin kX5 lk_X5_78 dX5_placeBy_7 (by first | assumption | exact hU_self _ _ _ | (refine (hU_ne (by omega)).trans ?_; first | assumption | exact hU_self _ _ _ | (refine (hU_ne (by omega)).trans ?_; first | assumption | exact hU_self _ _ _ | (refine (hU_ne (by omega)).trans ?_; first | assumption | exact hU_self _ _ _)))) ⟨le_b rfl, le_b rfl⟩ ⟨le_b rfl, le_b rfl⟩ rfl (le_b rfl) ?_
    refine qV_iret (pc := 10) dX5_placeBy_10 rfl (le_b rfl) (le_b rfl) ?_
    first | exact ⟨by rw [if_pos (by omega)], rfl, rfl⟩ | exact ⟨by rw [if_neg (by omega)]; rfl, rfl, rfl⟩
end SUMS
end
section
/-! ===== Sums: lines by width; a new one ===== -/
section SUMS2
variable {l : Launch} {h : qH} {sz u n : Nat} {T : Nat → Int} {s : Int}
set_option maxRecDepth 100000 in
set_option maxHeartbeats 4000000 in
theorem sort_inner {i : Nat} {q : Int} {xs : List Nat} (hn : n ≤ 120) (hi : i < nl T n + 1) (hq : q = i) (hx : srt (lnW T n) i xs)
    (kk : ∀ (h2 : qH) (z : Int) (k : Nat), k ≤ i → srt (lnW T n) (i + 1) (xs.take k ++ i :: xs.drop k) → Row h2 (u + 11) 121 (i + 1) (fun j => (((xs.take k ++ i :: xs.drop k).getD j 0 : Nat) : Int)) → Fr h h2 (u + 11) (u + 13) → qVM l mX5_sortsLines 0 0 h sz (fun v h' sz' => v = none ∧ (∃ xs, srt (lnW T n) (nl T n + 1) xs ∧ Row h' (u + 11) 121 (nl T n + 1) (fun j => ((xs.getD j 0 : Nat) : Int))) ∧ Fr h h' (u + 11) (u + 13) ∧ sz' = sz) 0 0 h2 sz 88 [some (.ref u), some (vI q), some (vI (lnW T n i)), some (vI z)] []) :
    ∀ (k : Nat) (z : Int) (h1 : qH) (R : Nat → Int), k ≤ i → z = k → h1 u = some (sob u 0) → SumW h1 u n T → Row h1 (u + 9) 121 (nl T n + 1) (fun k => ((lbN T n k : Nat) : Int)) → Row h1 (u + 11) 121 (i + 1) R → (∀ j, j < k → R j = ((xs.getD j 0 : Nat) : Int)) → (∀ j, k < j → j ≤ i → R j = ((xs.getD (j - 1) 0 : Nat) : Int)) → (∀ j, k ≤ j → j < i → lnW T n (xs.getD j 0) < lnW T n i) → Fr h h1 (u + 11) (u + 13) → qVM l mX5_sortsLines 0 0 h sz (fun v h' sz' => v = none ∧ (∃ xs, srt (lnW T n) (nl T n + 1) xs ∧ Row h' (u + 11) 121 (nl T n + 1) (fun j => ((xs.getD j 0 : Nat) : Int))) ∧ Fr h h' (u + 11) (u + 13) ∧ sz' = sz) 0 0 h1 sz 33 [some (.ref u), some (vI q), some (vI (lnW T n i)), some (vI z)] [] := by
  have hlen := hx.len
  have hwi := lnW_in (T := T) (n := n) (k := i) (by omega)
  have hset : ∀ (k : Nat) (z : Int) (h1 h2 : qH) (R : Nat → Int), k ≤ i → z = k → (k = 0 ∨ lnW T n i ≤ lnW T n (xs.getD (k - 1) 0)) → (∀ j, j < k → R j = ((xs.getD j 0 : Nat) : Int)) → (∀ j, k < j → j ≤ i → R j = ((xs.getD (j - 1) 0 : Nat) : Int)) → (∀ j, k ≤ j → j < i → lnW T n (xs.getD j 0) < lnW T n i) → Row h2 (u + 11) 121 (i + 1) (va_up R k q) → Fr h h2 (u + 11) (u + 13) → qVM l mX5_sortsLines 0 0 h sz (fun v h' sz' => v = none ∧ (∃ xs, srt (lnW T n) (nl T n + 1) xs ∧ Row h' (u + 11) 121 (nl T n + 1) (fun j => ((xs.getD j 0 : Nat) : Int))) ∧ Fr h h' (u + 11) (u + 13) ∧ sz' = sz) 0 0 h2 sz 88 [some (.ref u), some (vI q), some (vI (lnW T n i)), some (vI z)] [] := by
    intro k z h1 h2 R hk hz hs r1 r2 r3 hr hf
    refine kk h2 z k hk (srt_ins2 hx hk r3 hs) (hr.congr (fun j hj => ?_)) hf
    rw [ins_at (by omega)]
    by_cases e : j < k
    · rw [if_pos e, va_up_ne _ _ (by omega)]; exact r1 j e
    · rw [if_neg e]
      by_cases e2 : j = k
      · subst e2; rw [if_pos rfl, va_up_self, hq]
      · rw [if_neg e2, va_up_ne _ _ e2]; exact r2 j (by omega) (by omega)
  intro k
  induction k with
  | zero =>
    intro z h1 R hk hz ho hw hb hr r1 r2 r3 hf
    have hle := hr.le
    refine qV_iload_n (pc := 33) 3 dX5_sortsLines_33 rfl rfl ?_
    refine qV_ifle (pc := 34) 79 dX5_sortsLines_34 (by decide) ⟨by omega, by omega⟩ (fun c34 => ?_) (fun c34 => ?_)
    · refine qV_aload_n (pc := 79) 0 dX5_sortsLines_79 rfl rfl ?_
      refine qV_get (pc := 80) kX5 5 (le_b rfl) lk_X5_32 rfl dX5_sortsLines_80 (by first | assumption | exact hU_self _ _ _ | (refine (hU_ne (by omega)).trans ?_; first | assumption | exact hU_self _ _ _ | (refine (hU_ne (by omega)).trans ?_; first | assumption | exact hU_self _ _ _ | (refine (hU_ne (by omega)).trans ?_; first | assumption | exact hU_self _ _ _)))) (by exact rfl) ?_
      refine qV_iload_n (pc := 83) 3 dX5_sortsLines_83 rfl rfl ?_
      refine qV_iload_n (pc := 84) 1 dX5_sortsLines_84 rfl rfl ?_
      refine qV_voV (pc := 85) (c_set hr (i := 0) hz (by omega)) nX3_set kX3 lk_X5_101 dX5_sortsLines_85 hr.obj ⟨le_b rfl, le_b rfl⟩ ⟨le_b rfl, le_b rfl⟩ rfl (le_b rfl) ?_
      rintro h2 _ ⟨hr2, f2, rfl⟩
      exact hset 0 z h1 h2 R hk hz (Or.inl rfl) r1 r2 r3 hr2 (hf.trans f2)
    · exfalso; omega
  | succ k ih =>
    intro z h1 R hk hz ho hw hb hr r1 r2 r3 hf
    have hle := hr.le
    have hS : Sums h1 u n T 0 := ⟨ho, hw, hb, ⟨_, _, hr, fun e => by omega⟩, Or.inl rfl, hn⟩
    have hxk := hx.lt (j := k) (by omega)
    have hwk := lnW_in (T := T) (n := n) (k := xs.getD k 0) (by omega)
    have eR : R k = ((xs.getD k 0 : Nat) : Int) := r1 k (by omega)
    refine qV_iload_n (pc := 33) 3 dX5_sortsLines_33 rfl rfl ?_
    refine qV_ifle (pc := 34) 79 dX5_sortsLines_34 (by decide) ⟨by omega, by omega⟩ (fun c34 => ?_) (fun c34 => ?_)
    · exfalso; omega
    · refine qV_aload_n (pc := 37) 0 dX5_sortsLines_37 rfl rfl ?_
      refine qV_aload_n (pc := 38) 0 dX5_sortsLines_38 rfl rfl ?_
      refine qV_get (pc := 39) kX5 5 (le_b rfl) lk_X5_32 rfl dX5_sortsLines_39 (by first | assumption | exact hU_self _ _ _ | (refine (hU_ne (by omega)).trans ?_; first | assumption | exact hU_self _ _ _ | (refine (hU_ne (by omega)).trans ?_; first | assumption | exact hU_self _ _ _ | (refine (hU_ne (by omega)).trans ?_; first | assumption | exact hU_self _ _ _)))) (by exact rfl) ?_
      refine qV_iload_n (pc := 42) 3 dX5_sortsLines_42 rfl rfl ?_
      refine qV_iconst (pc := 43) dX5_sortsLines_43 ?_
      refine qV_isub (pc := 44) dX5_sortsLines_44 ?_
      refine qV_rdV (pc := 45) (c_gt hr (i := k) (by omega) (by omega)) nX3_get kX3 lk_X5_56 dX5_sortsLines_45 hr.obj ⟨le_b rfl, le_b rfl⟩ ⟨le_b rfl, le_b rfl⟩ rfl (le_b rfl) ?_
      rw [eR]
      refine qV_rdV (pc := 48) (c_lineWidth (k := xs.getD k 0) hS rfl (by omega)) nX5_lineWidth kX5 lk_X5_98 dX5_sortsLines_48 (by first | assumption | exact hU_self _ _ _ | (refine (hU_ne (by omega)).trans ?_; first | assumption | exact hU_self _ _ _ | (refine (hU_ne (by omega)).trans ?_; first | assumption | exact hU_self _ _ _ | (refine (hU_ne (by omega)).trans ?_; first | assumption | exact hU_self _ _ _)))) ⟨le_b rfl, le_b rfl⟩ ⟨le_b rfl, le_b rfl⟩ rfl (le_b rfl) ?_
      refine qV_iload_n (pc := 51) 2 dX5_sortsLines_51 rfl rfl ?_
      refine qV_icmp_ge (pc := 52) 79 dX5_sortsLines_52 (by decide) ⟨by omega, by omega⟩ ⟨by omega, by omega⟩ (fun c52 => ?_) (fun c52 => ?_)
      · refine qV_aload_n (pc := 79) 0 dX5_sortsLines_79 rfl rfl ?_
        refine qV_get (pc := 80) kX5 5 (le_b rfl) lk_X5_32 rfl dX5_sortsLines_80 (by first | assumption | exact hU_self _ _ _ | (refine (hU_ne (by omega)).trans ?_; first | assumption | exact hU_self _ _ _ | (refine (hU_ne (by omega)).trans ?_; first | assumption | exact hU_self _ _ _ | (refine (hU_ne (by omega)).trans ?_; first | assumption | exact hU_self _ _ _)))) (by exact rfl) ?_
        refine qV_iload_n (pc := 83) 3 dX5_sortsLines_83 rfl rfl ?_
        refine qV_iload_n (pc := 84) 1 dX5_sortsLines_84 rfl rfl ?_
        refine qV_voV (pc := 85) (c_set hr (i := k + 1) hz (by omega)) nX3_set kX3 lk_X5_101 dX5_sortsLines_85 hr.obj ⟨le_b rfl, le_b rfl⟩ ⟨le_b rfl, le_b rfl⟩ rfl (le_b rfl) ?_
        rintro h2 _ ⟨hr2, f2, rfl⟩
        exact hset (k + 1) z h1 h2 R hk hz (Or.inr (by rw [show k + 1 - 1 = k by omega]; exact c52)) r1 r2 r3 hr2 (hf.trans f2)
      · refine qV_aload_n (pc := 55) 0 dX5_sortsLines_55 rfl rfl ?_
        refine qV_get (pc := 56) kX5 5 (le_b rfl) lk_X5_32 rfl dX5_sortsLines_56 (by first | assumption | exact hU_self _ _ _ | (refine (hU_ne (by omega)).trans ?_; first | assumption | exact hU_self _ _ _ | (refine (hU_ne (by omega)).trans ?_; first | assumption | exact hU_self _ _ _ | (refine (hU_ne (by omega)).trans ?_; first | assumption | exact hU_self _ _ _)))) (by exact rfl) ?_
        refine qV_iload_n (pc := 59) 3 dX5_sortsLines_59 rfl rfl ?_
        refine qV_aload_n (pc := 60) 0 dX5_sortsLines_60 rfl rfl ?_
        refine qV_get (pc := 61) kX5 5 (le_b rfl) lk_X5_32 rfl dX5_sortsLines_61 (by first | assumption | exact hU_self _ _ _ | (refine (hU_ne (by omega)).trans ?_; first | assumption | exact hU_self _ _ _ | (refine (hU_ne (by omega)).trans ?_; first | assumption | exact hU_self _ _ _ | (refine (hU_ne (by omega)).trans ?_; first | assumption | exact hU_self _ _ _)))) (by exact rfl) ?_
        refine qV_iload_n (pc := 64) 3 dX5_sortsLines_64 rfl rfl ?_
        refine qV_iconst (pc := 65) dX5_sortsLines_65 ?_
        refine qV_isub (pc := 66) dX5_sortsLines_66 ?_
        refine qV_rdV (pc := 67) (c_gt hr (i := k) (by omega) (by omega)) nX3_get kX3 lk_X5_56 dX5_sortsLines_67 hr.obj ⟨le_b rfl, le_b rfl⟩ ⟨le_b rfl, le_b rfl⟩ rfl (le_b rfl) ?_
        rw [eR]
        refine qV_voV (pc := 70) (c_set hr (i := k + 1) hz (by omega)) nX3_set kX3 lk_X5_101 dX5_sortsLines_70 hr.obj ⟨le_b rfl, le_b rfl⟩ ⟨le_b rfl, le_b rfl⟩ rfl (le_b rfl) ?_
        rintro h2 _ ⟨hr2, f2, rfl⟩
        refine qV_iinc (pc := 73) 3 dX5_sortsLines_73 rfl (le_b rfl) (le_b rfl) rfl ?_
        refine qV_goto (pc := 76) 33 dX5_sortsLines_76 (by decide) ?_
        refine ih _ h2 _ (by omega) (by omega) ((f2 u (by omega)).trans ho) (hw.fr f2 (by omega)) (hb.fr f2 (by omega)) hr2 (fun j hj => ?_) (fun j hj hj2 => ?_) (fun j hj hj2 => ?_) (hf.trans f2)
        · rw [va_up_ne _ _ (by omega)]; exact r1 j (by omega)
        · by_cases e : j = k + 1
          · subst e; rw [va_up_self]; rfl
          · rw [va_up_ne _ _ e]; exact r2 j (by omega) hj2
        · by_cases e : j = k
          · subst e; omega
          · exact r3 j (by omega) hj2
set_option maxRecDepth 100000 in
set_option maxHeartbeats 4000000 in
theorem sort_outer (hn : n ≤ 120) (hu : h u = some (sob u 0)) (hW0 : SumW h u n T) (hB0 : Row h (u + 9) 121 (nl T n + 1) (fun k => ((lbN T n k : Nat) : Int))) : ∀ (m i : Nat) (q : Int) (h1 : qH) (xs : List Nat) (x2 x3 : Option Value), nl T n + 1 - i = m → i ≤ nl T n + 1 → q = i → srt (lnW T n) i xs → h1 u = some (sob u 0) → SumW h1 u n T → Row h1 (u + 9) 121 (nl T n + 1) (fun k => ((lbN T n k : Nat) : Int)) → Row h1 (u + 11) 121 i (fun j => ((xs.getD j 0 : Nat) : Int)) → Fr h h1 (u + 11) (u + 13) → qVM l mX5_sortsLines 0 0 h sz (fun v h' sz' => v = none ∧ (∃ xs, srt (lnW T n) (nl T n + 1) xs ∧ Row h' (u + 11) 121 (nl T n + 1) (fun j => ((xs.getD j 0 : Nat) : Int))) ∧ Fr h h' (u + 11) (u + 13) ∧ sz' = sz) 0 0 h1 sz 9 [some (.ref u), some (vI q), x2, x3] [] := by
  intro m
  induction m with
  | zero =>
    intro i q h1 xs x2 x3 hm hi hq hx ho hw hb hr hf
    obtain rfl : i = nl T n + 1 := by omega
    have hle := hr.le
    have hS : Sums h1 u n T 0 := ⟨ho, hw, hb, ⟨_, _, hr, fun e => by omega⟩, Or.inl rfl, hn⟩
    refine qV_iload_n (pc := 9) 1 dX5_sortsLines_9 rfl rfl ?_
    refine qV_aload_n (pc := 10) 0 dX5_sortsLines_10 rfl rfl ?_
    refine qV_rdV (pc := 11) (c_lines hS) nX5_lines kX5 lk_X5_89 dX5_sortsLines_11 (by first | assumption | exact hU_self _ _ _ | (refine (hU_ne (by omega)).trans ?_; first | assumption | exact hU_self _ _ _ | (refine (hU_ne (by omega)).trans ?_; first | assumption | exact hU_self _ _ _ | (refine (hU_ne (by omega)).trans ?_; first | assumption | exact hU_self _ _ _)))) ⟨le_b rfl, le_b rfl⟩ ⟨le_b rfl, le_b rfl⟩ rfl (le_b rfl) ?_
    refine qV_icmp_ge (pc := 14) 94 dX5_sortsLines_14 (by decide) ⟨by omega, by omega⟩ ⟨by omega, by omega⟩ (fun c14 => ?_) (fun c14 => ?_)
    · refine qV_vret (pc := 94) dX5_sortsLines_94 rfl (le_b rfl) (le_b rfl) ?_
      exact ⟨rfl, ⟨xs, hx, hr⟩, hf, rfl⟩
    · exfalso; omega
  | succ m ih =>
    intro i q h1 xs x2 x3 hm hi hq hx ho hw hb hr hf
    have hle := hr.le
    have hle2 := hb.le
    have hlen := hx.len
    have hS : Sums h1 u n T 0 := ⟨ho, hw, hb, ⟨_, _, hr, fun e => by omega⟩, Or.inl rfl, hn⟩
    refine qV_iload_n (pc := 9) 1 dX5_sortsLines_9 rfl rfl ?_
    refine qV_aload_n (pc := 10) 0 dX5_sortsLines_10 rfl rfl ?_
    refine qV_rdV (pc := 11) (c_lines hS) nX5_lines kX5 lk_X5_89 dX5_sortsLines_11 (by first | assumption | exact hU_self _ _ _ | (refine (hU_ne (by omega)).trans ?_; first | assumption | exact hU_self _ _ _ | (refine (hU_ne (by omega)).trans ?_; first | assumption | exact hU_self _ _ _ | (refine (hU_ne (by omega)).trans ?_; first | assumption | exact hU_self _ _ _)))) ⟨le_b rfl, le_b rfl⟩ ⟨le_b rfl, le_b rfl⟩ rfl (le_b rfl) ?_
    refine qV_icmp_ge (pc := 14) 94 dX5_sortsLines_14 (by decide) ⟨by omega, by omega⟩ ⟨by omega, by omega⟩ (fun c14 => ?_) (fun c14 => ?_)
    · exfalso; omega
    · refine qV_aload_n (pc := 17) 0 dX5_sortsLines_17 rfl rfl ?_
      refine qV_iload_n (pc := 18) 1 dX5_sortsLines_18 rfl rfl ?_
      refine qV_rdV (pc := 19) (c_lineWidth (k := i) hS hq (by omega)) nX5_lineWidth kX5 lk_X5_98 dX5_sortsLines_19 (by first | assumption | exact hU_self _ _ _ | (refine (hU_ne (by omega)).trans ?_; first | assumption | exact hU_self _ _ _ | (refine (hU_ne (by omega)).trans ?_; first | assumption | exact hU_self _ _ _ | (refine (hU_ne (by omega)).trans ?_; first | assumption | exact hU_self _ _ _)))) ⟨le_b rfl, le_b rfl⟩ ⟨le_b rfl, le_b rfl⟩ rfl (le_b rfl) ?_
      refine qV_istore_n (pc := 22) 2 dX5_sortsLines_22 rfl (le_b rfl) (le_b rfl) rfl ?_
      refine qV_aload_n (pc := 23) 0 dX5_sortsLines_23 rfl rfl ?_
      refine qV_get (pc := 24) kX5 5 (le_b rfl) lk_X5_32 rfl dX5_sortsLines_24 (by first | assumption | exact hU_self _ _ _ | (refine (hU_ne (by omega)).trans ?_; first | assumption | exact hU_self _ _ _ | (refine (hU_ne (by omega)).trans ?_; first | assumption | exact hU_self _ _ _ | (refine (hU_ne (by omega)).trans ?_; first | assumption | exact hU_self _ _ _)))) (by exact rfl) ?_
      refine qV_iload_n (pc := 27) 1 dX5_sortsLines_27 rfl rfl ?_
      refine qV_voV (pc := 28) (c_add hr (by omega)) nX3_add kX3 lk_X5_45 dX5_sortsLines_28 hr.obj ⟨le_b rfl, le_b rfl⟩ ⟨le_b rfl, le_b rfl⟩ rfl (le_b rfl) ?_
      rintro h2 _ ⟨hr2, f2, rfl⟩
      refine qV_iload_n (pc := 31) 1 dX5_sortsLines_31 rfl rfl ?_
      refine qV_istore_n (pc := 32) 3 dX5_sortsLines_32 rfl (le_b rfl) (le_b rfl) rfl ?_
      have ho2 := (f2 u (by omega)).trans ho
      have hw2 := hw.fr f2 (by omega)
      have hb2 := hb.fr f2 (by omega)
      refine sort_inner hn (by omega) hq hx (fun h3 z k hk hx3 hr3 hf3 => ?_) i _ h2 _ (Nat.le_refl i) hq ho2 hw2 hb2 hr2 (fun j hj => va_up_ne _ _ (by omega)) (fun j hj hj2 => by omega) (fun j hj hj2 => by omega) (hf.trans f2)
      refine qV_iinc (pc := 88) 1 dX5_sortsLines_88 rfl (le_b rfl) (le_b rfl) rfl ?_
      refine qV_goto (pc := 91) 9 dX5_sortsLines_91 (by decide) ?_
      exact ih (i + 1) _ h3 _ _ _ (by omega) (by omega) (by omega) hx3 ((hf3 u (by omega)).trans hu) (hW0.fr hf3 (by omega)) (hB0.fr hf3 (by omega)) hr3 hf3
set_option maxRecDepth 100000 in
set_option maxHeartbeats 4000000 in
theorem c_sortsLines (hs : Sums h u n T 0) : qVo l mX5_sortsLines 0 0 [.ref u] h sz (fun h' sz' => (∃ xs, srt (lnW T n) (nl T n + 1) xs ∧ Row h' (u + 11) 121 (nl T n + 1) (fun j => ((xs.getD j 0 : Nat) : Int))) ∧ Fr h h' (u + 11) (u + 13) ∧ sz' = sz) := by
  obtain ⟨ho, hw, hb, ⟨m, X, hx, -⟩, -, hn⟩ := hs
  refine qC.of 3 (by decide) (le_b rfl) ?_
  refine qV_aload_n (pc := 0) 0 dX5_sortsLines_0 rfl rfl ?_
  refine qV_get (pc := 1) kX5 5 (le_b rfl) lk_X5_32 rfl dX5_sortsLines_1 (by first | assumption | exact hU_self _ _ _ | (refine (hU_ne (by omega)).trans ?_; first | assumption | exact hU_self _ _ _ | (refine (hU_ne (by omega)).trans ?_; first | assumption | exact hU_self _ _ _ | (refine (hU_ne (by omega)).trans ?_; first | assumption | exact hU_self _ _ _)))) (by exact rfl) ?_
  refine qV_voV (pc := 4) (c_empties (fun j => (((([] : List Nat).getD j 0 : Nat)) : Int)) hx) nX3_empties kX3 lk_X5_38 dX5_sortsLines_4 hx.obj ⟨le_b rfl, le_b rfl⟩ ⟨le_b rfl, le_b rfl⟩ rfl (le_b rfl) ?_
  rintro h2 _ ⟨hr2, f2, rfl⟩
  refine qV_iconst (pc := 7) dX5_sortsLines_7 ?_
  refine qV_istore_n (pc := 8) 1 dX5_sortsLines_8 rfl (le_b rfl) (le_b rfl) rfl ?_
  exact sort_outer hn ho hw hb (nl T n + 1) 0 _ h2 [] _ _ (by omega) (by omega) rfl ⟨List.Perm.refl _, List.Pairwise.nil⟩ ((f2 u (by omega)).trans ho) (hw.fr f2 (by omega)) (hb.fr f2 (by omega)) hr2 f2
set_option maxRecDepth 100000 in
set_option maxHeartbeats 4000000 in
theorem c_lineByWidth {q : Int} {k : Nat} (hs : Sums h u n T s) (hq : q = k) (hk : k ≤ nl T n) : qRt l mX5_lineByWidth 0 0 [.ref u, vI q] h sz (fun w h' sz' => (∃ xs, srt (lnW T n) (nl T n + 1) xs ∧ w = vI ((xs.getD k 0 : Nat) : Int)) ∧ Sums h' u n T 1 ∧ Fr h h' u (u + 13) ∧ sz' = sz) := by
  obtain ⟨ho, hw, hb, ⟨m, X, hx, hx2⟩, hs1, hn⟩ := id hs
  refine qC.of 0 (by decide) (le_b rfl) ?_
  refine qV_aload_n (pc := 0) 0 dX5_lineByWidth_0 rfl rfl ?_
  refine qV_get (pc := 1) kX5 6 (le_b rfl) lk_X5_48 rfl dX5_lineByWidth_1 (by first | assumption | exact hU_self _ _ _ | (refine (hU_ne (by omega)).trans ?_; first | assumption | exact hU_self _ _ _ | (refine (hU_ne (by omega)).trans ?_; first | assumption | exact hU_self _ _ _ | (refine (hU_ne (by omega)).trans ?_; first | assumption | exact hU_self _ _ _)))) (by exact rfl) ?_
  refine qV_ifne (pc := 4) 16 dX5_lineByWidth_4 (by decide) ⟨by omega, by omega⟩ (fun c4 => ?_) (fun c4 => ?_)
  · obtain rfl : s = 1 := by omega
    obtain ⟨xs, x1, rfl, x3⟩ := hx2 rfl
    refine qV_aload_n (pc := 16) 0 dX5_lineByWidth_16 rfl rfl ?_
    refine qV_get (pc := 17) kX5 5 (le_b rfl) lk_X5_32 rfl dX5_lineByWidth_17 (by first | assumption | exact hU_self _ _ _ | (refine (hU_ne (by omega)).trans ?_; first | assumption | exact hU_self _ _ _ | (refine (hU_ne (by omega)).trans ?_; first | assumption | exact hU_self _ _ _ | (refine (hU_ne (by omega)).trans ?_; first | assumption | exact hU_self _ _ _)))) (by exact rfl) ?_
    refine qV_iload_n (pc := 20) 1 dX5_lineByWidth_20 rfl rfl ?_
    first
    | refine qV_rdV (pc := 21) (c_gt hx hq (by omega)) nX3_get kX3 lk_X5_56 dX5_lineByWidth_21 hx.obj ⟨le_b rfl, le_b rfl⟩ ⟨le_b rfl, le_b rfl⟩ rfl (le_b rfl) ?_
    | refine qV_rdV (pc := 21) (c_gt hr3 hq (by omega)) nX3_get kX3 lk_X5_56 dX5_lineByWidth_21 hr3.obj ⟨le_b rfl, le_b rfl⟩ ⟨le_b rfl, le_b rfl⟩ rfl (le_b rfl) ?_
    refine qV_iret (pc := 24) dX5_lineByWidth_24 rfl (le_b rfl) (le_b rfl) ?_
    first
    | exact ⟨_, rfl, ⟨xs, x1, by rw [x3 k (by omega)]⟩, hs, Fr.rf, rfl⟩
    | exact ⟨_, rfl, ⟨xs, x1, rfl⟩, ⟨ho3, (hw.fr f2 (by omega)).fr f3 (by omega), (hb.fr f2 (by omega)).fr f3 (by omega), ⟨_, _, hr3, fun _ => ⟨xs, x1, rfl, fun _ _ => rfl⟩⟩, Or.inr rfl, hn⟩, (f2.wide (by omega) (by omega)).trans (f3.wide (by omega) (by omega)), rfl⟩
  · obtain rfl : s = 0 := by omega
    refine qV_aload_n (pc := 7) 0 dX5_lineByWidth_7 rfl rfl ?_
    refine qV_voV (pc := 8) (c_sortsLines hs) nX5_sortsLines kX5 lk_X5_95 dX5_lineByWidth_8 (by first | assumption | exact hU_self _ _ _ | (refine (hU_ne (by omega)).trans ?_; first | assumption | exact hU_self _ _ _ | (refine (hU_ne (by omega)).trans ?_; first | assumption | exact hU_self _ _ _ | (refine (hU_ne (by omega)).trans ?_; first | assumption | exact hU_self _ _ _)))) ⟨le_b rfl, le_b rfl⟩ ⟨le_b rfl, le_b rfl⟩ rfl (le_b rfl) ?_
    rintro h2 _ ⟨⟨xs, x1, hr2⟩, f2, rfl⟩
    have ho2 := (f2 u (by omega)).trans ho
    have f3 : Fr h2 (hU h2 u (sob u 1)) u (u + 1) := Fr.hU (by omega) (by omega)
    have hr3 := hr2.fr f3 (by omega)
    have ho3 : hU h2 u (sob u 1) u = some (sob u 1) := hU_self _ _ _
    refine qV_aload_n (pc := 11) 0 dX5_lineByWidth_11 rfl rfl ?_
    refine qV_iconst (pc := 12) dX5_lineByWidth_12 ?_
    refine qV_put (pc := 13) kX5 6 (le_b rfl) lk_X5_48 rfl rfl rfl rfl dX5_lineByWidth_13 (by first | assumption | exact hU_self _ _ _ | (refine (hU_ne (by omega)).trans ?_; first | assumption | exact hU_self _ _ _ | (refine (hU_ne (by omega)).trans ?_; first | assumption | exact hU_self _ _ _ | (refine (hU_ne (by omega)).trans ?_; first | assumption | exact hU_self _ _ _)))) (by exact le_b rfl) ?_
    refine qV_aload_n (pc := 16) 0 dX5_lineByWidth_16 rfl rfl ?_
    refine qV_get (pc := 17) kX5 5 (le_b rfl) lk_X5_32 rfl dX5_lineByWidth_17 (by first | assumption | exact hU_self _ _ _ | (refine (hU_ne (by omega)).trans ?_; first | assumption | exact hU_self _ _ _ | (refine (hU_ne (by omega)).trans ?_; first | assumption | exact hU_self _ _ _ | (refine (hU_ne (by omega)).trans ?_; first | assumption | exact hU_self _ _ _)))) (by exact rfl) ?_
    refine qV_iload_n (pc := 20) 1 dX5_lineByWidth_20 rfl rfl ?_
    first
    | refine qV_rdV (pc := 21) (c_gt hx hq (by omega)) nX3_get kX3 lk_X5_56 dX5_lineByWidth_21 hx.obj ⟨le_b rfl, le_b rfl⟩ ⟨le_b rfl, le_b rfl⟩ rfl (le_b rfl) ?_
    | refine qV_rdV (pc := 21) (c_gt hr3 hq (by omega)) nX3_get kX3 lk_X5_56 dX5_lineByWidth_21 hr3.obj ⟨le_b rfl, le_b rfl⟩ ⟨le_b rfl, le_b rfl⟩ rfl (le_b rfl) ?_
    refine qV_iret (pc := 24) dX5_lineByWidth_24 rfl (le_b rfl) (le_b rfl) ?_
    first
    | exact ⟨_, rfl, ⟨xs, x1, by rw [x3 k (by omega)]⟩, hs, Fr.rf, rfl⟩
    | exact ⟨_, rfl, ⟨xs, x1, rfl⟩, ⟨ho3, (hw.fr f2 (by omega)).fr f3 (by omega), (hb.fr f2 (by omega)).fr f3 (by omega), ⟨_, _, hr3, fun _ => ⟨xs, x1, rfl, fun _ _ => rfl⟩⟩, Or.inr rfl, hn⟩, (f2.wide (by omega) (by omega)).trans (f3.wide (by omega) (by omega)), rfl⟩
set_option maxRecDepth 100000 in
set_option maxHeartbeats 4000000 in
theorem c_Sums_init (T : Nat → Int) (h1 : h u = some (oB 5 [.null, .null, .null, .null, .null, .null, vI 0])) (hs : sz = u + 1) : qVo l mX5_init 12 738 [.ref u] h sz (fun h' sz' => Sums h' u 0 T 0 ∧ Fr h h' u (u + 13) ∧ sz' = u + 13) := by
  subst hs
  refine qC.of 0 (by decide) (le_b rfl) ?_
  refine qV_aload_n (pc := 0) 0 dX5_init_0 rfl rfl ?_
  refine qV_objinit (pc := 1) lk_X5_3 dX5_init_1 (le_b rfl) (le_b rfl) ?_
  refine qV_aload_n (pc := 4) 0 dX5_init_4 rfl rfl ?_
  refine qV_new (pc := 5) [.null, vI 0] kX3 lk_X5_9 wb_X3 wn_X3 fs2 dX5_init_5 (le_b rfl) (le_b rfl) ?_
  refine qV_dup (pc := 8) dX5_init_8 rfl ?_
  refine qV_bipush (pc := 9) dX5_init_9 rfl ?_
  refine qV_voI (pc := 11) (c_Row_init (r := u + 1) (N := 121) (fun _ => 0) rfl (by omega) (hU_self _ _ _) rfl) nX3_init lk_X5_11 dX5_init_11 ⟨le_b rfl, le_b rfl⟩ ⟨le_b rfl, le_b rfl⟩ rfl (le_b rfl) ?_
  rintro g1 _ ⟨r0, f0, rfl⟩
  have o1 : g1 u = some (oB 5 [.null, .null, .null, .null, .null, .null, vI 0]) := (f0 u (by omega)).trans ((hU_ne (by omega)).trans h1)
  have e0 : Fr h g1 u (u + 13) := (Fr.hU (lo := u) (hi := u + 13) (by omega) (by omega)).trans (f0.wide (by omega) (by omega))
  refine qV_putF (pc := 14) kX5 0 (le_b rfl) lk_X5_14 rfl rfl rfl rfl rfl rfl dX5_init_14 (by first | assumption | exact hU_self _ _ _ | (refine (hU_ne (by omega)).trans ?_; first | assumption | exact hU_self _ _ _ | (refine (hU_ne (by omega)).trans ?_; first | assumption | exact hU_self _ _ _ | (refine (hU_ne (by omega)).trans ?_; first | assumption | exact hU_self _ _ _)))) (by exact le_b rfl) ?_
  refine qV_aload_n (pc := 17) 0 dX5_init_17 rfl rfl ?_
  refine qV_new (pc := 18) [.null, vI 0] kX3 lk_X5_9 wb_X3 wn_X3 fs2 dX5_init_18 (le_b rfl) (le_b rfl) ?_
  refine qV_dup (pc := 21) dX5_init_21 rfl ?_
  refine qV_bipush (pc := 22) dX5_init_22 rfl ?_
  refine qV_voI (pc := 24) (c_Row_init (r := u + 3) (N := 121) (fun _ => 0) rfl (by omega) (hU_self _ _ _) rfl) nX3_init lk_X5_11 dX5_init_24 ⟨le_b rfl, le_b rfl⟩ ⟨le_b rfl, le_b rfl⟩ rfl (le_b rfl) ?_
  rintro g2 _ ⟨r1, f1, rfl⟩
  have o2 : g2 u = some (oB 5 [.ref (u + 1), .null, .null, .null, .null, .null, vI 0]) := (f1 u (by omega)).trans ((hU_ne (by omega)).trans (hU_self _ _ _))
  have e1 : Fr g1 g2 u (u + 13) := ((Fr.hU (lo := u) (hi := u + 13) (by omega) (by omega)).trans (Fr.hU (by omega) (by omega))).trans (f1.wide (by omega) (by omega))
  have r0 := ((r0.fr (Fr.hU (lo := u) (hi := u + 1) (by omega) (by omega)) (by omega)).fr (Fr.hU (lo := u + 3) (hi := u + 4) (by omega) (by omega)) (by omega)).fr f1 (by omega)
  refine qV_putF (pc := 27) kX5 1 (le_b rfl) lk_X5_20 rfl rfl rfl rfl rfl rfl dX5_init_27 (by first | assumption | exact hU_self _ _ _ | (refine (hU_ne (by omega)).trans ?_; first | assumption | exact hU_self _ _ _ | (refine (hU_ne (by omega)).trans ?_; first | assumption | exact hU_self _ _ _ | (refine (hU_ne (by omega)).trans ?_; first | assumption | exact hU_self _ _ _)))) (by exact le_b rfl) ?_
  refine qV_aload_n (pc := 30) 0 dX5_init_30 rfl rfl ?_
  refine qV_new (pc := 31) [.null, vI 0] kX3 lk_X5_9 wb_X3 wn_X3 fs2 dX5_init_31 (le_b rfl) (le_b rfl) ?_
  refine qV_dup (pc := 34) dX5_init_34 rfl ?_
  refine qV_bipush (pc := 35) dX5_init_35 rfl ?_
  refine qV_voI (pc := 37) (c_Row_init (r := u + 5) (N := 121) (fun _ => 0) rfl (by omega) (hU_self _ _ _) rfl) nX3_init lk_X5_11 dX5_init_37 ⟨le_b rfl, le_b rfl⟩ ⟨le_b rfl, le_b rfl⟩ rfl (le_b rfl) ?_
  rintro g3 _ ⟨r2, f2, rfl⟩
  have o3 : g3 u = some (oB 5 [.ref (u + 1), .ref (u + 3), .null, .null, .null, .null, vI 0]) := (f2 u (by omega)).trans ((hU_ne (by omega)).trans (hU_self _ _ _))
  have e2 : Fr g2 g3 u (u + 13) := ((Fr.hU (lo := u) (hi := u + 13) (by omega) (by omega)).trans (Fr.hU (by omega) (by omega))).trans (f2.wide (by omega) (by omega))
  have r0 := ((r0.fr (Fr.hU (lo := u) (hi := u + 1) (by omega) (by omega)) (by omega)).fr (Fr.hU (lo := u + 5) (hi := u + 6) (by omega) (by omega)) (by omega)).fr f2 (by omega)
  have r1 := ((r1.fr (Fr.hU (lo := u) (hi := u + 1) (by omega) (by omega)) (by omega)).fr (Fr.hU (lo := u + 5) (hi := u + 6) (by omega) (by omega)) (by omega)).fr f2 (by omega)
  refine qV_putF (pc := 40) kX5 2 (le_b rfl) lk_X5_23 rfl rfl rfl rfl rfl rfl dX5_init_40 (by first | assumption | exact hU_self _ _ _ | (refine (hU_ne (by omega)).trans ?_; first | assumption | exact hU_self _ _ _ | (refine (hU_ne (by omega)).trans ?_; first | assumption | exact hU_self _ _ _ | (refine (hU_ne (by omega)).trans ?_; first | assumption | exact hU_self _ _ _)))) (by exact le_b rfl) ?_
  refine qV_aload_n (pc := 43) 0 dX5_init_43 rfl rfl ?_
  refine qV_new (pc := 44) [.null, vI 0] kX3 lk_X5_9 wb_X3 wn_X3 fs2 dX5_init_44 (le_b rfl) (le_b rfl) ?_
  refine qV_dup (pc := 47) dX5_init_47 rfl ?_
  refine qV_bipush (pc := 48) dX5_init_48 rfl ?_
  refine qV_voI (pc := 50) (c_Row_init (r := u + 7) (N := 121) (fun _ => 0) rfl (by omega) (hU_self _ _ _) rfl) nX3_init lk_X5_11 dX5_init_50 ⟨le_b rfl, le_b rfl⟩ ⟨le_b rfl, le_b rfl⟩ rfl (le_b rfl) ?_
  rintro g4 _ ⟨r3, f3, rfl⟩
  have o4 : g4 u = some (oB 5 [.ref (u + 1), .ref (u + 3), .ref (u + 5), .null, .null, .null, vI 0]) := (f3 u (by omega)).trans ((hU_ne (by omega)).trans (hU_self _ _ _))
  have e3 : Fr g3 g4 u (u + 13) := ((Fr.hU (lo := u) (hi := u + 13) (by omega) (by omega)).trans (Fr.hU (by omega) (by omega))).trans (f3.wide (by omega) (by omega))
  have r0 := ((r0.fr (Fr.hU (lo := u) (hi := u + 1) (by omega) (by omega)) (by omega)).fr (Fr.hU (lo := u + 7) (hi := u + 8) (by omega) (by omega)) (by omega)).fr f3 (by omega)
  have r1 := ((r1.fr (Fr.hU (lo := u) (hi := u + 1) (by omega) (by omega)) (by omega)).fr (Fr.hU (lo := u + 7) (hi := u + 8) (by omega) (by omega)) (by omega)).fr f3 (by omega)
  have r2 := ((r2.fr (Fr.hU (lo := u) (hi := u + 1) (by omega) (by omega)) (by omega)).fr (Fr.hU (lo := u + 7) (hi := u + 8) (by omega) (by omega)) (by omega)).fr f3 (by omega)
  refine qV_putF (pc := 53) kX5 3 (le_b rfl) lk_X5_26 rfl rfl rfl rfl rfl rfl dX5_init_53 (by first | assumption | exact hU_self _ _ _ | (refine (hU_ne (by omega)).trans ?_; first | assumption | exact hU_self _ _ _ | (refine (hU_ne (by omega)).trans ?_; first | assumption | exact hU_self _ _ _ | (refine (hU_ne (by omega)).trans ?_; first | assumption | exact hU_self _ _ _)))) (by exact le_b rfl) ?_
  refine qV_aload_n (pc := 56) 0 dX5_init_56 rfl rfl ?_
  refine qV_new (pc := 57) [.null, vI 0] kX3 lk_X5_9 wb_X3 wn_X3 fs2 dX5_init_57 (le_b rfl) (le_b rfl) ?_
  refine qV_dup (pc := 60) dX5_init_60 rfl ?_
  refine qV_bipush (pc := 61) dX5_init_61 rfl ?_
  refine qV_voI (pc := 63) (c_Row_init (r := u + 9) (N := 121) (fun _ => 0) rfl (by omega) (hU_self _ _ _) rfl) nX3_init lk_X5_11 dX5_init_63 ⟨le_b rfl, le_b rfl⟩ ⟨le_b rfl, le_b rfl⟩ rfl (le_b rfl) ?_
  rintro g5 _ ⟨r4, f4, rfl⟩
  have o5 : g5 u = some (oB 5 [.ref (u + 1), .ref (u + 3), .ref (u + 5), .ref (u + 7), .null, .null, vI 0]) := (f4 u (by omega)).trans ((hU_ne (by omega)).trans (hU_self _ _ _))
  have e4 : Fr g4 g5 u (u + 13) := ((Fr.hU (lo := u) (hi := u + 13) (by omega) (by omega)).trans (Fr.hU (by omega) (by omega))).trans (f4.wide (by omega) (by omega))
  have r0 := ((r0.fr (Fr.hU (lo := u) (hi := u + 1) (by omega) (by omega)) (by omega)).fr (Fr.hU (lo := u + 9) (hi := u + 10) (by omega) (by omega)) (by omega)).fr f4 (by omega)
  have r1 := ((r1.fr (Fr.hU (lo := u) (hi := u + 1) (by omega) (by omega)) (by omega)).fr (Fr.hU (lo := u + 9) (hi := u + 10) (by omega) (by omega)) (by omega)).fr f4 (by omega)
  have r2 := ((r2.fr (Fr.hU (lo := u) (hi := u + 1) (by omega) (by omega)) (by omega)).fr (Fr.hU (lo := u + 9) (hi := u + 10) (by omega) (by omega)) (by omega)).fr f4 (by omega)
  have r3 := ((r3.fr (Fr.hU (lo := u) (hi := u + 1) (by omega) (by omega)) (by omega)).fr (Fr.hU (lo := u + 9) (hi := u + 10) (by omega) (by omega)) (by omega)).fr f4 (by omega)
  refine qV_putF (pc := 66) kX5 4 (le_b rfl) lk_X5_29 rfl rfl rfl rfl rfl rfl dX5_init_66 (by first | assumption | exact hU_self _ _ _ | (refine (hU_ne (by omega)).trans ?_; first | assumption | exact hU_self _ _ _ | (refine (hU_ne (by omega)).trans ?_; first | assumption | exact hU_self _ _ _ | (refine (hU_ne (by omega)).trans ?_; first | assumption | exact hU_self _ _ _)))) (by exact le_b rfl) ?_
  refine qV_aload_n (pc := 69) 0 dX5_init_69 rfl rfl ?_
  refine qV_new (pc := 70) [.null, vI 0] kX3 lk_X5_9 wb_X3 wn_X3 fs2 dX5_init_70 (le_b rfl) (le_b rfl) ?_
  refine qV_dup (pc := 73) dX5_init_73 rfl ?_
  refine qV_bipush (pc := 74) dX5_init_74 rfl ?_
  refine qV_voI (pc := 76) (c_Row_init (r := u + 11) (N := 121) (fun _ => 0) rfl (by omega) (hU_self _ _ _) rfl) nX3_init lk_X5_11 dX5_init_76 ⟨le_b rfl, le_b rfl⟩ ⟨le_b rfl, le_b rfl⟩ rfl (le_b rfl) ?_
  rintro g6 _ ⟨r5, f5, rfl⟩
  have o6 : g6 u = some (oB 5 [.ref (u + 1), .ref (u + 3), .ref (u + 5), .ref (u + 7), .ref (u + 9), .null, vI 0]) := (f5 u (by omega)).trans ((hU_ne (by omega)).trans (hU_self _ _ _))
  have e5 : Fr g5 g6 u (u + 13) := ((Fr.hU (lo := u) (hi := u + 13) (by omega) (by omega)).trans (Fr.hU (by omega) (by omega))).trans (f5.wide (by omega) (by omega))
  have r0 := ((r0.fr (Fr.hU (lo := u) (hi := u + 1) (by omega) (by omega)) (by omega)).fr (Fr.hU (lo := u + 11) (hi := u + 12) (by omega) (by omega)) (by omega)).fr f5 (by omega)
  have r1 := ((r1.fr (Fr.hU (lo := u) (hi := u + 1) (by omega) (by omega)) (by omega)).fr (Fr.hU (lo := u + 11) (hi := u + 12) (by omega) (by omega)) (by omega)).fr f5 (by omega)
  have r2 := ((r2.fr (Fr.hU (lo := u) (hi := u + 1) (by omega) (by omega)) (by omega)).fr (Fr.hU (lo := u + 11) (hi := u + 12) (by omega) (by omega)) (by omega)).fr f5 (by omega)
  have r3 := ((r3.fr (Fr.hU (lo := u) (hi := u + 1) (by omega) (by omega)) (by omega)).fr (Fr.hU (lo := u + 11) (hi := u + 12) (by omega) (by omega)) (by omega)).fr f5 (by omega)
  have r4 := ((r4.fr (Fr.hU (lo := u) (hi := u + 1) (by omega) (by omega)) (by omega)).fr (Fr.hU (lo := u + 11) (hi := u + 12) (by omega) (by omega)) (by omega)).fr f5 (by omega)
  refine qV_putF (pc := 79) kX5 5 (le_b rfl) lk_X5_32 rfl rfl rfl rfl rfl rfl dX5_init_79 (by first | assumption | exact hU_self _ _ _ | (refine (hU_ne (by omega)).trans ?_; first | assumption | exact hU_self _ _ _ | (refine (hU_ne (by omega)).trans ?_; first | assumption | exact hU_self _ _ _ | (refine (hU_ne (by omega)).trans ?_; first | assumption | exact hU_self _ _ _)))) (by exact le_b rfl) ?_
  refine qV_aload_n (pc := 82) 0 dX5_init_82 rfl rfl ?_
  have f9 : ∀ e : qE, Fr g6 (hU g6 u e) u (u + 1) := fun e => Fr.hU (by omega) (by omega)
  refine qV_voV (pc := 83) (c_startsOver (s := 0) (hU_self _ _ _) (r0.fr (f9 _) (by omega)) (r1.fr (f9 _) (by omega)) (r2.fr (f9 _) (by omega)) (r3.fr (f9 _) (by omega)) (r4.fr (f9 _) (by omega)) (r5.fr (f9 _) (by omega)) T) nX5_startsOver kX5 lk_X5_35 dX5_init_83 (by first | assumption | exact hU_self _ _ _ | (refine (hU_ne (by omega)).trans ?_; first | assumption | exact hU_self _ _ _ | (refine (hU_ne (by omega)).trans ?_; first | assumption | exact hU_self _ _ _ | (refine (hU_ne (by omega)).trans ?_; first | assumption | exact hU_self _ _ _)))) ⟨le_b rfl, le_b rfl⟩ ⟨le_b rfl, le_b rfl⟩ rfl (le_b rfl) ?_
  rintro g8 _ ⟨s8, f8, rfl⟩
  refine qV_vret (pc := 86) dX5_init_86 rfl (le_b rfl) (le_b rfl) ?_
  exact ⟨rfl, s8, ((((((e0.trans e1).trans e2).trans e3).trans e4).trans e5).trans ((f9 _).wide (by omega) (by omega))).trans f8, rfl⟩
end SUMS2
end
section
/-! ===== Edit, Staged ===== -/
abbrev eob (e : Nat) (E : ED) : qE := oB 0 [.ref (e + 1), vI E.1, vI E.2.1]
def Edit (h : qH) (e : Nat) (E : ED) : Prop := h e = some (eob e E) ∧ Row h (e + 1) 24 E.2.2.1 E.2.2.2
theorem Edit.fr {h h' : qH} {e lo hi : Nat} {E : ED} (a : Edit h e E) (b : Fr h h' lo hi) (d : e + 3 ≤ lo ∨ hi ≤ e) : Edit h' e E := ⟨(b e (by omega)).trans a.1, a.2.fr b (by omega)⟩
section EDIT
variable {l : Launch} {h : qH} {sz e : Nat} {E : ED}
set_option maxRecDepth 100000 in
set_option maxHeartbeats 4000000 in
theorem c_Edit_init (h1 : h e = some (oB 0 [.null, vI 0, vI 0])) (hs : sz = e + 1) : qVo l mX0_init 2 26 [.ref e] h sz (fun h' sz' => Edit h' e (0, 0, 0, fun _ => 0) ∧ Fr h h' e (e + 3) ∧ sz' = e + 3) := by
  subst hs
  refine qC.of 0 (by decide) (le_b rfl) ?_
  refine qV_aload_n (pc := 0) 0 dX0_init_0 rfl rfl ?_
  refine qV_objinit (pc := 1) lk_X0_3 dX0_init_1 (le_b rfl) (le_b rfl) ?_
  refine qV_aload_n (pc := 4) 0 dX0_init_4 rfl rfl ?_
  refine qV_new (pc := 5) [.null, vI 0] kX3 lk_X0_9 wb_X3 wn_X3 fs2 dX0_init_5 (le_b rfl) (le_b rfl) ?_
  refine qV_dup (pc := 8) dX0_init_8 rfl ?_
  refine qV_bipush (pc := 9) dX0_init_9 rfl ?_
  refine qV_voI (pc := 11) (c_Row_init (r := e + 1) (N := 24) (fun _ => 0) rfl (by omega) (hU_self _ _ _) rfl) nX3_init lk_X0_11 dX0_init_11 ⟨le_b rfl, le_b rfl⟩ ⟨le_b rfl, le_b rfl⟩ rfl (le_b rfl) ?_
  rintro g1 _ ⟨r1, f1, rfl⟩
  have o1 : g1 e = some (oB 0 [.null, vI 0, vI 0]) := (f1 e (by omega)).trans ((hU_ne (by omega)).trans h1)
  refine qV_putF (pc := 14) kX0 0 (le_b rfl) lk_X0_14 rfl rfl rfl rfl rfl rfl dX0_init_14 (by first | assumption | exact hU_self _ _ _ | (refine (hU_ne (by omega)).trans ?_; first | assumption | exact hU_self _ _ _ | (refine (hU_ne (by omega)).trans ?_; first | assumption | exact hU_self _ _ _ | (refine (hU_ne (by omega)).trans ?_; first | assumption | exact hU_self _ _ _)))) (by exact le_b rfl) ?_
  refine qV_vret (pc := 17) dX0_init_17 rfl (le_b rfl) (le_b rfl) ?_
  have f2 : ∀ x : qE, Fr g1 (hU g1 e x) e (e + 1) := fun x => Fr.hU (by omega) (by omega)
  exact ⟨rfl, ⟨hU_self _ _ _, r1.fr (f2 _) (by omega)⟩, ((Fr.hU (lo := e) (hi := e + 3) (by omega) (by omega)).trans (f1.wide (by omega) (by omega))).trans ((f2 _).wide (by omega) (by omega)), rfl⟩
set_option maxRecDepth 100000 in
set_option maxHeartbeats 4000000 in
theorem c_takesOver {x q : Int} {i k o No m : Nat} {W : Nat → Int} (hE : Edit h e E) (hx : x = i) (hq : q = k) (hW : Row h o No m W) (hm : m ≤ 24) (hd : e + 3 ≤ o ∨ o + 2 ≤ e) : qVo l mX0_takesOver 0 0 [.ref e, vI x, vI q, .ref o] h sz (fun h' sz' => Edit h' e (i, k, m, W) ∧ Fr h h' e (e + 3) ∧ sz' = sz) := by
  subst hx; subst hq
  obtain ⟨e1, e2⟩ := hE
  have f1 : ∀ (g : qH) (y : qE), Fr g (hU g e y) e (e + 1) := fun g y => Fr.hU (by omega) (by omega)
  refine qC.of 0 (by decide) (le_b rfl) ?_
  refine qV_aload_n (pc := 0) 0 dX0_takesOver_0 rfl rfl ?_
  refine qV_iload_n (pc := 1) 1 dX0_takesOver_1 rfl rfl ?_
  refine qV_put (pc := 2) kX0 1 (le_b rfl) lk_X0_20 rfl rfl rfl rfl dX0_takesOver_2 (by first | assumption | exact hU_self _ _ _ | (refine (hU_ne (by omega)).trans ?_; first | assumption | exact hU_self _ _ _ | (refine (hU_ne (by omega)).trans ?_; first | assumption | exact hU_self _ _ _ | (refine (hU_ne (by omega)).trans ?_; first | assumption | exact hU_self _ _ _)))) (by exact le_b rfl) ?_
  refine qV_aload_n (pc := 5) 0 dX0_takesOver_5 rfl rfl ?_
  refine qV_iload_n (pc := 6) 2 dX0_takesOver_6 rfl rfl ?_
  refine qV_put (pc := 7) kX0 2 (le_b rfl) lk_X0_24 rfl rfl rfl rfl dX0_takesOver_7 (by first | assumption | exact hU_self _ _ _ | (refine (hU_ne (by omega)).trans ?_; first | assumption | exact hU_self _ _ _ | (refine (hU_ne (by omega)).trans ?_; first | assumption | exact hU_self _ _ _ | (refine (hU_ne (by omega)).trans ?_; first | assumption | exact hU_self _ _ _)))) (by exact le_b rfl) ?_
  refine qV_aload_n (pc := 10) 0 dX0_takesOver_10 rfl rfl ?_
  refine qV_get (pc := 11) kX0 0 (le_b rfl) lk_X0_14 rfl dX0_takesOver_11 (by first | assumption | exact hU_self _ _ _ | (refine (hU_ne (by omega)).trans ?_; first | assumption | exact hU_self _ _ _ | (refine (hU_ne (by omega)).trans ?_; first | assumption | exact hU_self _ _ _ | (refine (hU_ne (by omega)).trans ?_; first | assumption | exact hU_self _ _ _)))) (by exact rfl) ?_
  refine qV_aload_n (pc := 14) 3 dX0_takesOver_14 rfl rfl ?_
  refine qV_voV (pc := 15) (c_copies ((e2.fr (f1 _ _) (by omega)).fr (f1 _ _) (by omega)) ((hW.fr (f1 _ _) (by omega)).fr (f1 _ _) (by omega)) (by omega) hm) nX3_copies kX3 lk_X0_27 dX0_takesOver_15 ((e2.fr (f1 _ _) (by omega)).fr (f1 _ _) (by omega)).obj ⟨le_b rfl, le_b rfl⟩ ⟨le_b rfl, le_b rfl⟩ rfl (le_b rfl) ?_
  rintro g1 _ ⟨r1, f3, rfl⟩
  refine qV_vret (pc := 18) dX0_takesOver_18 rfl (le_b rfl) (le_b rfl) ?_
  exact ⟨rfl, ⟨(f3 e (by omega)).trans (hU_self _ _ _), r1⟩, (((f1 h _).wide (by omega) (by omega)).trans ((f1 _ _).wide (by omega) (by omega))).trans (f3.wide (by omega) (by omega)), rfl⟩
set_option maxRecDepth 100000 in
set_option maxHeartbeats 4000000 in
theorem c_beginsBehind {x : Int} (hE : Edit h e E) (hx : iR x) (hb : E.1 ≤ 5000) : qRd l mX0_beginsBehind [.ref e, vI x] h sz (vB (x < (E.1 : Int))) := by
  obtain ⟨e1, e2⟩ := hE
  obtain ⟨x1, x2⟩ := hx
  refine qC.of 0 (by decide) (le_b rfl) ?_
  refine qV_aload_n (pc := 0) 0 dX0_beginsBehind_0 rfl rfl ?_
  refine qV_get (pc := 1) kX0 1 (le_b rfl) lk_X0_20 rfl dX0_beginsBehind_1 (by first | assumption | exact hU_self _ _ _ | (refine (hU_ne (by omega)).trans ?_; first | assumption | exact hU_self _ _ _ | (refine (hU_ne (by omega)).trans ?_; first | assumption | exact hU_self _ _ _ | (refine (hU_ne (by omega)).trans ?_; first | assumption | exact hU_self _ _ _)))) (by exact rfl) ?_
  refine qV_iload_n (pc := 4) 1 dX0_beginsBehind_4 rfl rfl ?_
  refine qV_icmp_le (pc := 5) 12 dX0_beginsBehind_5 (by decide) ⟨by omega, by omega⟩ ⟨by omega, by omega⟩ (fun c5 => ?_) (fun c5 => ?_)
  · refine qV_iconst (pc := 12) dX0_beginsBehind_12 ?_
    refine qV_zret (pc := 13) dX0_beginsBehind_13 rfl (by first | exact Or.inl rfl | exact Or.inr rfl) (le_b rfl) (le_b rfl) ?_
    first | exact ⟨by rw [vB, if_pos (by omega)], rfl, rfl⟩ | exact ⟨by rw [vB, if_neg (by omega)], rfl, rfl⟩
  · refine qV_iconst (pc := 8) dX0_beginsBehind_8 ?_
    refine qV_goto (pc := 9) 13 dX0_beginsBehind_9 (by decide) ?_
    refine qV_zret (pc := 13) dX0_beginsBehind_13 rfl (by first | exact Or.inl rfl | exact Or.inr rfl) (le_b rfl) (le_b rfl) ?_
    first | exact ⟨by rw [vB, if_pos (by omega)], rfl, rfl⟩ | exact ⟨by rw [vB, if_neg (by omega)], rfl, rfl⟩
set_option maxRecDepth 100000 in
set_option maxHeartbeats 4000000 in
theorem c_meets {x k : Int} (hE : Edit h e E) (hx : 0 ≤ x ∧ x ≤ 5000) (hk : 0 ≤ k ∧ k ≤ 5000) (hb : E.1 ≤ 5000 ∧ E.2.1 ≤ 5000) : qRd l mX0_meets [.ref e, vI x, vI k] h sz (vB (mts E x k)) := by
  obtain ⟨e1, e2⟩ := hE
  refine qC.of 0 (by decide) (le_b rfl) ?_
  refine qV_aload_n (pc := 0) 0 dX0_meets_0 rfl rfl ?_
  refine qV_get (pc := 1) kX0 1 (le_b rfl) lk_X0_20 rfl dX0_meets_1 (by first | assumption | exact hU_self _ _ _ | (refine (hU_ne (by omega)).trans ?_; first | assumption | exact hU_self _ _ _ | (refine (hU_ne (by omega)).trans ?_; first | assumption | exact hU_self _ _ _ | (refine (hU_ne (by omega)).trans ?_; first | assumption | exact hU_self _ _ _)))) (by exact rfl) ?_
  refine qV_iload_n (pc := 4) 1 dX0_meets_4 rfl rfl ?_
  refine qV_iload_n (pc := 5) 2 dX0_meets_5 rfl rfl ?_
  refine qV_iadd (pc := 6) dX0_meets_6 ?_
  refine qV_icmp_gt (pc := 7) 27 dX0_meets_7 (by decide) ⟨by omega, by omega⟩ ⟨by omega, by omega⟩ (fun c7 => ?_) (fun c7 => ?_)
  · refine qV_iconst (pc := 27) dX0_meets_27 ?_
    refine qV_zret (pc := 28) dX0_meets_28 rfl (by first | exact Or.inl rfl | exact Or.inr rfl) (le_b rfl) (le_b rfl) ?_
    first | exact ⟨by rw [vB, if_pos (by simp only [mts]; omega)], rfl, rfl⟩ | exact ⟨by rw [vB, if_neg (by simp only [mts]; omega)], rfl, rfl⟩
  · refine qV_iload_n (pc := 10) 1 dX0_meets_10 rfl rfl ?_
    refine qV_aload_n (pc := 11) 0 dX0_meets_11 rfl rfl ?_
    refine qV_get (pc := 12) kX0 1 (le_b rfl) lk_X0_20 rfl dX0_meets_12 (by first | assumption | exact hU_self _ _ _ | (refine (hU_ne (by omega)).trans ?_; first | assumption | exact hU_self _ _ _ | (refine (hU_ne (by omega)).trans ?_; first | assumption | exact hU_self _ _ _ | (refine (hU_ne (by omega)).trans ?_; first | assumption | exact hU_self _ _ _)))) (by exact rfl) ?_
    refine qV_aload_n (pc := 15) 0 dX0_meets_15 rfl rfl ?_
    refine qV_get (pc := 16) kX0 2 (le_b rfl) lk_X0_24 rfl dX0_meets_16 (by first | assumption | exact hU_self _ _ _ | (refine (hU_ne (by omega)).trans ?_; first | assumption | exact hU_self _ _ _ | (refine (hU_ne (by omega)).trans ?_; first | assumption | exact hU_self _ _ _ | (refine (hU_ne (by omega)).trans ?_; first | assumption | exact hU_self _ _ _)))) (by exact rfl) ?_
    refine qV_iadd (pc := 19) dX0_meets_19 ?_
    refine qV_icmp_gt (pc := 20) 27 dX0_meets_20 (by decide) ⟨by omega, by omega⟩ ⟨by omega, by omega⟩ (fun c20 => ?_) (fun c20 => ?_)
    · refine qV_iconst (pc := 27) dX0_meets_27 ?_
      refine qV_zret (pc := 28) dX0_meets_28 rfl (by first | exact Or.inl rfl | exact Or.inr rfl) (le_b rfl) (le_b rfl) ?_
      first | exact ⟨by rw [vB, if_pos (by simp only [mts]; omega)], rfl, rfl⟩ | exact ⟨by rw [vB, if_neg (by simp only [mts]; omega)], rfl, rfl⟩
    · refine qV_iconst (pc := 23) dX0_meets_23 ?_
      refine qV_goto (pc := 24) 28 dX0_meets_24 (by decide) ?_
      refine qV_zret (pc := 28) dX0_meets_28 rfl (by first | exact Or.inl rfl | exact Or.inr rfl) (le_b rfl) (le_b rfl) ?_
      first | exact ⟨by rw [vB, if_pos (by simp only [mts]; omega)], rfl, rfl⟩ | exact ⟨by rw [vB, if_neg (by simp only [mts]; omega)], rfl, rfl⟩
set_option maxRecDepth 100000 in
set_option maxHeartbeats 4000000 in
theorem c_bytesMore (hE : Edit h e E) : qRd l mX0_bytesMore [.ref e] h sz (vI ((E.2.2.1 : Int) - (E.2.1 : Int))) := by
  obtain ⟨e1, e2⟩ := hE
  refine qC.of 0 (by decide) (le_b rfl) ?_
  refine qV_aload_n (pc := 0) 0 dX0_bytesMore_0 rfl rfl ?_
  refine qV_get (pc := 1) kX0 0 (le_b rfl) lk_X0_14 rfl dX0_bytesMore_1 (by first | assumption | exact hU_self _ _ _ | (refine (hU_ne (by omega)).trans ?_; first | assumption | exact hU_self _ _ _ | (refine (hU_ne (by omega)).trans ?_; first | assumption | exact hU_self _ _ _ | (refine (hU_ne (by omega)).trans ?_; first | assumption | exact hU_self _ _ _)))) (by exact rfl) ?_
  refine qV_rdV (pc := 4) (c_size e2) nX3_size kX3 lk_X0_31 dX0_bytesMore_4 e2.obj ⟨le_b rfl, le_b rfl⟩ ⟨le_b rfl, le_b rfl⟩ rfl (le_b rfl) ?_
  refine qV_aload_n (pc := 7) 0 dX0_bytesMore_7 rfl rfl ?_
  refine qV_get (pc := 8) kX0 2 (le_b rfl) lk_X0_24 rfl dX0_bytesMore_8 (by first | assumption | exact hU_self _ _ _ | (refine (hU_ne (by omega)).trans ?_; first | assumption | exact hU_self _ _ _ | (refine (hU_ne (by omega)).trans ?_; first | assumption | exact hU_self _ _ _ | (refine (hU_ne (by omega)).trans ?_; first | assumption | exact hU_self _ _ _)))) (by exact rfl) ?_
  refine qV_isub (pc := 11) dX0_bytesMore_11 ?_
  refine qV_iret (pc := 12) dX0_bytesMore_12 rfl (le_b rfl) (le_b rfl) ?_
  exact ⟨rfl, rfl, rfl⟩
end EDIT
def Stg (h : qH) (g : Nat) (S : Nat → ED) (z : Nat) : Prop := ∃ (f : Nat → Option Nat) (σ : Nat → Nat), (∀ i, i < 4 → σ i < 4) ∧ (∀ i j, i < 4 → j < 4 → σ i = σ j → i = j) ∧ h g = some (oB 4 [.ref (g + 1), vI z]) ∧ h (g + 1) = some (rA 3 4 f) ∧ (∀ i, i < 4 → f i = some (g + 2 + 3 * σ i)) ∧ (∀ i, i < 4 → ∃ E, Edit h (g + 2 + 3 * σ i) E ∧ (i < z → E = S i)) ∧ z ≤ 4
theorem Stg.fr {h h' : qH} {g lo hi z : Nat} {S : Nat → ED} (a : Stg h g S z) (b : Fr h h' lo hi) (d : g + 14 ≤ lo ∨ hi ≤ g) : Stg h' g S z := by
  obtain ⟨f, σ, a1, a2, a3, a4, a5, a6, a7⟩ := a
  refine ⟨f, σ, a1, a2, (b g (by omega)).trans a3, (b (g + 1) (by omega)).trans a4, a5, fun i hi => ?_, a7⟩
  obtain ⟨E, e1, e2⟩ := a6 i hi
  have := a1 i hi
  exact ⟨E, e1.fr b (by omega), e2⟩
section STAGED
variable {l : Launch} {h : qH} {sz g z : Nat} {S : Nat → ED}
set_option maxRecDepth 100000 in
set_option maxHeartbeats 4000000 in
theorem c_Stg_size (hS : Stg h g S z) : qRd l mX4_size [.ref g] h sz (vI z) := by
  obtain ⟨f, σ, a1, a2, a3, a4, a5, a6, a7⟩ := hS
  refine qC.of 0 (by decide) (le_b rfl) ?_
  refine qV_aload_n (pc := 0) 0 dX4_size_0 rfl rfl ?_
  refine qV_get (pc := 1) kX4 1 (le_b rfl) lk_X4_18 rfl dX4_size_1 (by first | assumption | exact hU_self _ _ _ | (refine (hU_ne (by omega)).trans ?_; first | assumption | exact hU_self _ _ _ | (refine (hU_ne (by omega)).trans ?_; first | assumption | exact hU_self _ _ _ | (refine (hU_ne (by omega)).trans ?_; first | assumption | exact hU_self _ _ _)))) (by exact rfl) ?_
  refine qV_iret (pc := 4) dX4_size_4 rfl (le_b rfl) (le_b rfl) ?_
  exact ⟨rfl, rfl, rfl⟩
set_option maxRecDepth 100000 in
set_option maxHeartbeats 4000000 in
theorem c_Stg_empties (S2 : Nat → ED) (hS : Stg h g S z) : qVo l mX4_empties 0 0 [.ref g] h sz (fun h' sz' => Stg h' g S2 0 ∧ Fr h h' g (g + 14) ∧ sz' = sz) := by
  obtain ⟨f, σ, a1, a2, a3, a4, a5, a6, a7⟩ := hS
  refine qC.of 0 (by decide) (le_b rfl) ?_
  refine qV_aload_n (pc := 0) 0 dX4_empties_0 rfl rfl ?_
  refine qV_iconst (pc := 1) dX4_empties_1 ?_
  refine qV_put (pc := 2) kX4 1 (le_b rfl) lk_X4_18 rfl rfl rfl rfl dX4_empties_2 (by first | assumption | exact hU_self _ _ _ | (refine (hU_ne (by omega)).trans ?_; first | assumption | exact hU_self _ _ _ | (refine (hU_ne (by omega)).trans ?_; first | assumption | exact hU_self _ _ _ | (refine (hU_ne (by omega)).trans ?_; first | assumption | exact hU_self _ _ _)))) (by exact le_b rfl) ?_
  refine qV_vret (pc := 5) dX4_empties_5 rfl (le_b rfl) (le_b rfl) ?_
  have f2 : ∀ y : qE, Fr h (hU h g y) g (g + 1) := fun y => Fr.hU (by omega) (by omega)
  refine ⟨rfl, ⟨f, σ, a1, a2, hU_self _ _ _, (hU_ne (by omega)).trans a4, a5, fun i hi => ?_, by omega⟩, (f2 _).wide (by omega) (by omega), rfl⟩
  obtain ⟨E, e1, e2⟩ := a6 i hi
  exact ⟨E, e1.fr (f2 _) (by omega), fun q => by omega⟩
set_option maxRecDepth 100000 in
set_option maxHeartbeats 4000000 in
theorem c_slot {q : Int} {i a : Nat} {f : Nat → Option Nat} (ho : h g = some (oB 4 [.ref (g + 1), vI z])) (ha : h (g + 1) = some (rA 3 4 f)) (hq : q = i) (hi : i < 4) (hf : f i = some a) : qRd l mX4_slot [.ref g, vI q] h sz (.ref a) := by
  subst hq
  refine qC.of 0 (by decide) (le_b rfl) ?_
  refine qV_iload_n (pc := 0) 1 dX4_slot_0 rfl rfl ?_
  refine qV_iflt (pc := 1) 22 dX4_slot_1 (by decide) ⟨by omega, by omega⟩ (fun c1 => ?_) (fun c1 => ?_)
  · exfalso; omega
  · refine qV_iload_n (pc := 4) 1 dX4_slot_4 rfl rfl ?_
    refine qV_aload_n (pc := 5) 0 dX4_slot_5 rfl rfl ?_
    refine qV_get (pc := 6) kX4 0 (le_b rfl) lk_X4_11 rfl dX4_slot_6 (by first | assumption | exact hU_self _ _ _ | (refine (hU_ne (by omega)).trans ?_; first | assumption | exact hU_self _ _ _ | (refine (hU_ne (by omega)).trans ?_; first | assumption | exact hU_self _ _ _ | (refine (hU_ne (by omega)).trans ?_; first | assumption | exact hU_self _ _ _)))) (by exact rfl) ?_
    refine qV_alenR (pc := 9) dX4_slot_9 (by first | assumption | exact hU_self _ _ _ | (refine (hU_ne (by omega)).trans ?_; first | assumption | exact hU_self _ _ _ | (refine (hU_ne (by omega)).trans ?_; first | assumption | exact hU_self _ _ _ | (refine (hU_ne (by omega)).trans ?_; first | assumption | exact hU_self _ _ _)))) ?_
    refine qV_icmp_ge (pc := 10) 22 dX4_slot_10 (by decide) ⟨by omega, by omega⟩ ⟨by omega, by omega⟩ (fun c10 => ?_) (fun c10 => ?_)
    · exfalso; omega
    · refine qV_aload_n (pc := 13) 0 dX4_slot_13 rfl rfl ?_
      refine qV_get (pc := 14) kX4 0 (le_b rfl) lk_X4_11 rfl dX4_slot_14 (by first | assumption | exact hU_self _ _ _ | (refine (hU_ne (by omega)).trans ?_; first | assumption | exact hU_self _ _ _ | (refine (hU_ne (by omega)).trans ?_; first | assumption | exact hU_self _ _ _ | (refine (hU_ne (by omega)).trans ?_; first | assumption | exact hU_self _ _ _)))) (by exact rfl) ?_
      refine qV_iload_n (pc := 17) 1 dX4_slot_17 rfl rfl ?_
      refine qV_aald (pc := 18) rfl dX4_slot_18 ha (by omega) ?_
      rw [show f ((i : Int)).toNat = some a from hf]
      refine qV_goto (pc := 19) 23 dX4_slot_19 (by decide) ?_
      refine qV_aret (pc := 23) dX4_slot_23 rfl (Or.inl ⟨_, rfl⟩) (by first | exact Or.inl rfl | exact Or.inr ⟨_, rfl⟩) (le_b rfl) (le_b rfl) ?_
      exact ⟨rfl, rfl, rfl⟩
set_option maxRecDepth 100000 in
set_option maxHeartbeats 4000000 in
theorem touch_loop {x k : Int} (hS : Stg h g S z) (hx : 0 ≤ x ∧ x ≤ 5000) (hk : 0 ≤ k ∧ k ≤ 5000) (hb : ∀ i, i < z → (S i).1 ≤ 5000 ∧ (S i).2.1 ≤ 5000) : ∀ (m i : Nat) (q : Int) (x4 : Option Value), z - i = m → i ≤ z → q = i → (∀ j, j < i → ¬ mts (S j) x k) → qVM l mX4_touches 0 0 h sz (fun v h' sz' => v = some (vB (tch S x k z = true)) ∧ h' = h ∧ sz' = sz) 0 0 h sz 2 [some (.ref g), some (vI x), some (vI k), some (vI q), x4] [] := by
  obtain ⟨f, σ, a1, a2, a3, a4, a5, a6, a7⟩ := hS
  intro m
  induction m with
  | zero =>
    intro i q x4 hm hi hq hno
    obtain rfl : i = z := by omega
    have e0 : ¬ tch S x k i = true := fun e => by
      obtain ⟨j, h1, h2⟩ := (tch_iff S x k i).mp e
      exact hno j h1 h2
    refine qV_iload_n (pc := 2) 3 dX4_touches_2 rfl rfl ?_
    refine qV_aload_n (pc := 3) 0 dX4_touches_3 rfl rfl ?_
    refine qV_get (pc := 4) kX4 1 (le_b rfl) lk_X4_18 rfl dX4_touches_4 (by first | assumption | exact hU_self _ _ _ | (refine (hU_ne (by omega)).trans ?_; first | assumption | exact hU_self _ _ _ | (refine (hU_ne (by omega)).trans ?_; first | assumption | exact hU_self _ _ _ | (refine (hU_ne (by omega)).trans ?_; first | assumption | exact hU_self _ _ _)))) (by exact rfl) ?_
    refine qV_icmp_ge (pc := 7) 40 dX4_touches_7 (by decide) ⟨by omega, by omega⟩ ⟨by omega, by omega⟩ (fun c7 => ?_) (fun c7 => ?_)
    · refine qV_iconst (pc := 40) dX4_touches_40 ?_
      refine qV_zret (pc := 41) dX4_touches_41 rfl (by first | exact Or.inl rfl | exact Or.inr rfl) (le_b rfl) (le_b rfl) ?_
      exact ⟨by rw [vB, if_neg e0], rfl, rfl⟩
    · exfalso; omega
  | succ m ih =>
    intro i q x4 hm hi hq hno
    obtain ⟨E, e1, e2⟩ := a6 i (by omega)
    obtain rfl := e2 (by omega)
    have b := hb i (by omega)
    have ho := e1.1
    refine qV_iload_n (pc := 2) 3 dX4_touches_2 rfl rfl ?_
    refine qV_aload_n (pc := 3) 0 dX4_touches_3 rfl rfl ?_
    refine qV_get (pc := 4) kX4 1 (le_b rfl) lk_X4_18 rfl dX4_touches_4 (by first | assumption | exact hU_self _ _ _ | (refine (hU_ne (by omega)).trans ?_; first | assumption | exact hU_self _ _ _ | (refine (hU_ne (by omega)).trans ?_; first | assumption | exact hU_self _ _ _ | (refine (hU_ne (by omega)).trans ?_; first | assumption | exact hU_self _ _ _)))) (by exact rfl) ?_
    refine qV_icmp_ge (pc := 7) 40 dX4_touches_7 (by decide) ⟨by omega, by omega⟩ ⟨by omega, by omega⟩ (fun c7 => ?_) (fun c7 => ?_)
    · exfalso; omega
    · refine qV_aload_n (pc := 10) 0 dX4_touches_10 rfl rfl ?_
      refine qV_iload_n (pc := 11) 3 dX4_touches_11 rfl rfl ?_
      refine qV_rdV (pc := 12) (c_slot a3 a4 hq (by omega) (a5 i (by omega))) nX4_slot kX4 lk_X4_22 dX4_touches_12 (by first | assumption | exact hU_self _ _ _ | (refine (hU_ne (by omega)).trans ?_; first | assumption | exact hU_self _ _ _ | (refine (hU_ne (by omega)).trans ?_; first | assumption | exact hU_self _ _ _ | (refine (hU_ne (by omega)).trans ?_; first | assumption | exact hU_self _ _ _)))) ⟨le_b rfl, le_b rfl⟩ ⟨le_b rfl, le_b rfl⟩ rfl (le_b rfl) ?_
      refine qV_astore (pc := 15) 4 dX4_touches_15 (le_b rfl) (le_b rfl) rfl ?_
      refine qV_aload (pc := 17) 4 dX4_touches_17 rfl ?_
      refine qV_ifnull (pc := 19) dX4_touches_19 ?_
      refine qV_aload (pc := 22) 4 dX4_touches_22 rfl ?_
      refine qV_iload_n (pc := 24) 1 dX4_touches_24 rfl rfl ?_
      refine qV_iload_n (pc := 25) 2 dX4_touches_25 rfl rfl ?_
      refine qV_rdV (pc := 26) (c_meets e1 hx hk b) nX0_meets kX0 lk_X4_26 dX4_touches_26 (by first | assumption | exact hU_self _ _ _ | (refine (hU_ne (by omega)).trans ?_; first | assumption | exact hU_self _ _ _ | (refine (hU_ne (by omega)).trans ?_; first | assumption | exact hU_self _ _ _ | (refine (hU_ne (by omega)).trans ?_; first | assumption | exact hU_self _ _ _)))) ⟨le_b rfl, le_b rfl⟩ ⟨le_b rfl, le_b rfl⟩ rfl (le_b rfl) ?_
      refine qV_ifeqB (pc := 29) 34 dX4_touches_29 (by decide) (fun c29 => ?_) (fun c29 => ?_)
      · refine qV_iinc (pc := 34) 3 dX4_touches_34 rfl (le_b rfl) (le_b rfl) rfl ?_
        refine qV_goto (pc := 37) 2 dX4_touches_37 (by decide) ?_
        refine ih (i + 1) _ _ (by omega) (by omega) (by omega) (fun j hj => ?_)
        by_cases e : j = i
        · subst e; exact c29
        · exact hno j (by omega)
      · refine qV_iconst (pc := 32) dX4_touches_32 ?_
        refine qV_zret (pc := 33) dX4_touches_33 rfl (by first | exact Or.inl rfl | exact Or.inr rfl) (le_b rfl) (le_b rfl) ?_
        have e0 : tch S x k z = true := (tch_iff S x k z).mpr ⟨i, by omega, c29⟩
        exact ⟨by rw [vB, if_pos e0], rfl, rfl⟩
set_option maxRecDepth 100000 in
set_option maxHeartbeats 4000000 in
theorem c_touches {x k : Int} (hS : Stg h g S z) (hx : 0 ≤ x ∧ x ≤ 5000) (hk : 0 ≤ k ∧ k ≤ 5000) (hb : ∀ i, i < z → (S i).1 ≤ 5000 ∧ (S i).2.1 ≤ 5000) : qRd l mX4_touches [.ref g, vI x, vI k] h sz (vB (tch S x k z = true)) := by
  refine qC.of 2 (by decide) (le_b rfl) ?_
  refine qV_iconst (pc := 0) dX4_touches_0 ?_
  refine qV_istore_n (pc := 1) 3 dX4_touches_1 rfl (le_b rfl) (le_b rfl) rfl ?_
  exact touch_loop hS hx hk hb z 0 _ _ (by omega) (by omega) rfl (fun j hj => by omega)
set_option maxRecDepth 100000 in
set_option maxHeartbeats 4000000 in
theorem grow_loop (hS : Stg h g S z) : ∀ (m i : Nat) (q : Int) (x3 : Option Value), z - i = m → i ≤ z → q = i → qVM l mX4_growth 0 0 h sz (fun v h' sz' => v = some (vI (grw S z)) ∧ h' = h ∧ sz' = sz) 0 0 h sz 4 [some (.ref g), some (vI (grw S i)), some (vI q), x3] [] := by
  obtain ⟨f, σ, a1, a2, a3, a4, a5, a6, a7⟩ := hS
  intro m
  induction m with
  | zero =>
    intro i q x3 hm hi hq
    obtain rfl : i = z := by omega
    refine qV_iload_n (pc := 4) 2 dX4_growth_4 rfl rfl ?_
    refine qV_aload_n (pc := 5) 0 dX4_growth_5 rfl rfl ?_
    refine qV_get (pc := 6) kX4 1 (le_b rfl) lk_X4_18 rfl dX4_growth_6 (by first | assumption | exact hU_self _ _ _ | (refine (hU_ne (by omega)).trans ?_; first | assumption | exact hU_self _ _ _ | (refine (hU_ne (by omega)).trans ?_; first | assumption | exact hU_self _ _ _ | (refine (hU_ne (by omega)).trans ?_; first | assumption | exact hU_self _ _ _)))) (by exact rfl) ?_
    refine qV_icmp_ge (pc := 9) 39 dX4_growth_9 (by decide) ⟨by omega, by omega⟩ ⟨by omega, by omega⟩ (fun c9 => ?_) (fun c9 => ?_)
    · refine qV_iload_n (pc := 39) 1 dX4_growth_39 rfl rfl ?_
      refine qV_iret (pc := 40) dX4_growth_40 rfl (le_b rfl) (le_b rfl) ?_
      exact ⟨rfl, rfl, rfl⟩
    · exfalso; omega
  | succ m ih =>
    intro i q x3 hm hi hq
    obtain ⟨E, e1, e2⟩ := a6 i (by omega)
    obtain rfl := e2 (by omega)
    have ho := e1.1
    refine qV_iload_n (pc := 4) 2 dX4_growth_4 rfl rfl ?_
    refine qV_aload_n (pc := 5) 0 dX4_growth_5 rfl rfl ?_
    refine qV_get (pc := 6) kX4 1 (le_b rfl) lk_X4_18 rfl dX4_growth_6 (by first | assumption | exact hU_self _ _ _ | (refine (hU_ne (by omega)).trans ?_; first | assumption | exact hU_self _ _ _ | (refine (hU_ne (by omega)).trans ?_; first | assumption | exact hU_self _ _ _ | (refine (hU_ne (by omega)).trans ?_; first | assumption | exact hU_self _ _ _)))) (by exact rfl) ?_
    refine qV_icmp_ge (pc := 9) 39 dX4_growth_9 (by decide) ⟨by omega, by omega⟩ ⟨by omega, by omega⟩ (fun c9 => ?_) (fun c9 => ?_)
    · exfalso; omega
    · refine qV_aload_n (pc := 12) 0 dX4_growth_12 rfl rfl ?_
      refine qV_iload_n (pc := 13) 2 dX4_growth_13 rfl rfl ?_
      refine qV_rdV (pc := 14) (c_slot a3 a4 hq (by omega) (a5 i (by omega))) nX4_slot kX4 lk_X4_22 dX4_growth_14 (by first | assumption | exact hU_self _ _ _ | (refine (hU_ne (by omega)).trans ?_; first | assumption | exact hU_self _ _ _ | (refine (hU_ne (by omega)).trans ?_; first | assumption | exact hU_self _ _ _ | (refine (hU_ne (by omega)).trans ?_; first | assumption | exact hU_self _ _ _)))) ⟨le_b rfl, le_b rfl⟩ ⟨le_b rfl, le_b rfl⟩ rfl (le_b rfl) ?_
      refine qV_astore_n (pc := 17) 3 dX4_growth_17 rfl (le_b rfl) (le_b rfl) rfl ?_
      refine qV_iload_n (pc := 18) 1 dX4_growth_18 rfl rfl ?_
      refine qV_aload_n (pc := 19) 3 dX4_growth_19 rfl rfl ?_
      refine qV_ifnonnull (pc := 20) 27 dX4_growth_20 (by decide) ?_
      refine qV_aload_n (pc := 27) 3 dX4_growth_27 rfl rfl ?_
      refine qV_rdV (pc := 28) (c_bytesMore e1) nX0_bytesMore kX0 lk_X4_30 dX4_growth_28 (by first | assumption | exact hU_self _ _ _ | (refine (hU_ne (by omega)).trans ?_; first | assumption | exact hU_self _ _ _ | (refine (hU_ne (by omega)).trans ?_; first | assumption | exact hU_self _ _ _ | (refine (hU_ne (by omega)).trans ?_; first | assumption | exact hU_self _ _ _)))) ⟨le_b rfl, le_b rfl⟩ ⟨le_b rfl, le_b rfl⟩ rfl (le_b rfl) ?_
      refine qV_iadd (pc := 31) dX4_growth_31 ?_
      refine qV_istore_n (pc := 32) 1 dX4_growth_32 rfl (le_b rfl) (le_b rfl) rfl ?_
      refine qV_iinc (pc := 33) 2 dX4_growth_33 rfl (le_b rfl) (le_b rfl) rfl ?_
      refine qV_goto (pc := 36) 4 dX4_growth_36 (by decide) ?_
      exact ih (i + 1) _ _ (by omega) (by omega) (by omega)
set_option maxRecDepth 100000 in
set_option maxHeartbeats 4000000 in
theorem c_growth (hS : Stg h g S z) : qRd l mX4_growth [.ref g] h sz (vI (grw S z)) := by
  refine qC.of 3 (by decide) (le_b rfl) ?_
  refine qV_iconst (pc := 0) dX4_growth_0 ?_
  refine qV_istore_n (pc := 1) 1 dX4_growth_1 rfl (le_b rfl) (le_b rfl) rfl ?_
  refine qV_iconst (pc := 2) dX4_growth_2 ?_
  refine qV_istore_n (pc := 3) 2 dX4_growth_3 rfl (le_b rfl) (le_b rfl) rfl ?_
  exact grow_loop hS z 0 _ _ (by omega) (by omega) rfl
set_option maxRecDepth 100000 in
set_option maxHeartbeats 4000000 in
theorem c_isBehind {q x : Int} {i a : Nat} {E : ED} {f : Nat → Option Nat} (ho : h g = some (oB 4 [.ref (g + 1), vI z])) (ha : h (g + 1) = some (rA 3 4 f)) (hq : q = i) (hi : i < 4) (hf : f i = some a) (hE : Edit h a E) (hx : iR x) (hb : E.1 ≤ 5000) : qRd l mX4_isBehind [.ref g, vI q, vI x] h sz (vB (x < (E.1 : Int))) := by
  have hE1 := hE.1
  refine qC.of 1 (by decide) (le_b rfl) ?_
  refine qV_aload_n (pc := 0) 0 dX4_isBehind_0 rfl rfl ?_
  refine qV_iload_n (pc := 1) 1 dX4_isBehind_1 rfl rfl ?_
  refine qV_rdV (pc := 2) (c_slot ho ha hq hi hf) nX4_slot kX4 lk_X4_22 dX4_isBehind_2 (by first | assumption | exact hU_self _ _ _ | (refine (hU_ne (by omega)).trans ?_; first | assumption | exact hU_self _ _ _ | (refine (hU_ne (by omega)).trans ?_; first | assumption | exact hU_self _ _ _ | (refine (hU_ne (by omega)).trans ?_; first | assumption | exact hU_self _ _ _)))) ⟨le_b rfl, le_b rfl⟩ ⟨le_b rfl, le_b rfl⟩ rfl (le_b rfl) ?_
  refine qV_astore_n (pc := 5) 3 dX4_isBehind_5 rfl (le_b rfl) (le_b rfl) rfl ?_
  refine qV_aload_n (pc := 6) 3 dX4_isBehind_6 rfl rfl ?_
  refine qV_ifnull (pc := 7) dX4_isBehind_7 ?_
  refine qV_aload_n (pc := 10) 3 dX4_isBehind_10 rfl rfl ?_
  refine qV_iload_n (pc := 11) 2 dX4_isBehind_11 rfl rfl ?_
  refine qV_rdV (pc := 12) (c_beginsBehind hE hx hb) nX0_beginsBehind kX0 lk_X4_41 dX4_isBehind_12 (by first | assumption | exact hU_self _ _ _ | (refine (hU_ne (by omega)).trans ?_; first | assumption | exact hU_self _ _ _ | (refine (hU_ne (by omega)).trans ?_; first | assumption | exact hU_self _ _ _ | (refine (hU_ne (by omega)).trans ?_; first | assumption | exact hU_self _ _ _)))) ⟨le_b rfl, le_b rfl⟩ ⟨le_b rfl, le_b rfl⟩ rfl (le_b rfl) ?_
  refine qV_ifeqB (pc := 15) 22 dX4_isBehind_15 (by decide) (fun c15 => ?_) (fun c15 => ?_)
  · refine qV_iconst (pc := 22) dX4_isBehind_22 ?_
    refine qV_zret (pc := 23) dX4_isBehind_23 rfl (by first | exact Or.inl rfl | exact Or.inr rfl) (le_b rfl) (le_b rfl) ?_
    first | exact ⟨by rw [vB, if_pos c15], rfl, rfl⟩ | exact ⟨by rw [vB, if_neg c15], rfl, rfl⟩
  · refine qV_iconst (pc := 18) dX4_isBehind_18 ?_
    refine qV_goto (pc := 19) 23 dX4_isBehind_19 (by decide) ?_
    refine qV_zret (pc := 23) dX4_isBehind_23 rfl (by first | exact Or.inl rfl | exact Or.inr rfl) (le_b rfl) (le_b rfl) ?_
    first | exact ⟨by rw [vB, if_pos c15], rfl, rfl⟩ | exact ⟨by rw [vB, if_neg c15], rfl, rfl⟩
set_option maxRecDepth 100000 in
set_option maxHeartbeats 4000000 in
theorem adds_loop {x : Int} {i k m o : Nat} {W : Nat → Int} {F : Nat → Option Nat} {σ : Nat → Nat} (hz : z < 4) (hx : x = i) (hi5 : i ≤ 5000) (hb : ∀ i, i < z → (S i).1 ≤ 5000 ∧ (S i).2.1 ≤ 5000) (s1 : ∀ i, i < 4 → σ i < 4) (s2 : ∀ i j, i < 4 → j < 4 → σ i = σ j → i = j) (s3 : ∀ j, j < 4 → F j = some (g + 2 + 3 * σ j)) : ∀ (c : Nat) (q : Int) (h1 : qH) (f : Nat → Option Nat), c ≤ z → q = c → pos S x c = pos S x z → h1 g = some (oB 4 [.ref (g + 1), vI z]) → h1 (g + 1) = some (rA 3 4 f) → (∀ j, j < c → f j = F j) → (∀ j, c < j → j ≤ z → f j = F (j - 1)) → (∀ j, z < j → j < 4 → f j = F j) → (∀ j, j < z → Edit h1 (g + 2 + 3 * σ j) (S j)) → Edit h1 (g + 2 + 3 * σ z) (i, k, m, W) → (∀ j, z < j → j < 4 → ∃ E, Edit h1 (g + 2 + 3 * σ j) E) → Fr h h1 g (g + 14) → qVM l mX4_adds 0 0 h sz (fun v h' sz' => v = none ∧ Stg h' g (insS S (pos S x z) (i, k, m, W)) (z + 1) ∧ Fr h h' g (g + 14) ∧ sz' = sz) 0 0 h1 sz 30 [some (.ref g), some (vI x), some (vI k), some (.ref o), some (.ref (g + 2 + 3 * σ z)), some (vI q)] [] := by
  have hsz := s1 z hz
  have hfin : ∀ (c : Nat) (q : Int) (h1 : qH) (f : Nat → Option Nat), c ≤ z → q = c → c = pos S x z → h1 g = some (oB 4 [.ref (g + 1), vI z]) → h1 (g + 1) = some (rA 3 4 f) → (∀ j, j < c → f j = F j) → (∀ j, c < j → j ≤ z → f j = F (j - 1)) → (∀ j, z < j → j < 4 → f j = F j) → (∀ j, j < z → Edit h1 (g + 2 + 3 * σ j) (S j)) → Edit h1 (g + 2 + 3 * σ z) (i, k, m, W) → (∀ j, z < j → j < 4 → ∃ E, Edit h1 (g + 2 + 3 * σ j) E) → Fr h h1 g (g + 14) → qVM l mX4_adds 0 0 h sz (fun v h' sz' => v = none ∧ Stg h' g (insS S (pos S x z) (i, k, m, W)) (z + 1) ∧ Fr h h' g (g + 14) ∧ sz' = sz) 0 0 h1 sz 78 [some (.ref g), some (vI x), some (vI k), some (.ref o), some (.ref (g + 2 + 3 * σ z)), some (vI q)] [] := by
    intro c q h1 f hc hq hp ho ha f1 f2 f3 e1 e2 e3 hf
    have ee := e2.1
    refine qV_iload (pc := 78) 5 dX4_adds_78 rfl ?_
    refine qV_iflt (pc := 80) 102 dX4_adds_80 (by decide) ⟨by omega, by omega⟩ (fun c80 => ?_) (fun c80 => ?_)
    · exfalso; omega
    · refine qV_iload (pc := 83) 5 dX4_adds_83 rfl ?_
      refine qV_aload_n (pc := 85) 0 dX4_adds_85 rfl rfl ?_
      refine qV_get (pc := 86) kX4 0 (le_b rfl) lk_X4_11 rfl dX4_adds_86 (by first | assumption | exact hU_self _ _ _ | (refine (hU_ne (by omega)).trans ?_; first | assumption | exact hU_self _ _ _ | (refine (hU_ne (by omega)).trans ?_; first | assumption | exact hU_self _ _ _ | (refine (hU_ne (by omega)).trans ?_; first | assumption | exact hU_self _ _ _)))) (by exact rfl) ?_
      refine qV_alenR (pc := 89) dX4_adds_89 (by first | assumption | exact hU_self _ _ _ | (refine (hU_ne (by omega)).trans ?_; first | assumption | exact hU_self _ _ _ | (refine (hU_ne (by omega)).trans ?_; first | assumption | exact hU_self _ _ _ | (refine (hU_ne (by omega)).trans ?_; first | assumption | exact hU_self _ _ _)))) ?_
      refine qV_icmp_ge (pc := 90) 102 dX4_adds_90 (by decide) ⟨by omega, by omega⟩ ⟨by omega, by omega⟩ (fun c90 => ?_) (fun c90 => ?_)
      · exfalso; omega
      · refine qV_aload_n (pc := 93) 0 dX4_adds_93 rfl rfl ?_
        refine qV_get (pc := 94) kX4 0 (le_b rfl) lk_X4_11 rfl dX4_adds_94 (by first | assumption | exact hU_self _ _ _ | (refine (hU_ne (by omega)).trans ?_; first | assumption | exact hU_self _ _ _ | (refine (hU_ne (by omega)).trans ?_; first | assumption | exact hU_self _ _ _ | (refine (hU_ne (by omega)).trans ?_; first | assumption | exact hU_self _ _ _)))) (by exact rfl) ?_
        refine qV_iload (pc := 97) 5 dX4_adds_97 rfl ?_
        refine qV_aload (pc := 99) 4 dX4_adds_99 rfl ?_
        refine qV_aast (pc := 101) kX0 rfl dX4_adds_101 ha ee (by omega) ?_
        refine qV_aload_n (pc := 102) 0 dX4_adds_102 rfl rfl ?_
        refine qV_dup (pc := 103) dX4_adds_103 rfl ?_
        refine qV_get (pc := 104) kX4 1 (le_b rfl) lk_X4_18 rfl dX4_adds_104 (by first | assumption | exact hU_self _ _ _ | (refine (hU_ne (by omega)).trans ?_; first | assumption | exact hU_self _ _ _ | (refine (hU_ne (by omega)).trans ?_; first | assumption | exact hU_self _ _ _ | (refine (hU_ne (by omega)).trans ?_; first | assumption | exact hU_self _ _ _)))) (by exact rfl) ?_
        refine qV_iconst (pc := 107) dX4_adds_107 ?_
        refine qV_iadd (pc := 108) dX4_adds_108 ?_
        refine qV_put (pc := 109) kX4 1 (le_b rfl) lk_X4_18 rfl rfl rfl rfl dX4_adds_109 (by first | assumption | exact hU_self _ _ _ | (refine (hU_ne (by omega)).trans ?_; first | assumption | exact hU_self _ _ _ | (refine (hU_ne (by omega)).trans ?_; first | assumption | exact hU_self _ _ _ | (refine (hU_ne (by omega)).trans ?_; first | assumption | exact hU_self _ _ _)))) (by exact le_b rfl) ?_
        refine qV_vret (pc := 112) dX4_adds_112 rfl (le_b rfl) (le_b rfl) ?_
        rw [show q.toNat = c by omega]
        have fa : ∀ y : qE, Fr h1 (hU h1 (g + 1) y) g (g + 2) := fun y => Fr.hU (by omega) (by omega)
        have fb : ∀ (h2 : qH) (y : qE), Fr h2 (hU h2 g y) g (g + 2) := fun h2 y => Fr.hU (by omega) (by omega)
        have hff := (fa (rA 3 4 (va_up f c (some (g + 2 + 3 * σ z))))).trans (fb _ (oB 4 [.ref (g + 1), vI ((z : Int) + 1)]))
        refine ⟨rfl, ⟨va_up f c (some (g + 2 + 3 * σ z)), fun j => σ (if j < c then j else if j = c then z else if j ≤ z then j - 1 else j), fun j hj => s1 _ (by split <;> (try split) <;> (try split) <;> omega), fun a b ha hb e => ?_, hU_self _ _ _, (hU_ne (by omega)).trans (hU_self _ _ _), fun j hj => ?_, fun j hj => ?_, by omega⟩, hf.trans (hff.wide (by omega) (by omega)), rfl⟩
        · have := s2 _ _ (by split <;> (try split) <;> (try split) <;> omega) (by split <;> (try split) <;> (try split) <;> omega) e
          revert this
          clear e
          repeat' split
          all_goals (intro this; omega)
        · by_cases a1 : j < c
          · rw [va_up_ne _ _ (by omega), f1 j a1, s3 j hj]; simp only [a1, if_true]
          · by_cases a2 : j = c
            · subst a2; rw [va_up_self]; simp
            · rw [va_up_ne _ _ a2]
              by_cases a3 : j ≤ z
              · rw [f2 j (by omega) a3, s3 _ (by omega)]; simp only [a1, a2, a3, if_true, if_false]
              · rw [f3 j (by omega) hj, s3 j hj]; simp only [a1, a2, a3, if_false]
        · by_cases a1 : j < c
          · refine ⟨S j, ?_, fun _ => ?_⟩
            · simp only [a1, if_true]
              exact (e1 j (by omega)).fr hff (by omega)
            · simp only [insS, ← hp]; rw [if_pos a1]
          · by_cases a2 : j = c
            · refine ⟨(i, k, m, W), ?_, fun _ => ?_⟩
              · simp only [a1, a2, Nat.lt_irrefl, if_true, if_false]
                exact e2.fr hff (by omega)
              · simp only [insS, ← hp]; rw [if_neg a1, if_pos a2]
            · by_cases a3 : j ≤ z
              · refine ⟨S (j - 1), ?_, fun _ => ?_⟩
                · simp only [a1, a2, a3, if_true, if_false]
                  exact (e1 (j - 1) (by omega)).fr hff (by omega)
                · simp only [insS, ← hp]; rw [if_neg a1, if_neg a2]
              · obtain ⟨E, e4⟩ := e3 j (by omega) hj
                refine ⟨E, ?_, fun _ => by omega⟩
                simp only [a1, a2, a3, if_false]
                exact e4.fr hff (by omega)
  intro c
  induction c with
  | zero =>
    intro q h1 f hc hq hp ho ha f1 f2 f3 e1 e2 e3 hf
    refine qV_iload (pc := 30) 5 dX4_adds_30 rfl ?_
    refine qV_ifle (pc := 32) 78 dX4_adds_32 (by decide) ⟨by omega, by omega⟩ (fun c32 => ?_) (fun c32 => ?_)
    · exact hfin 0 q h1 f hc hq hp ho ha f1 f2 f3 e1 e2 e3 hf
    · exfalso; omega
  | succ c ih =>
    intro q h1 f hc hq hp ho ha f1 f2 f3 e1 e2 e3 hf
    have hfc : f c = some (g + 2 + 3 * σ c) := (f1 c (by omega)).trans (s3 c (by omega))
    have hec := e1 c (by omega)
    have hbc := hb c (by omega)
    have hec1 := hec.1
    have hsc := s1 c (by omega)
    refine qV_iload (pc := 30) 5 dX4_adds_30 rfl ?_
    refine qV_ifle (pc := 32) 78 dX4_adds_32 (by decide) ⟨by omega, by omega⟩ (fun c32 => ?_) (fun c32 => ?_)
    · exfalso; omega
    · refine qV_iload (pc := 35) 5 dX4_adds_35 rfl ?_
      refine qV_aload_n (pc := 37) 0 dX4_adds_37 rfl rfl ?_
      refine qV_get (pc := 38) kX4 0 (le_b rfl) lk_X4_11 rfl dX4_adds_38 (by first | assumption | exact hU_self _ _ _ | (refine (hU_ne (by omega)).trans ?_; first | assumption | exact hU_self _ _ _ | (refine (hU_ne (by omega)).trans ?_; first | assumption | exact hU_self _ _ _ | (refine (hU_ne (by omega)).trans ?_; first | assumption | exact hU_self _ _ _)))) (by exact rfl) ?_
      refine qV_alenR (pc := 41) dX4_adds_41 (by first | assumption | exact hU_self _ _ _ | (refine (hU_ne (by omega)).trans ?_; first | assumption | exact hU_self _ _ _ | (refine (hU_ne (by omega)).trans ?_; first | assumption | exact hU_self _ _ _ | (refine (hU_ne (by omega)).trans ?_; first | assumption | exact hU_self _ _ _)))) ?_
      refine qV_icmp_ge (pc := 42) 78 dX4_adds_42 (by decide) ⟨by omega, by omega⟩ ⟨by omega, by omega⟩ (fun c42 => ?_) (fun c42 => ?_)
      · exfalso; omega
      · refine qV_aload_n (pc := 45) 0 dX4_adds_45 rfl rfl ?_
        refine qV_iload (pc := 46) 5 dX4_adds_46 rfl ?_
        refine qV_iconst (pc := 48) dX4_adds_48 ?_
        refine qV_isub (pc := 49) dX4_adds_49 ?_
        refine qV_iload_n (pc := 50) 1 dX4_adds_50 rfl rfl ?_
        refine qV_rdV (pc := 51) (c_isBehind (i := c) ho ha (by omega) (by omega) hfc hec ⟨by omega, by omega⟩ hbc.1) nX4_isBehind kX4 lk_X4_38 dX4_adds_51 (by first | assumption | exact hU_self _ _ _ | (refine (hU_ne (by omega)).trans ?_; first | assumption | exact hU_self _ _ _ | (refine (hU_ne (by omega)).trans ?_; first | assumption | exact hU_self _ _ _ | (refine (hU_ne (by omega)).trans ?_; first | assumption | exact hU_self _ _ _)))) ⟨le_b rfl, le_b rfl⟩ ⟨le_b rfl, le_b rfl⟩ rfl (le_b rfl) ?_
        refine qV_ifeqB (pc := 54) 78 dX4_adds_54 (by decide) (fun c54 => ?_) (fun c54 => ?_)
        · exact hfin (c + 1) q h1 f hc hq (by rw [← hp]; simp only [pos]; rw [if_neg c54]) ho ha f1 f2 f3 e1 e2 e3 hf
        · refine qV_aload_n (pc := 57) 0 dX4_adds_57 rfl rfl ?_
          refine qV_get (pc := 58) kX4 0 (le_b rfl) lk_X4_11 rfl dX4_adds_58 (by first | assumption | exact hU_self _ _ _ | (refine (hU_ne (by omega)).trans ?_; first | assumption | exact hU_self _ _ _ | (refine (hU_ne (by omega)).trans ?_; first | assumption | exact hU_self _ _ _ | (refine (hU_ne (by omega)).trans ?_; first | assumption | exact hU_self _ _ _)))) (by exact rfl) ?_
          refine qV_iload (pc := 61) 5 dX4_adds_61 rfl ?_
          refine qV_aload_n (pc := 63) 0 dX4_adds_63 rfl rfl ?_
          refine qV_iload (pc := 64) 5 dX4_adds_64 rfl ?_
          refine qV_iconst (pc := 66) dX4_adds_66 ?_
          refine qV_isub (pc := 67) dX4_adds_67 ?_
          refine qV_rdV (pc := 68) (c_slot (i := c) ho ha (by omega) (by omega) hfc) nX4_slot kX4 lk_X4_22 dX4_adds_68 (by first | assumption | exact hU_self _ _ _ | (refine (hU_ne (by omega)).trans ?_; first | assumption | exact hU_self _ _ _ | (refine (hU_ne (by omega)).trans ?_; first | assumption | exact hU_self _ _ _ | (refine (hU_ne (by omega)).trans ?_; first | assumption | exact hU_self _ _ _)))) ⟨le_b rfl, le_b rfl⟩ ⟨le_b rfl, le_b rfl⟩ rfl (le_b rfl) ?_
          refine qV_aast (pc := 71) kX0 rfl dX4_adds_71 ha hec1 (by omega) ?_
          refine qV_iinc (pc := 72) 5 dX4_adds_72 rfl (le_b rfl) (le_b rfl) rfl ?_
          refine qV_goto (pc := 75) 30 dX4_adds_75 (by decide) ?_
          rw [show q.toNat = c + 1 by omega]
          have fa : ∀ y : qE, Fr h1 (hU h1 (g + 1) y) (g + 1) (g + 2) := fun y => Fr.hU (by omega) (by omega)
          refine ih _ _ _ (by omega) (by omega) (by rw [← hp]; simp only [pos]; rw [if_pos c54]) ((hU_ne (by omega)).trans ho) (hU_self _ _ _) (fun j hj => ?_) (fun j hj hj2 => ?_) (fun j hj hj2 => ?_) (fun j hj => (e1 j hj).fr (fa _) (by omega)) (e2.fr (fa _) (by omega)) (fun j hj hj2 => ?_) (hf.trans ((fa _).wide (by omega) (by omega)))
          · rw [va_up_ne _ _ (by omega)]; exact f1 j (by omega)
          · by_cases e : j = c + 1
            · subst e; rw [va_up_self, show c + 1 - 1 = c by omega, s3 c (by omega)]
            · rw [va_up_ne _ _ e]; exact f2 j (by omega) hj2
          · rw [va_up_ne _ _ (by omega)]; exact f3 j hj hj2
          · obtain ⟨E, e4⟩ := e3 j hj hj2
            exact ⟨E, e4.fr (fa _) (by omega)⟩
set_option maxRecDepth 100000 in
set_option maxHeartbeats 4000000 in
theorem c_adds {x q : Int} {i k m o No : Nat} {W : Nat → Int} (hS : Stg h g S z) (hz : z < 4) (hx : x = i) (hq : q = k) (hi5 : i ≤ 5000) (hb : ∀ i, i < z → (S i).1 ≤ 5000 ∧ (S i).2.1 ≤ 5000) (hW : Row h o No m W) (hm : m ≤ 24) (hd : g + 14 ≤ o ∨ o + 2 ≤ g) : qVo l mX4_adds 0 0 [.ref g, vI x, vI q, .ref o] h sz (fun h' sz' => Stg h' g (insS S (pos S x z) (i, k, m, W)) (z + 1) ∧ Fr h h' g (g + 14) ∧ sz' = sz) := by
  obtain ⟨f, σ, a1, a2, a3, a4, a5, a6, a7⟩ := hS
  subst hq
  have hsz := a1 z hz
  obtain ⟨E, e1, e2⟩ := a6 z (by omega)
  have hee := e1.1
  refine qC.of 2 (by decide) (le_b rfl) ?_
  refine qV_aload_n (pc := 0) 0 dX4_adds_0 rfl rfl ?_
  refine qV_aload_n (pc := 1) 0 dX4_adds_1 rfl rfl ?_
  refine qV_get (pc := 2) kX4 1 (le_b rfl) lk_X4_18 rfl dX4_adds_2 (by first | assumption | exact hU_self _ _ _ | (refine (hU_ne (by omega)).trans ?_; first | assumption | exact hU_self _ _ _ | (refine (hU_ne (by omega)).trans ?_; first | assumption | exact hU_self _ _ _ | (refine (hU_ne (by omega)).trans ?_; first | assumption | exact hU_self _ _ _)))) (by exact rfl) ?_
  refine qV_rdV (pc := 5) (c_slot (i := z) a3 a4 rfl hz (a5 z hz)) nX4_slot kX4 lk_X4_22 dX4_adds_5 (by first | assumption | exact hU_self _ _ _ | (refine (hU_ne (by omega)).trans ?_; first | assumption | exact hU_self _ _ _ | (refine (hU_ne (by omega)).trans ?_; first | assumption | exact hU_self _ _ _ | (refine (hU_ne (by omega)).trans ?_; first | assumption | exact hU_self _ _ _)))) ⟨le_b rfl, le_b rfl⟩ ⟨le_b rfl, le_b rfl⟩ rfl (le_b rfl) ?_
  refine qV_astore (pc := 8) 4 dX4_adds_8 (le_b rfl) (le_b rfl) rfl ?_
  refine qV_aload (pc := 10) 4 dX4_adds_10 rfl ?_
  refine qV_ifnonnull (pc := 12) 16 dX4_adds_12 (by decide) ?_
  refine qV_aload (pc := 16) 4 dX4_adds_16 rfl ?_
  refine qV_iload_n (pc := 18) 1 dX4_adds_18 rfl rfl ?_
  refine qV_iload_n (pc := 19) 2 dX4_adds_19 rfl rfl ?_
  refine qV_aload_n (pc := 20) 3 dX4_adds_20 rfl rfl ?_
  refine qV_voV (pc := 21) (c_takesOver (k := k) e1 hx rfl hW hm (by omega)) nX0_takesOver kX0 lk_X4_34 dX4_adds_21 (by first | assumption | exact hU_self _ _ _ | (refine (hU_ne (by omega)).trans ?_; first | assumption | exact hU_self _ _ _ | (refine (hU_ne (by omega)).trans ?_; first | assumption | exact hU_self _ _ _ | (refine (hU_ne (by omega)).trans ?_; first | assumption | exact hU_self _ _ _)))) ⟨le_b rfl, le_b rfl⟩ ⟨le_b rfl, le_b rfl⟩ rfl (le_b rfl) ?_
  rintro h2 _ ⟨t1, f2, rfl⟩
  have b3 := (f2 g (by omega)).trans a3
  have b4 := (f2 (g + 1) (by omega)).trans a4
  refine qV_aload_n (pc := 24) 0 dX4_adds_24 rfl rfl ?_
  refine qV_get (pc := 25) kX4 1 (le_b rfl) lk_X4_18 rfl dX4_adds_25 (by first | assumption | exact hU_self _ _ _ | (refine (hU_ne (by omega)).trans ?_; first | assumption | exact hU_self _ _ _ | (refine (hU_ne (by omega)).trans ?_; first | assumption | exact hU_self _ _ _ | (refine (hU_ne (by omega)).trans ?_; first | assumption | exact hU_self _ _ _)))) (by exact rfl) ?_
  refine qV_istore (pc := 28) 5 dX4_adds_28 (le_b rfl) (le_b rfl) rfl ?_
  refine adds_loop hz hx hi5 hb a1 a2 a5 z _ h2 f (Nat.le_refl z) rfl rfl b3 b4 (fun _ _ => rfl) (fun j hj hj2 => by omega) (fun _ _ _ => rfl) (fun j hj => ?_) t1 (fun j hj hj2 => ?_) (f2.wide (by omega) (by omega))
  · obtain ⟨E', e3, e4⟩ := a6 j (by omega)
    rw [← e4 hj]
    have hne : σ j ≠ σ z := fun e => by have := a2 j z (by omega) hz e; omega
    exact e3.fr f2 (by omega)
  · obtain ⟨E', e3, e4⟩ := a6 j hj2
    have hne : σ j ≠ σ z := fun e => by have := a2 j z (by omega) hz e; omega
    exact ⟨E', e3.fr f2 (by omega)⟩
set_option maxRecDepth 100000 in
set_option maxHeartbeats 4000000 in
theorem change_loop {p n : Nat} {P : PG} (hS : Stg h g S z) (hok : okS S z n) (hn : n ≤ 120) (hd : p + 7 ≤ g ∨ g + 14 ≤ p) : ∀ (c : Nat) (q : Int) (h1 : qH) (P1 : PG) (x3 : Option Value), c ≤ z → q = (c : Int) - 1 → doA S c P1 = doA S z P → Page h1 p 216 P1 → wf 216 P1 → P1.1 ≤ 120 + 24 * (z - c) → (∀ j, j < c → (S j).1 + (S j).2.1 ≤ P1.1) → Fr h h1 p (p + 7) → qVM l mX4_changesAll 0 0 h sz (fun v h' sz' => v = none ∧ Page h' p 216 (doA S z P) ∧ Fr h h' p (p + 7) ∧ sz' = sz) 0 0 h1 sz 7 [some (.ref g), some (.ref p), some (vI q), x3] [] := by
  obtain ⟨f, σ, a1, a2, a3, a4, a5, a6, a7⟩ := hS
  intro c
  induction c with
  | zero =>
    intro q h1 P1 x3 hc hq he hP hw hs hk hf
    refine qV_iload_n (pc := 7) 2 dX4_changesAll_7 rfl rfl ?_
    refine qV_iflt (pc := 8) 43 dX4_changesAll_8 (by decide) ⟨by omega, by omega⟩ (fun c8 => ?_) (fun c8 => ?_)
    · refine qV_vret (pc := 43) dX4_changesAll_43 rfl (le_b rfl) (le_b rfl) ?_
      rw [← he]
      exact ⟨rfl, hP, hf, rfl⟩
    · exfalso; omega
  | succ c ih =>
    intro q h1 P1 x3 hc hq he hP hw hs hk hf
    obtain ⟨E, e1, e2⟩ := a6 c (by omega)
    obtain rfl := e2 (by omega)
    have sc := a1 c (by omega)
    have e1' := e1.fr hf (by omega)
    have ho := e1'.1
    have b3 := (hf g (by omega)).trans a3
    have b4 := (hf (g + 1) (by omega)).trans a4
    have hP1 := hP.1
    have hk1 := hk c (by omega)
    have hm := (hok.1 c (by omega))
    refine qV_iload_n (pc := 7) 2 dX4_changesAll_7 rfl rfl ?_
    refine qV_iflt (pc := 8) 43 dX4_changesAll_8 (by decide) ⟨by omega, by omega⟩ (fun c8 => ?_) (fun c8 => ?_)
    · exfalso; omega
    · refine qV_aload_n (pc := 11) 0 dX4_changesAll_11 rfl rfl ?_
      refine qV_iload_n (pc := 12) 2 dX4_changesAll_12 rfl rfl ?_
      refine qV_rdV (pc := 13) (c_slot (i := c) b3 b4 (by omega) (by omega) (a5 c (by omega))) nX4_slot kX4 lk_X4_22 dX4_changesAll_13 (by first | assumption | exact hU_self _ _ _ | (refine (hU_ne (by omega)).trans ?_; first | assumption | exact hU_self _ _ _ | (refine (hU_ne (by omega)).trans ?_; first | assumption | exact hU_self _ _ _ | (refine (hU_ne (by omega)).trans ?_; first | assumption | exact hU_self _ _ _)))) ⟨le_b rfl, le_b rfl⟩ ⟨le_b rfl, le_b rfl⟩ rfl (le_b rfl) ?_
      refine qV_astore_n (pc := 16) 3 dX4_changesAll_16 rfl (le_b rfl) (le_b rfl) rfl ?_
      refine qV_aload_n (pc := 17) 3 dX4_changesAll_17 rfl rfl ?_
      refine qV_ifnull (pc := 18) dX4_changesAll_18 ?_
      refine qV_aload_n (pc := 21) 1 dX4_changesAll_21 rfl rfl ?_
      refine qV_aload_n (pc := 22) 3 dX4_changesAll_22 rfl rfl ?_
      refine qV_getN (pc := 23) kX0 1 (le_b rfl) lk_X4_45 rfl dX4_changesAll_23 (by first | assumption | exact hU_self _ _ _ | (refine (hU_ne (by omega)).trans ?_; first | assumption | exact hU_self _ _ _ | (refine (hU_ne (by omega)).trans ?_; first | assumption | exact hU_self _ _ _ | (refine (hU_ne (by omega)).trans ?_; first | assumption | exact hU_self _ _ _)))) (by exact rfl) ?_
      refine qV_aload_n (pc := 26) 3 dX4_changesAll_26 rfl rfl ?_
      refine qV_getN (pc := 27) kX0 2 (le_b rfl) lk_X4_48 rfl dX4_changesAll_27 (by first | assumption | exact hU_self _ _ _ | (refine (hU_ne (by omega)).trans ?_; first | assumption | exact hU_self _ _ _ | (refine (hU_ne (by omega)).trans ?_; first | assumption | exact hU_self _ _ _ | (refine (hU_ne (by omega)).trans ?_; first | assumption | exact hU_self _ _ _)))) (by exact rfl) ?_
      refine qV_aload_n (pc := 30) 3 dX4_changesAll_30 rfl rfl ?_
      refine qV_getN (pc := 31) kX0 0 (le_b rfl) lk_X4_51 rfl dX4_changesAll_31 (by first | assumption | exact hU_self _ _ _ | (refine (hU_ne (by omega)).trans ?_; first | assumption | exact hU_self _ _ _ | (refine (hU_ne (by omega)).trans ?_; first | assumption | exact hU_self _ _ _ | (refine (hU_ne (by omega)).trans ?_; first | assumption | exact hU_self _ _ _)))) (by exact rfl) ?_
      refine qV_voV (pc := 34) (c_replaces hP hw rfl rfl hk1 hm.1 (by omega) e1'.2 (by omega)) nX2_replaces kX2 lk_X4_55 dX4_changesAll_34 (by first | assumption | exact hU_self _ _ _ | (refine (hU_ne (by omega)).trans ?_; first | assumption | exact hU_self _ _ _ | (refine (hU_ne (by omega)).trans ?_; first | assumption | exact hU_self _ _ _ | (refine (hU_ne (by omega)).trans ?_; first | assumption | exact hU_self _ _ _)))) ⟨le_b rfl, le_b rfl⟩ ⟨le_b rfl, le_b rfl⟩ rfl (le_b rfl) ?_
      rintro h2 _ ⟨hP2, f2, rfl⟩
      refine qV_iinc (pc := 37) 2 dX4_changesAll_37 rfl (le_b rfl) (le_b rfl) rfl ?_
      refine qV_goto (pc := 40) 7 dX4_changesAll_40 (by decide) ?_
      have hn2 := ed_n (P := P1) (p := (S c).1) (k := (S c).2.1) (m := (S c).2.2.1) (W := (S c).2.2.2)
      refine ih _ h2 _ _ (by omega) (by omega) (by rw [← he]; rfl) hP2 (wf_ed hw hk1 hm.1 hm.2 (by omega)) (by omega) (fun j hj => ?_) (hf.trans f2)
      have := hok.2.1 j c hj (by omega)
      omega
set_option maxRecDepth 100000 in
set_option maxHeartbeats 4000000 in
theorem c_changesAll {p : Nat} {P : PG} (hS : Stg h g S z) (hP : Page h p 216 P) (hw : wf 216 P) (hok : okS S z P.1) (hn : P.1 ≤ 120) (hd : p + 7 ≤ g ∨ g + 14 ≤ p) : qVo l mX4_changesAll 0 0 [.ref g, .ref p] h sz (fun h' sz' => Page h' p 216 (doA S z P) ∧ Fr h h' p (p + 7) ∧ sz' = sz) := by
  obtain ⟨f, σ, a1, a2, a3, a4, a5, a6, a7⟩ := id hS
  refine qC.of 2 (by decide) (le_b rfl) ?_
  refine qV_aload_n (pc := 0) 0 dX4_changesAll_0 rfl rfl ?_
  refine qV_get (pc := 1) kX4 1 (le_b rfl) lk_X4_18 rfl dX4_changesAll_1 (by first | assumption | exact hU_self _ _ _ | (refine (hU_ne (by omega)).trans ?_; first | assumption | exact hU_self _ _ _ | (refine (hU_ne (by omega)).trans ?_; first | assumption | exact hU_self _ _ _ | (refine (hU_ne (by omega)).trans ?_; first | assumption | exact hU_self _ _ _)))) (by exact rfl) ?_
  refine qV_iconst (pc := 4) dX4_changesAll_4 ?_
  refine qV_isub (pc := 5) dX4_changesAll_5 ?_
  refine qV_istore_n (pc := 6) 2 dX4_changesAll_6 rfl (le_b rfl) (le_b rfl) rfl ?_
  exact change_loop hS hok hn hd z _ h P _ (Nat.le_refl z) rfl rfl hP hw (by omega) hok.2.2 Fr.rf
set_option maxRecDepth 100000 in
set_option maxHeartbeats 4000000 in
theorem stg_init_loop : ∀ (m i : Nat) (q : Int) (h1 : qH) (s1 k1 n1 : Nat) (f : Nat → Option Nat), 4 - i = m → i ≤ 4 → q = i → s1 = g + 2 + 3 * i → k1 = 1 + 3 * i → n1 = 4 + 29 * i → h1 g = some (oB 4 [.ref (g + 1), vI 0]) → h1 (g + 1) = some (rA 3 4 f) → (∀ j, j < i → f j = some (g + 2 + 3 * j)) → (∀ j, j < i → Edit h1 (g + 2 + 3 * j) (0, 0, 0, fun _ => 0)) → Fr h h1 g (g + 14) → qVM l mX4_init 13 120 h sz (fun v h' sz' => v = none ∧ Stg h' g S 0 ∧ Fr h h' g (g + 14) ∧ sz' = g + 14) k1 n1 h1 s1 14 [some (.ref g), some (vI q)] [] := by
  intro m
  induction m with
  | zero =>
    intro i q h1 s1 k1 n1 f hm hi hq hs hk hn ho ha f1 f2 hf
    obtain rfl : i = 4 := by omega
    refine qV_iload_n (pc := 14) 1 dX4_init_14 rfl rfl ?_
    refine qV_aload_n (pc := 15) 0 dX4_init_15 rfl rfl ?_
    refine qV_get (pc := 16) kX4 0 (le_b rfl) lk_X4_11 rfl dX4_init_16 (by first | assumption | exact hU_self _ _ _ | (refine (hU_ne (by omega)).trans ?_; first | assumption | exact hU_self _ _ _ | (refine (hU_ne (by omega)).trans ?_; first | assumption | exact hU_self _ _ _ | (refine (hU_ne (by omega)).trans ?_; first | assumption | exact hU_self _ _ _)))) (by exact rfl) ?_
    refine qV_alenR (pc := 19) dX4_init_19 (by first | assumption | exact hU_self _ _ _ | (refine (hU_ne (by omega)).trans ?_; first | assumption | exact hU_self _ _ _ | (refine (hU_ne (by omega)).trans ?_; first | assumption | exact hU_self _ _ _ | (refine (hU_ne (by omega)).trans ?_; first | assumption | exact hU_self _ _ _)))) ?_
    refine qV_icmp_ge (pc := 20) 42 dX4_init_20 (by decide) ⟨by omega, by omega⟩ ⟨by omega, by omega⟩ (fun c20 => ?_) (fun c20 => ?_)
    · refine qV_vret (pc := 42) dX4_init_42 rfl (by omega) (by omega) ?_
      exact ⟨rfl, ⟨f, fun j => j, fun j hj => hj, fun _ _ _ _ e => e, ho, ha, f1, fun j hj => ⟨_, f2 j hj, fun e => by omega⟩, by omega⟩, hf, by omega⟩
    · exfalso; omega
  | succ m ih =>
    intro i q h1 s1 k1 n1 f hm hi hq hs hk hn ho ha f1 f2 hf
    subst hs
    have hi3 : i < 4 := by omega
    refine qV_iload_n (pc := 14) 1 dX4_init_14 rfl rfl ?_
    refine qV_aload_n (pc := 15) 0 dX4_init_15 rfl rfl ?_
    refine qV_get (pc := 16) kX4 0 (le_b rfl) lk_X4_11 rfl dX4_init_16 (by first | assumption | exact hU_self _ _ _ | (refine (hU_ne (by omega)).trans ?_; first | assumption | exact hU_self _ _ _ | (refine (hU_ne (by omega)).trans ?_; first | assumption | exact hU_self _ _ _ | (refine (hU_ne (by omega)).trans ?_; first | assumption | exact hU_self _ _ _)))) (by exact rfl) ?_
    refine qV_alenR (pc := 19) dX4_init_19 (by first | assumption | exact hU_self _ _ _ | (refine (hU_ne (by omega)).trans ?_; first | assumption | exact hU_self _ _ _ | (refine (hU_ne (by omega)).trans ?_; first | assumption | exact hU_self _ _ _ | (refine (hU_ne (by omega)).trans ?_; first | assumption | exact hU_self _ _ _)))) ?_
    refine qV_icmp_ge (pc := 20) 42 dX4_init_20 (by decide) ⟨by omega, by omega⟩ ⟨by omega, by omega⟩ (fun c20 => ?_) (fun c20 => ?_)
    · exfalso; omega
    · refine qV_aload_n (pc := 23) 0 dX4_init_23 rfl rfl ?_
      refine qV_get (pc := 24) kX4 0 (le_b rfl) lk_X4_11 rfl dX4_init_24 (by first | assumption | exact hU_self _ _ _ | (refine (hU_ne (by omega)).trans ?_; first | assumption | exact hU_self _ _ _ | (refine (hU_ne (by omega)).trans ?_; first | assumption | exact hU_self _ _ _ | (refine (hU_ne (by omega)).trans ?_; first | assumption | exact hU_self _ _ _)))) (by exact rfl) ?_
      refine qV_iload_n (pc := 27) 1 dX4_init_27 rfl rfl ?_
      refine qV_new (pc := 28) [.null, vI 0, vI 0] kX0 lk_X4_9 wb_X0 wn_X0 (by intro j hj; rcases (show j = 0 ∨ j = 1 ∨ j = 2 by omega) with rfl | rfl | rfl <;> rfl) dX4_init_28 (by show k1 + 1 ≤ 13; omega) (by show n1 + 3 ≤ 120; omega) ?_
      refine qV_dup (pc := 31) dX4_init_31 rfl ?_
      refine qV_voIN (pc := 32) (c_Edit_init (hU_self _ _ _) rfl) nX0_init lk_X4_17 dX4_init_32 ⟨le_b rfl, le_b rfl⟩ ⟨by show _ ≤ 13; omega, by show _ ≤ 120; omega⟩ rfl (le_b rfl) ?_
      rintro h2 _ ⟨e2, f3, rfl⟩
      have b4 : h2 (g + 1) = some (rA 3 4 f) := (f3 (g + 1) (by omega)).trans ((hU_ne (by omega)).trans ha)
      have b3 : h2 g = some (oB 4 [.ref (g + 1), vI 0]) := (f3 g (by omega)).trans ((hU_ne (by omega)).trans ho)
      refine qV_aast (pc := 35) kX0 rfl dX4_init_35 b4 (e2.1) (by omega) ?_
      rw [show q.toNat = i by omega]
      refine qV_iinc (pc := 36) 1 dX4_init_36 rfl (le_b rfl) (le_b rfl) rfl ?_
      refine qV_goto (pc := 39) 14 dX4_init_39 (by decide) ?_
      have fa : ∀ y : qE, Fr h2 (hU h2 (g + 1) y) (g + 1) (g + 2) := fun y => Fr.hU (by omega) (by omega)
      refine ih (i + 1) _ _ _ _ _ _ (by omega) (by omega) (by omega) (by omega) (by omega) (by omega) ((hU_ne (by omega)).trans b3) (hU_self _ _ _) (fun j hj => ?_) (fun j hj => ?_) (((hf.trans (Fr.hU (by omega) (by omega))).trans (f3.wide (by omega) (by omega))).trans ((fa _).wide (by omega) (by omega)))
      · by_cases e : j = i
        · subst e; rw [va_up_self]
        · rw [va_up_ne _ _ e]; exact f1 j (by omega)
      · by_cases e : j = i
        · subst e; exact e2.fr (fa _) (by omega)
        · exact (((f2 j (by omega)).fr (Fr.hU (lo := g + 2 + 3 * i) (hi := g + 3 + 3 * i) (by omega) (by omega)) (by omega)).fr f3 (by omega)).fr (fa _) (by omega)
set_option maxRecDepth 100000 in
set_option maxHeartbeats 4000000 in
theorem c_Stg_init (h1 : h g = some (oB 4 [.null, vI 0])) (hs : sz = g + 1) : qVo l mX4_init 13 120 [.ref g] h sz (fun h' sz' => Stg h' g S 0 ∧ Fr h h' g (g + 14) ∧ sz' = g + 14) := by
  subst hs
  refine qC.of 1 (by decide) (le_b rfl) ?_
  refine qV_aload_n (pc := 0) 0 dX4_init_0 rfl rfl ?_
  refine qV_objinit (pc := 1) lk_X4_3 dX4_init_1 (le_b rfl) (le_b rfl) ?_
  refine qV_aload_n (pc := 4) 0 dX4_init_4 rfl rfl ?_
  refine qV_iconst (pc := 5) dX4_init_5 ?_
  refine qV_newr (pc := 6) (kd := 3) rfl lk_X4_9 (fun D s hK => hK.2.2.1) dX4_init_6 (by omega) (le_b rfl) (le_b rfl) ?_
  refine qV_putF (pc := 9) kX4 0 (le_b rfl) lk_X4_11 rfl rfl rfl rfl rfl rfl dX4_init_9 (by first | assumption | exact hU_self _ _ _ | (refine (hU_ne (by omega)).trans ?_; first | assumption | exact hU_self _ _ _ | (refine (hU_ne (by omega)).trans ?_; first | assumption | exact hU_self _ _ _ | (refine (hU_ne (by omega)).trans ?_; first | assumption | exact hU_self _ _ _)))) (by exact le_b rfl) ?_
  refine qV_iconst (pc := 12) dX4_init_12 ?_
  refine qV_istore_n (pc := 13) 1 dX4_init_13 rfl (le_b rfl) (le_b rfl) rfl ?_
  exact stg_init_loop 4 0 _ _ _ _ _ _ (by omega) (by omega) rfl rfl rfl rfl (hU_self _ _ _) ((hU_ne (by omega)).trans (hU_self _ _ _)) (fun j hj => by omega) (fun j hj => by omega) ((Fr.hU (lo := g) (hi := g + 14) (by omega) (by omega)).trans (Fr.hU (by omega) (by omega)))
end STAGED
end
