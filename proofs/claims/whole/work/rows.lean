section
-- ===== PART A: goes FIRST, ahead of the names: the tables' words, and 'selects' of the private methods out of them =====
/-- a private method of a class that the tables say can be made, by its rows of tables_1 -/
def lw_okq (q : MethodName × Nat) : Prop := (q.1.cls ≠ "java/lang/invoke/MethodHandle" ∧ q.1.cls ≠ "java/lang/invoke/VarHandle") ∧ Cond.instantiable q.1.cls q.2 ∈ tables_1 ∧ Cond.privateMethod q.1 ∈ tables_1 ∧ Cond.instanceMethod q.1 ∈ tables_1
theorem lw_p0 : lw_okq (⟨"ForkWatch$Tree", "setLeaf", "(LForkWatch$Files;ILForkWatch$Sha256;)V"⟩, 1) := ⟨⟨by decide +kernel, by decide +kernel⟩, List.mem_of_getElem? (i := 137) (by decide +kernel), List.mem_of_getElem? (i := 174) (by decide +kernel), List.mem_of_getElem? (i := 175) (by decide +kernel)⟩
theorem lw_p1 : lw_okq (⟨"ForkWatch$Sha256", "spread", "()V"⟩, 4) := ⟨⟨by decide +kernel, by decide +kernel⟩, List.mem_of_getElem? (i := 29) (by decide +kernel), List.mem_of_getElem? (i := 191) (by decide +kernel), List.mem_of_getElem? (i := 192) (by decide +kernel)⟩
theorem lw_p2 : lw_okq (⟨"ForkWatch$Sha256", "mix", "()V"⟩, 4) := ⟨⟨by decide +kernel, by decide +kernel⟩, List.mem_of_getElem? (i := 29) (by decide +kernel), List.mem_of_getElem? (i := 195) (by decide +kernel), List.mem_of_getElem? (i := 196) (by decide +kernel)⟩
theorem lw_p3 : lw_okq (⟨"ForkWatch$Tree", "setNode", "(ILForkWatch$Sha256;)V"⟩, 1) := ⟨⟨by decide +kernel, by decide +kernel⟩, List.mem_of_getElem? (i := 137) (by decide +kernel), List.mem_of_getElem? (i := 211) (by decide +kernel), List.mem_of_getElem? (i := 212) (by decide +kernel)⟩
theorem lw_p4 : lw_okq (⟨"ForkWatch", "sign", "(LForkWatch$Statement;LForkWatch$Tree;)V"⟩, 14) := ⟨⟨by decide +kernel, by decide +kernel⟩, List.mem_of_getElem? (i := 21) (by decide +kernel), List.mem_of_getElem? (i := 216) (by decide +kernel), List.mem_of_getElem? (i := 217) (by decide +kernel)⟩
theorem lw_p5 : lw_okq (⟨"ForkWatch$Mac", "startWithKey", "(I)V"⟩, 2) := ⟨⟨by decide +kernel, by decide +kernel⟩, List.mem_of_getElem? (i := 49) (by decide +kernel), List.mem_of_getElem? (i := 229) (by decide +kernel), List.mem_of_getElem? (i := 230) (by decide +kernel)⟩
theorem lw_p6 : lw_okq (⟨"java/util/ArrayList", "add", "(Ljava/lang/Object;[Ljava/lang/Object;I)V"⟩, 3) := ⟨⟨by decide +kernel, by decide +kernel⟩, List.mem_of_getElem? (i := 64) (by decide +kernel), List.mem_of_getElem? (i := 246) (by decide +kernel), List.mem_of_getElem? (i := 247) (by decide +kernel)⟩
theorem lw_p7 : lw_okq (⟨"java/util/ArrayList", "grow", "()[Ljava/lang/Object;"⟩, 3) := ⟨⟨by decide +kernel, by decide +kernel⟩, List.mem_of_getElem? (i := 64) (by decide +kernel), List.mem_of_getElem? (i := 250) (by decide +kernel), List.mem_of_getElem? (i := 251) (by decide +kernel)⟩
theorem lw_p8 : lw_okq (⟨"java/util/ArrayList", "grow", "(I)[Ljava/lang/Object;"⟩, 3) := ⟨⟨by decide +kernel, by decide +kernel⟩, List.mem_of_getElem? (i := 64) (by decide +kernel), List.mem_of_getElem? (i := 254) (by decide +kernel), List.mem_of_getElem? (i := 255) (by decide +kernel)⟩
theorem lw_p9 : lw_okq (⟨"ForkWatch", "failedCheck", "(ILForkWatch$World;)I"⟩, 14) := ⟨⟨by decide +kernel, by decide +kernel⟩, List.mem_of_getElem? (i := 21) (by decide +kernel), List.mem_of_getElem? (i := 369) (by decide +kernel), List.mem_of_getElem? (i := 370) (by decide +kernel)⟩
theorem lw_p10 : lw_okq (⟨"ForkWatch", "areSigned", "(LForkWatch$World;)Z"⟩, 14) := ⟨⟨by decide +kernel, by decide +kernel⟩, List.mem_of_getElem? (i := 21) (by decide +kernel), List.mem_of_getElem? (i := 373) (by decide +kernel), List.mem_of_getElem? (i := 374) (by decide +kernel)⟩
theorem lw_p11 : lw_okq (⟨"ForkWatch", "stoppedBy", "(I)I"⟩, 14) := ⟨⟨by decide +kernel, by decide +kernel⟩, List.mem_of_getElem? (i := 21) (by decide +kernel), List.mem_of_getElem? (i := 406) (by decide +kernel), List.mem_of_getElem? (i := 407) (by decide +kernel)⟩
theorem lw_p12 : lw_okq (⟨"ForkWatch", "makeStatement", "(ILForkWatch$World;)V"⟩, 14) := ⟨⟨by decide +kernel, by decide +kernel⟩, List.mem_of_getElem? (i := 21) (by decide +kernel), List.mem_of_getElem? (i := 468) (by decide +kernel), List.mem_of_getElem? (i := 469) (by decide +kernel)⟩
theorem lw_p13 : lw_okq (⟨"ForkWatch", "isWorld", "(I)Z"⟩, 14) := ⟨⟨by decide +kernel, by decide +kernel⟩, List.mem_of_getElem? (i := 21) (by decide +kernel), List.mem_of_getElem? (i := 490) (by decide +kernel), List.mem_of_getElem? (i := 491) (by decide +kernel)⟩
theorem lw_p14 : lw_okq (⟨"ForkWatchModel", "findRoot", "(I)V"⟩, 23) := ⟨⟨by decide +kernel, by decide +kernel⟩, List.mem_of_getElem? (i := 589) (by decide +kernel), List.mem_of_getElem? (i := 667) (by decide +kernel), List.mem_of_getElem? (i := 668) (by decide +kernel)⟩
theorem lw_p15 : lw_okq (⟨"ForkWatchModel", "add", "(I)V"⟩, 23) := ⟨⟨by decide +kernel, by decide +kernel⟩, List.mem_of_getElem? (i := 589) (by decide +kernel), List.mem_of_getElem? (i := 671) (by decide +kernel), List.mem_of_getElem? (i := 672) (by decide +kernel)⟩
def lw_privs_1 : List (MethodName × Nat) := [(⟨"ForkWatch$Tree", "setLeaf", "(LForkWatch$Files;ILForkWatch$Sha256;)V"⟩, 1), (⟨"ForkWatch$Sha256", "spread", "()V"⟩, 4), (⟨"ForkWatch$Sha256", "mix", "()V"⟩, 4), (⟨"ForkWatch$Tree", "setNode", "(ILForkWatch$Sha256;)V"⟩, 1), (⟨"ForkWatch", "sign", "(LForkWatch$Statement;LForkWatch$Tree;)V"⟩, 14), (⟨"ForkWatch$Mac", "startWithKey", "(I)V"⟩, 2), (⟨"java/util/ArrayList", "add", "(Ljava/lang/Object;[Ljava/lang/Object;I)V"⟩, 3), (⟨"java/util/ArrayList", "grow", "()[Ljava/lang/Object;"⟩, 3), (⟨"java/util/ArrayList", "grow", "(I)[Ljava/lang/Object;"⟩, 3), (⟨"ForkWatch", "failedCheck", "(ILForkWatch$World;)I"⟩, 14), (⟨"ForkWatch", "areSigned", "(LForkWatch$World;)Z"⟩, 14), (⟨"ForkWatch", "stoppedBy", "(I)I"⟩, 14), (⟨"ForkWatch", "makeStatement", "(ILForkWatch$World;)V"⟩, 14), (⟨"ForkWatch", "isWorld", "(I)Z"⟩, 14), (⟨"ForkWatchModel", "findRoot", "(I)V"⟩, 23), (⟨"ForkWatchModel", "add", "(I)V"⟩, 23)]
theorem lw_r1 : ∀ q ∈ lw_privs_1, lw_okq q := List.forall_mem_cons.mpr ⟨lw_p0, List.forall_mem_cons.mpr ⟨lw_p1, List.forall_mem_cons.mpr ⟨lw_p2, List.forall_mem_cons.mpr ⟨lw_p3, List.forall_mem_cons.mpr ⟨lw_p4, List.forall_mem_cons.mpr ⟨lw_p5, List.forall_mem_cons.mpr ⟨lw_p6, List.forall_mem_cons.mpr ⟨lw_p7, List.forall_mem_cons.mpr ⟨lw_p8, List.forall_mem_cons.mpr ⟨lw_p9, List.forall_mem_cons.mpr ⟨lw_p10, List.forall_mem_cons.mpr ⟨lw_p11, List.forall_mem_cons.mpr ⟨lw_p12, List.forall_mem_cons.mpr ⟨lw_p13, List.forall_mem_cons.mpr ⟨lw_p14, List.forall_mem_cons.mpr ⟨lw_p15, fun _ h => absurd h List.not_mem_nil⟩⟩⟩⟩⟩⟩⟩⟩⟩⟩⟩⟩⟩⟩⟩⟩
theorem lw_p16 : lw_okq (⟨"ForkWatchModel", "hash", "()V"⟩, 23) := ⟨⟨by decide +kernel, by decide +kernel⟩, List.mem_of_getElem? (i := 589) (by decide +kernel), List.mem_of_getElem? (i := 675) (by decide +kernel), List.mem_of_getElem? (i := 676) (by decide +kernel)⟩
theorem lw_p17 : lw_okq (⟨"ForkWatchModel", "mix", "(I)V"⟩, 23) := ⟨⟨by decide +kernel, by decide +kernel⟩, List.mem_of_getElem? (i := 589) (by decide +kernel), List.mem_of_getElem? (i := 679) (by decide +kernel), List.mem_of_getElem? (i := 680) (by decide +kernel)⟩
theorem lw_p18 : lw_okq (⟨"ForkWatchModel", "sign", "(I)V"⟩, 23) := ⟨⟨by decide +kernel, by decide +kernel⟩, List.mem_of_getElem? (i := 589) (by decide +kernel), List.mem_of_getElem? (i := 686) (by decide +kernel), List.mem_of_getElem? (i := 687) (by decide +kernel)⟩
theorem lw_p19 : lw_okq (⟨"ForkWatchModel", "mac", "()V"⟩, 23) := ⟨⟨by decide +kernel, by decide +kernel⟩, List.mem_of_getElem? (i := 589) (by decide +kernel), List.mem_of_getElem? (i := 690) (by decide +kernel), List.mem_of_getElem? (i := 691) (by decide +kernel)⟩
theorem lw_p20 : lw_okq (⟨"ForkWatchModel", "addKey", "(I)V"⟩, 23) := ⟨⟨by decide +kernel, by decide +kernel⟩, List.mem_of_getElem? (i := 589) (by decide +kernel), List.mem_of_getElem? (i := 694) (by decide +kernel), List.mem_of_getElem? (i := 695) (by decide +kernel)⟩
theorem lw_p21 : lw_okq (⟨"ForkWatchModel", "tell", "(II)V"⟩, 23) := ⟨⟨by decide +kernel, by decide +kernel⟩, List.mem_of_getElem? (i := 589) (by decide +kernel), List.mem_of_getElem? (i := 698) (by decide +kernel), List.mem_of_getElem? (i := 699) (by decide +kernel)⟩
theorem lw_p22 : lw_okq (⟨"ForkWatchModel", "check", "(I)I"⟩, 23) := ⟨⟨by decide +kernel, by decide +kernel⟩, List.mem_of_getElem? (i := 589) (by decide +kernel), List.mem_of_getElem? (i := 786) (by decide +kernel), List.mem_of_getElem? (i := 787) (by decide +kernel)⟩
theorem lw_p23 : lw_okq (⟨"ForkWatchModel", "isSigned", "(II)Z"⟩, 23) := ⟨⟨by decide +kernel, by decide +kernel⟩, List.mem_of_getElem? (i := 589) (by decide +kernel), List.mem_of_getElem? (i := 790) (by decide +kernel), List.mem_of_getElem? (i := 791) (by decide +kernel)⟩
theorem lw_p24 : lw_okq (⟨"ForkWatchModel", "greatest", "(I)I"⟩, 23) := ⟨⟨by decide +kernel, by decide +kernel⟩, List.mem_of_getElem? (i := 589) (by decide +kernel), List.mem_of_getElem? (i := 800) (by decide +kernel), List.mem_of_getElem? (i := 801) (by decide +kernel)⟩
theorem lw_p25 : lw_okq (⟨"ForkWatchModel", "advance", "(I)V"⟩, 23) := ⟨⟨by decide +kernel, by decide +kernel⟩, List.mem_of_getElem? (i := 589) (by decide +kernel), List.mem_of_getElem? (i := 804) (by decide +kernel), List.mem_of_getElem? (i := 805) (by decide +kernel)⟩
def lw_privs_2 : List (MethodName × Nat) := [(⟨"ForkWatchModel", "hash", "()V"⟩, 23), (⟨"ForkWatchModel", "mix", "(I)V"⟩, 23), (⟨"ForkWatchModel", "sign", "(I)V"⟩, 23), (⟨"ForkWatchModel", "mac", "()V"⟩, 23), (⟨"ForkWatchModel", "addKey", "(I)V"⟩, 23), (⟨"ForkWatchModel", "tell", "(II)V"⟩, 23), (⟨"ForkWatchModel", "check", "(I)I"⟩, 23), (⟨"ForkWatchModel", "isSigned", "(II)Z"⟩, 23), (⟨"ForkWatchModel", "greatest", "(I)I"⟩, 23), (⟨"ForkWatchModel", "advance", "(I)V"⟩, 23)]
theorem lw_r2 : ∀ q ∈ lw_privs_2, lw_okq q := List.forall_mem_cons.mpr ⟨lw_p16, List.forall_mem_cons.mpr ⟨lw_p17, List.forall_mem_cons.mpr ⟨lw_p18, List.forall_mem_cons.mpr ⟨lw_p19, List.forall_mem_cons.mpr ⟨lw_p20, List.forall_mem_cons.mpr ⟨lw_p21, List.forall_mem_cons.mpr ⟨lw_p22, List.forall_mem_cons.mpr ⟨lw_p23, List.forall_mem_cons.mpr ⟨lw_p24, List.forall_mem_cons.mpr ⟨lw_p25, fun _ h => absurd h List.not_mem_nil⟩⟩⟩⟩⟩⟩⟩⟩⟩⟩
def lw_privs : List (MethodName × Nat) := lw_privs_1 ++ (lw_privs_2)
def lw_tbl : List Cond := k2_sels lw_privs ++ tables_1
theorem lw_privs_ok : ∀ q ∈ lw_privs, lw_okq q := by
  show ∀ q ∈ lw_privs_1 ++ (lw_privs_2), lw_okq q
  exact List.forall_mem_append.mpr ⟨lw_r1, lw_r2⟩
-- ===== end of PART A; then your names; then what follows =====
end
section
/-! ===== BEGIN words of one list among another's, by their places ===== -/
theorem goodIn_r {big : List Cond} (ws : List Cond) (ps : List Nat) (hp : ws = ps.filterMap (fun i => big[i]?)) (h : ws.all goodWord = true) : GoodIn big ws := by
  intro w hw
  have h1 := List.all_eq_true.mp h w hw
  rw [hp] at hw
  obtain ⟨i, -, hi⟩ := List.mem_filterMap.mp hw
  have hm : w ∈ big := by first | exact List.mem_of_getElem? hi | exact List.getElem?_mem hi
  exact ⟨hm, good_of_word h1⟩
theorem goodIn_app {big a b : List Cond} (ha : GoodIn big a) (hb : GoodIn big b) : GoodIn big (a ++ b) := fun w h => (List.mem_append.mp h).elim (ha w) (hb w)
theorem goodIn_ca {big a b : List Cond} {c : Cond} (ha : GoodIn big (c :: a)) (hb : GoodIn big b) : GoodIn big (c :: (a ++ b)) := fun w h => (List.mem_cons.mp h).elim (fun e => ha w (List.mem_cons.mpr (Or.inl e))) (fun h => (List.mem_append.mp h).elim (fun h => ha w (List.mem_cons.mpr (Or.inr h))) (hb w))
theorem goodIn_sub {big ws : List Cond} (hm : ∀ w ∈ ws, w ∈ big) (h : ws.all goodWord = true) : GoodIn big ws := fun w hw => ⟨hm w hw, good_of_word (List.all_eq_true.mp h w hw)⟩
/-! ===== END ===== -/

/-! ===== BEGIN printed: names, fields, word lists, decode rows ===== -/
def RX0 : String := "ForkWatch$Files"
def TX0 : u_T := fun k => match k with
  | 0 => ("ForkWatch$Files", "content", "[I", true)
  | _ => ("ForkWatch$Files", "length", "[I", true)
def tyX0 : Nat → FieldType := fun k => match k with
  | 0 => .array .int
  | _ => .array .int
abbrev wsX00 : List Cond := u_ws RX0 TX0 2
theorem nmX0 : ∀ a, a < 2 → ∀ b, b < 2 → a ≠ b → (TX0 a).2.1 ≠ (TX0 b).2.1 := by decide +kernel
theorem tyX0_ok : ∀ k, k < 2 → parseFieldDescriptor (TX0 k).2.2.1 = some (tyX0 k) := by decide +kernel
abbrev cX0_init : ByteArray := prog_2_method_1_code
def yX0_init : MethodName := ⟨RX0, "<init>", "()V"⟩
abbrev cX0_put : ByteArray := prog_2_method_2_code
def yX0_put : MethodName := ⟨RX0, "put", "(I[II)V"⟩
abbrev cX0_become : ByteArray := prog_2_method_3_code
def yX0_become : MethodName := ⟨RX0, "become", "(LForkWatch$Files;)V"⟩
abbrev cX0_clear : ByteArray := prog_2_method_4_code
def yX0_clear : MethodName := ⟨RX0, "clear", "()V"⟩
abbrev cX0_holds : ByteArray := prog_2_method_5_code
def yX0_holds : MethodName := ⟨RX0, "holds", "(I[I)Z"⟩
def RX1 : String := "ForkWatch$History"
def TX1 : u_T := fun k => match k with
  | 0 => ("ForkWatch$History", "operations", "Ljava/util/ArrayList;", true)
  | 1 => ("ForkWatch$History", "done", "[I", true)
  | _ => ("ForkWatch$History", "store", "LForkWatch$Files;", true)
def tyX1 : Nat → FieldType := fun k => match k with
  | 0 => .object "java/util/ArrayList"
  | 1 => .array .int
  | _ => .object "ForkWatch$Files"
abbrev wsX10 : List Cond := u_ws RX1 TX1 3
theorem nmX1 : ∀ a, a < 3 → ∀ b, b < 3 → a ≠ b → (TX1 a).2.1 ≠ (TX1 b).2.1 := by decide +kernel
theorem tyX1_ok : ∀ k, k < 3 → parseFieldDescriptor (TX1 k).2.2.1 = some (tyX1 k) := by decide +kernel
abbrev cX1_init : ByteArray := prog_3_method_1_code
def yX1_init : MethodName := ⟨RX1, "<init>", "()V"⟩
abbrev cX1_note : ByteArray := prog_3_method_2_code
def yX1_note : MethodName := ⟨RX1, "note", "(ZII[II)V"⟩
abbrev cX1_isAnsweredPlainly : ByteArray := prog_3_method_3_code
def yX1_isAnsweredPlainly : MethodName := ⟨RX1, "isAnsweredPlainly", "(ILForkWatch$Statement;)Z"⟩
abbrev cX1_oneBeginsTheOther : ByteArray := prog_3_method_4_code
def yX1_oneBeginsTheOther : MethodName := ⟨RX1, "oneBeginsTheOther", "(LForkWatch$Statement;LForkWatch$Statement;)Z"⟩
def RX2 : String := "ForkWatch$Mac"
def TX2 : u_T := fun k => match k with
  | 0 => ("ForkWatch$Mac", "sha", "LForkWatch$Sha256;", true)
  | _ => ("ForkWatch$Mac", "inside", "[I", true)
def tyX2 : Nat → FieldType := fun k => match k with
  | 0 => .object "ForkWatch$Sha256"
  | _ => .array .int
abbrev wsX20 : List Cond := u_ws RX2 TX2 2
theorem nmX2 : ∀ a, a < 2 → ∀ b, b < 2 → a ≠ b → (TX2 a).2.1 ≠ (TX2 b).2.1 := by decide +kernel
theorem tyX2_ok : ∀ k, k < 2 → parseFieldDescriptor (TX2 k).2.2.1 = some (tyX2 k) := by decide +kernel
abbrev cX2_init : ByteArray := prog_4_method_1_code
def yX2_init : MethodName := ⟨RX2, "<init>", "()V"⟩
abbrev cX2_make : ByteArray := prog_4_method_2_code
def yX2_make : MethodName := ⟨RX2, "make", "([II[II)V"⟩
abbrev cX2_startWithKey : ByteArray := prog_4_method_3_code
def yX2_startWithKey : MethodName := ⟨RX2, "startWithKey", "(I)V"⟩
def RX3 : String := "ForkWatch$Operation"
def TX3 : u_T := fun k => match k with
  | 0 => ("ForkWatch$Operation", "writes", "Z", true)
  | 1 => ("ForkWatch$Operation", "client", "I", true)
  | 2 => ("ForkWatch$Operation", "number", "I", true)
  | 3 => ("ForkWatch$Operation", "file", "I", true)
  | _ => ("ForkWatch$Operation", "content", "[I", true)
def tyX3 : Nat → FieldType := fun k => match k with
  | 0 => .boolean
  | 1 => .int
  | 2 => .int
  | 3 => .int
  | _ => .array .int
abbrev wsX30 : List Cond := u_ws RX3 TX3 5
theorem nmX3 : ∀ a, a < 5 → ∀ b, b < 5 → a ≠ b → (TX3 a).2.1 ≠ (TX3 b).2.1 := by decide +kernel
theorem tyX3_ok : ∀ k, k < 5 → parseFieldDescriptor (TX3 k).2.2.1 = some (tyX3 k) := by decide +kernel
abbrev cX3_init : ByteArray := prog_5_method_1_code
def yX3_init : MethodName := ⟨RX3, "<init>", "(ZIII[I)V"⟩
abbrev cX3_isCountedBy : ByteArray := prog_5_method_2_code
def yX3_isCountedBy : MethodName := ⟨RX3, "isCountedBy", "(LForkWatch$Statement;)Z"⟩
def RX4 : String := "ForkWatch$Sha256"
def TX4 : u_T := fun k => match k with
  | 0 => ("ForkWatch$Sha256", "state", "[I", true)
  | 1 => ("ForkWatch$Sha256", "words", "[I", true)
  | 2 => ("ForkWatch$Sha256", "filled", "I", false)
  | _ => ("ForkWatch$Sha256", "taken", "I", false)
def tyX4 : Nat → FieldType := fun k => match k with
  | 0 => .array .int
  | 1 => .array .int
  | 2 => .int
  | _ => .int
abbrev wsX40 : List Cond := u_ws RX4 TX4 4
theorem nmX4 : ∀ a, a < 4 → ∀ b, b < 4 → a ≠ b → (TX4 a).2.1 ≠ (TX4 b).2.1 := by decide +kernel
theorem tyX4_ok : ∀ k, k < 4 → parseFieldDescriptor (TX4 k).2.2.1 = some (tyX4 k) := by decide +kernel
abbrev cX4_init : ByteArray := prog_6_method_1_code
def yX4_init : MethodName := ⟨RX4, "<init>", "()V"⟩
abbrev cX4_start : ByteArray := prog_6_method_2_code
def yX4_start : MethodName := ⟨RX4, "start", "()V"⟩
abbrev cX4_take : ByteArray := prog_6_method_3_code
def yX4_take : MethodName := ⟨RX4, "take", "(I)V"⟩
abbrev cX4_takeRow : ByteArray := prog_6_method_4_code
def yX4_takeRow : MethodName := ⟨RX4, "takeRow", "([III)V"⟩
abbrev cX4_finish : ByteArray := prog_6_method_5_code
def yX4_finish : MethodName := ⟨RX4, "finish", "([II)V"⟩
abbrev cX4_spread : ByteArray := prog_6_method_6_code
def yX4_spread : MethodName := ⟨RX4, "spread", "()V"⟩
abbrev cX4_mix : ByteArray := prog_6_method_7_code
def yX4_mix : MethodName := ⟨RX4, "mix", "()V"⟩
def RX5 : String := "ForkWatch$Statement"
def TX5 : u_T := fun k => match k with
  | _ => ("ForkWatch$Statement", "bytes", "[I", true)
def tyX5 : Nat → FieldType := fun k => match k with
  | _ => .array .int
abbrev wsX50 : List Cond := u_ws RX5 TX5 1
theorem nmX5 : ∀ a, a < 1 → ∀ b, b < 1 → a ≠ b → (TX5 a).2.1 ≠ (TX5 b).2.1 := by decide +kernel
theorem tyX5_ok : ∀ k, k < 1 → parseFieldDescriptor (TX5 k).2.2.1 = some (tyX5 k) := by decide +kernel
abbrev cX5_init : ByteArray := prog_7_method_1_code
def yX5_init : MethodName := ⟨RX5, "<init>", "(I)V"⟩
abbrev cX5_become : ByteArray := prog_7_method_2_code
def yX5_become : MethodName := ⟨RX5, "become", "(LForkWatch$Statement;)V"⟩
abbrev cX5_countOf : ByteArray := prog_7_method_3_code
def yX5_countOf : MethodName := ⟨RX5, "countOf", "(I)J"⟩
abbrev cX5_setCount : ByteArray := prog_7_method_4_code
def yX5_setCount : MethodName := ⟨RX5, "setCount", "(IJ)V"⟩
abbrev cX5_isNotAbove : ByteArray := prog_7_method_5_code
def yX5_isNotAbove : MethodName := ⟨RX5, "isNotAbove", "(LForkWatch$Statement;)Z"⟩
abbrev cX5_isInLineWith : ByteArray := prog_7_method_6_code
def yX5_isInLineWith : MethodName := ⟨RX5, "isInLineWith", "(LForkWatch$Statement;)Z"⟩
def RX6 : String := "ForkWatch$Tree"
def TX6 : u_T := fun k => match k with
  | _ => ("ForkWatch$Tree", "nodes", "[I", true)
def tyX6 : Nat → FieldType := fun k => match k with
  | _ => .array .int
abbrev wsX60 : List Cond := u_ws RX6 TX6 1
theorem nmX6 : ∀ a, a < 1 → ∀ b, b < 1 → a ≠ b → (TX6 a).2.1 ≠ (TX6 b).2.1 := by decide +kernel
theorem tyX6_ok : ∀ k, k < 1 → parseFieldDescriptor (TX6 k).2.2.1 = some (tyX6 k) := by decide +kernel
abbrev cX6_init : ByteArray := prog_8_method_1_code
def yX6_init : MethodName := ⟨RX6, "<init>", "()V"⟩
abbrev cX6_build : ByteArray := prog_8_method_2_code
def yX6_build : MethodName := ⟨RX6, "build", "(LForkWatch$Files;LForkWatch$Sha256;)V"⟩
abbrev cX6_refresh : ByteArray := prog_8_method_3_code
def yX6_refresh : MethodName := ⟨RX6, "refresh", "(LForkWatch$Files;ILForkWatch$Sha256;)V"⟩
abbrev cX6_become : ByteArray := prog_8_method_4_code
def yX6_become : MethodName := ⟨RX6, "become", "(LForkWatch$Tree;)V"⟩
abbrev cX6_copyRoot : ByteArray := prog_8_method_5_code
def yX6_copyRoot : MethodName := ⟨RX6, "copyRoot", "([II)V"⟩
abbrev cX6_hasRoot : ByteArray := prog_8_method_6_code
def yX6_hasRoot : MethodName := ⟨RX6, "hasRoot", "([II)Z"⟩
abbrev cX6_setLeaf : ByteArray := prog_8_method_7_code
def yX6_setLeaf : MethodName := ⟨RX6, "setLeaf", "(LForkWatch$Files;ILForkWatch$Sha256;)V"⟩
abbrev cX6_setNode : ByteArray := prog_8_method_8_code
def yX6_setNode : MethodName := ⟨RX6, "setNode", "(ILForkWatch$Sha256;)V"⟩
def RX7 : String := "ForkWatch$World"
def TX7 : u_T := fun k => match k with
  | 0 => ("ForkWatch$World", "told", "[LForkWatch$Statement;", true)
  | 1 => ("ForkWatch$World", "files", "LForkWatch$Files;", true)
  | _ => ("ForkWatch$World", "tree", "LForkWatch$Tree;", true)
def tyX7 : Nat → FieldType := fun k => match k with
  | 0 => .array (.object "ForkWatch$Statement")
  | 1 => .object "ForkWatch$Files"
  | _ => .object "ForkWatch$Tree"
abbrev wsX70 : List Cond := u_ws RX7 TX7 3
theorem nmX7 : ∀ a, a < 3 → ∀ b, b < 3 → a ≠ b → (TX7 a).2.1 ≠ (TX7 b).2.1 := by decide +kernel
theorem tyX7_ok : ∀ k, k < 3 → parseFieldDescriptor (TX7 k).2.2.1 = some (tyX7 k) := by decide +kernel
abbrev cX7_init : ByteArray := prog_9_method_1_code
def yX7_init : MethodName := ⟨RX7, "<init>", "()V"⟩
abbrev cX7_become : ByteArray := prog_9_method_2_code
def yX7_become : MethodName := ⟨RX7, "become", "(LForkWatch$World;)V"⟩
abbrev cX7_put : ByteArray := prog_9_method_3_code
def yX7_put : MethodName := ⟨RX7, "put", "(I[IILForkWatch$Sha256;)V"⟩
abbrev cX7_flip : ByteArray := prog_9_method_4_code
def yX7_flip : MethodName := ⟨RX7, "flip", "(IIILForkWatch$Sha256;)V"⟩
abbrev cX7_isInLine : ByteArray := prog_9_method_5_code
def yX7_isInLine : MethodName := ⟨RX7, "isInLine", "()Z"⟩
abbrev cX7_greatest : ByteArray := prog_9_method_6_code
def yX7_greatest : MethodName := ⟨RX7, "greatest", "()LForkWatch$Statement;"⟩
def RX8 : String := "ForkWatch"
def TX8 : u_T := fun k => match k with
  | 0 => ("ForkWatch", "sha", "LForkWatch$Sha256;", true)
  | 1 => ("ForkWatch", "mac", "LForkWatch$Mac;", true)
  | 2 => ("ForkWatch", "digestRow", "[I", true)
  | 3 => ("ForkWatch", "worlds", "Ljava/util/ArrayList;", true)
  | 4 => ("ForkWatch", "remembered", "[LForkWatch$Statement;", true)
  | 5 => ("ForkWatch", "shown", "[I", true)
  | 6 => ("ForkWatch", "collected", "[I", true)
  | 7 => ("ForkWatch", "collectedLength", "I", false)
  | 8 => ("ForkWatch", "lastRead", "[I", true)
  | 9 => ("ForkWatch", "lastReadLength", "I", false)
  | 10 => ("ForkWatch", "history", "LForkWatch$History;", true)
  | 11 => ("ForkWatch", "changed", "Z", false)
  | 12 => ("ForkWatch", "wellDone", "I", false)
  | _ => ("ForkWatch", "stopped", "I", false)
def tyX8 : Nat → FieldType := fun k => match k with
  | 0 => .object "ForkWatch$Sha256"
  | 1 => .object "ForkWatch$Mac"
  | 2 => .array .int
  | 3 => .object "java/util/ArrayList"
  | 4 => .array (.object "ForkWatch$Statement")
  | 5 => .array .int
  | 6 => .array .int
  | 7 => .int
  | 8 => .array .int
  | 9 => .int
  | 10 => .object "ForkWatch$History"
  | 11 => .boolean
  | 12 => .int
  | _ => .int
abbrev wsX80 : List Cond := u_ws RX8 TX8 14
theorem nmX8 : ∀ a, a < 14 → ∀ b, b < 14 → a ≠ b → (TX8 a).2.1 ≠ (TX8 b).2.1 := by decide +kernel
theorem tyX8_ok : ∀ k, k < 14 → parseFieldDescriptor (TX8 k).2.2.1 = some (tyX8 k) := by decide +kernel
abbrev cX8_init : ByteArray := prog_1_method_1_code
def yX8_init : MethodName := ⟨RX8, "<init>", "()V"⟩
abbrev cX8_feed : ByteArray := prog_1_method_2_code
def yX8_feed : MethodName := ⟨RX8, "feed", "(I)Z"⟩
abbrev cX8_write : ByteArray := prog_1_method_3_code
def yX8_write : MethodName := ⟨RX8, "write", "(II)I"⟩
abbrev cX8_read : ByteArray := prog_1_method_4_code
def yX8_read : MethodName := ⟨RX8, "read", "(II)I"⟩
abbrev cX8_got : ByteArray := prog_1_method_5_code
def yX8_got : MethodName := ⟨RX8, "got", "(I)I"⟩
abbrev cX8_split : ByteArray := prog_1_method_6_code
def yX8_split : MethodName := ⟨RX8, "split", "(I)I"⟩
abbrev cX8_show : ByteArray := prog_1_method_7_code
def yX8_show : MethodName := ⟨RX8, "show", "(II)I"⟩
abbrev cX8_graft : ByteArray := prog_1_method_8_code
def yX8_graft : MethodName := ⟨RX8, "graft", "(III)Z"⟩
abbrev cX8_poke : ByteArray := prog_1_method_9_code
def yX8_poke : MethodName := ⟨RX8, "poke", "(IIII)Z"⟩
abbrev cX8_spoil : ByteArray := prog_1_method_10_code
def yX8_spoil : MethodName := ⟨RX8, "spoil", "(IIII)Z"⟩
abbrev cX8_exchange : ByteArray := prog_1_method_11_code
def yX8_exchange : MethodName := ⟨RX8, "exchange", "(II)I"⟩
abbrev cX8_statement : ByteArray := prog_1_method_12_code
def yX8_statement : MethodName := ⟨RX8, "statement", "(III)I"⟩
abbrev cX8_seen : ByteArray := prog_1_method_13_code
def yX8_seen : MethodName := ⟨RX8, "seen", "(II)I"⟩
abbrev cX8_digest : ByteArray := prog_1_method_14_code
def yX8_digest : MethodName := ⟨RX8, "digest", "(II)I"⟩
abbrev cX8_plain : ByteArray := prog_1_method_15_code
def yX8_plain : MethodName := ⟨RX8, "plain", "()Z"⟩
abbrev cX8_count : ByteArray := prog_1_method_16_code
def yX8_count : MethodName := ⟨RX8, "count", "(I)I"⟩
abbrev cX8_isWorld : ByteArray := prog_1_method_17_code
def yX8_isWorld : MethodName := ⟨RX8, "isWorld", "(I)Z"⟩
abbrev cX8_isClient : ByteArray := prog_1_method_18_code
def yX8_isClient : MethodName := ⟨RX8, "isClient", "(I)Z"⟩
abbrev cX8_isFile : ByteArray := prog_1_method_19_code
def yX8_isFile : MethodName := ⟨RX8, "isFile", "(I)Z"⟩
abbrev cX8_isStatementByte : ByteArray := prog_1_method_20_code
def yX8_isStatementByte : MethodName := ⟨RX8, "isStatementByte", "(I)Z"⟩
abbrev cX8_isMask : ByteArray := prog_1_method_21_code
def yX8_isMask : MethodName := ⟨RX8, "isMask", "(I)Z"⟩
abbrev cX8_failedCheck : ByteArray := prog_1_method_22_code
def yX8_failedCheck : MethodName := ⟨RX8, "failedCheck", "(ILForkWatch$World;)I"⟩
abbrev cX8_areSigned : ByteArray := prog_1_method_23_code
def yX8_areSigned : MethodName := ⟨RX8, "areSigned", "(LForkWatch$World;)Z"⟩
abbrev cX8_stoppedBy : ByteArray := prog_1_method_24_code
def yX8_stoppedBy : MethodName := ⟨RX8, "stoppedBy", "(I)I"⟩
abbrev cX8_makeStatement : ByteArray := prog_1_method_25_code
def yX8_makeStatement : MethodName := ⟨RX8, "makeStatement", "(ILForkWatch$World;)V"⟩
abbrev cX8_sign : ByteArray := prog_1_method_26_code
def yX8_sign : MethodName := ⟨RX8, "sign", "(LForkWatch$Statement;LForkWatch$Tree;)V"⟩
abbrev cX8_sameRow : ByteArray := prog_1_method_27_code
def yX8_sameRow : MethodName := ⟨RX8, "sameRow", "([II[III)Z"⟩
def RX9 : String := "ForkWatchModel"
def TX9 : u_T := fun k => match k with
  | 0 => ("ForkWatchModel", "constants", "[I", true)
  | 1 => ("ForkWatchModel", "begins", "[I", true)
  | 2 => ("ForkWatchModel", "statements", "[I", true)
  | 3 => ("ForkWatchModel", "remembered", "[I", true)
  | 4 => ("ForkWatchModel", "files", "[I", true)
  | 5 => ("ForkWatchModel", "lengths", "[I", true)
  | 6 => ("ForkWatchModel", "worlds", "I", false)
  | 7 => ("ForkWatchModel", "shown", "[I", true)
  | 8 => ("ForkWatchModel", "collected", "[I", true)
  | 9 => ("ForkWatchModel", "count", "I", false)
  | 10 => ("ForkWatchModel", "got", "[I", true)
  | 11 => ("ForkWatchModel", "gotSize", "I", false)
  | 12 => ("ForkWatchModel", "well", "I", false)
  | 13 => ("ForkWatchModel", "stopped", "I", false)
  | 14 => ("ForkWatchModel", "message", "[I", true)
  | 15 => ("ForkWatchModel", "size", "I", false)
  | 16 => ("ForkWatchModel", "digest", "[I", true)
  | 17 => ("ForkWatchModel", "inner", "[I", true)
  | 18 => ("ForkWatchModel", "words", "[I", true)
  | 19 => ("ForkWatchModel", "state", "[I", true)
  | 20 => ("ForkWatchModel", "tree", "[I", true)
  | 21 => ("ForkWatchModel", "plain", "[I", true)
  | _ => ("ForkWatchModel", "plainSize", "I", false)
def tyX9 : Nat → FieldType := fun k => match k with
  | 0 => .array .int
  | 1 => .array .int
  | 2 => .array .int
  | 3 => .array .int
  | 4 => .array .int
  | 5 => .array .int
  | 6 => .int
  | 7 => .array .int
  | 8 => .array .int
  | 9 => .int
  | 10 => .array .int
  | 11 => .int
  | 12 => .int
  | 13 => .int
  | 14 => .array .int
  | 15 => .int
  | 16 => .array .int
  | 17 => .array .int
  | 18 => .array .int
  | 19 => .array .int
  | 20 => .array .int
  | 21 => .array .int
  | _ => .int
abbrev wsX90 : List Cond := u_ws RX9 TX9 23
theorem nmX9 : ∀ a, a < 23 → ∀ b, b < 23 → a ≠ b → (TX9 a).2.1 ≠ (TX9 b).2.1 := by decide +kernel
theorem tyX9_ok : ∀ k, k < 23 → parseFieldDescriptor (TX9 k).2.2.1 = some (tyX9 k) := by decide +kernel
abbrev cX9_init : ByteArray := prog_11_method_1_code
def yX9_init : MethodName := ⟨RX9, "<init>", "()V"⟩
abbrev cX9_add : ByteArray := prog_11_method_2_code
def yX9_add : MethodName := ⟨RX9, "add", "(I)V"⟩
abbrev cX9_right : ByteArray := prog_11_method_3_code
def yX9_right : MethodName := ⟨RX9, "right", "(II)I"⟩
abbrev cX9_mix : ByteArray := prog_11_method_4_code
def yX9_mix : MethodName := ⟨RX9, "mix", "(I)V"⟩
abbrev cX9_hash : ByteArray := prog_11_method_5_code
def yX9_hash : MethodName := ⟨RX9, "hash", "()V"⟩
abbrev cX9_addKey : ByteArray := prog_11_method_6_code
def yX9_addKey : MethodName := ⟨RX9, "addKey", "(I)V"⟩
abbrev cX9_mac : ByteArray := prog_11_method_7_code
def yX9_mac : MethodName := ⟨RX9, "mac", "()V"⟩
abbrev cX9_findRoot : ByteArray := prog_11_method_8_code
def yX9_findRoot : MethodName := ⟨RX9, "findRoot", "(I)V"⟩
abbrev cX9_sign : ByteArray := prog_11_method_9_code
def yX9_sign : MethodName := ⟨RX9, "sign", "(I)V"⟩
abbrev cX9_placeOf : ByteArray := prog_11_method_10_code
def yX9_placeOf : MethodName := ⟨RX9, "placeOf", "(II)I"⟩
abbrev cX9_tell : ByteArray := prog_11_method_11_code
def yX9_tell : MethodName := ⟨RX9, "tell", "(II)V"⟩
abbrev cX9_countAt : ByteArray := prog_11_method_12_code
def yX9_countAt : MethodName := ⟨RX9, "countAt", "([III)J"⟩
abbrev cX9_isNotAbove : ByteArray := prog_11_method_13_code
def yX9_isNotAbove : MethodName := ⟨RX9, "isNotAbove", "([III)Z"⟩
abbrev cX9_isSigned : ByteArray := prog_11_method_14_code
def yX9_isSigned : MethodName := ⟨RX9, "isSigned", "(II)Z"⟩
abbrev cX9_greatest : ByteArray := prog_11_method_15_code
def yX9_greatest : MethodName := ⟨RX9, "greatest", "(I)I"⟩
abbrev cX9_check : ByteArray := prog_11_method_16_code
def yX9_check : MethodName := ⟨RX9, "check", "(I)I"⟩
abbrev cX9_advance : ByteArray := prog_11_method_17_code
def yX9_advance : MethodName := ⟨RX9, "advance", "(I)V"⟩
abbrev cX9_isIn : ByteArray := prog_11_method_18_code
def yX9_isIn : MethodName := ⟨RX9, "isIn", "(II)Z"⟩
abbrev cX9_feed : ByteArray := prog_11_method_19_code
def yX9_feed : MethodName := ⟨RX9, "feed", "(I)Z"⟩
abbrev cX9_write : ByteArray := prog_11_method_20_code
def yX9_write : MethodName := ⟨RX9, "write", "(II)I"⟩
abbrev cX9_read : ByteArray := prog_11_method_21_code
def yX9_read : MethodName := ⟨RX9, "read", "(II)I"⟩
abbrev cX9_got : ByteArray := prog_11_method_22_code
def yX9_got : MethodName := ⟨RX9, "got", "(I)I"⟩
abbrev cX9_split : ByteArray := prog_11_method_23_code
def yX9_split : MethodName := ⟨RX9, "split", "(I)I"⟩
abbrev cX9_show : ByteArray := prog_11_method_24_code
def yX9_show : MethodName := ⟨RX9, "show", "(II)I"⟩
abbrev cX9_graft : ByteArray := prog_11_method_25_code
def yX9_graft : MethodName := ⟨RX9, "graft", "(III)Z"⟩
abbrev cX9_poke : ByteArray := prog_11_method_26_code
def yX9_poke : MethodName := ⟨RX9, "poke", "(IIII)Z"⟩
abbrev cX9_spoil : ByteArray := prog_11_method_27_code
def yX9_spoil : MethodName := ⟨RX9, "spoil", "(IIII)Z"⟩
abbrev cX9_exchange : ByteArray := prog_11_method_28_code
def yX9_exchange : MethodName := ⟨RX9, "exchange", "(II)I"⟩
abbrev cX9_statement : ByteArray := prog_11_method_29_code
def yX9_statement : MethodName := ⟨RX9, "statement", "(III)I"⟩
abbrev cX9_seen : ByteArray := prog_11_method_30_code
def yX9_seen : MethodName := ⟨RX9, "seen", "(II)I"⟩
abbrev cX9_digest : ByteArray := prog_11_method_31_code
def yX9_digest : MethodName := ⟨RX9, "digest", "(II)I"⟩
abbrev cX9_plain : ByteArray := prog_11_method_32_code
def yX9_plain : MethodName := ⟨RX9, "plain", "()Z"⟩
abbrev cX9_count : ByteArray := prog_11_method_33_code
def yX9_count : MethodName := ⟨RX9, "count", "(I)I"⟩
def RJx145de : String := "java/io/Serializable"
def TJx145de : u_T := fun k => match k with
  | _ => ("", "", "", false)
def tyJx145de : Nat → FieldType := fun k => match k with
  | _ => .int
abbrev wsJx145de0 : List Cond := u_ws RJx145de TJx145de 0
theorem nmJx145de : ∀ a, a < 0 → ∀ b, b < 0 → a ≠ b → (TJx145de a).2.1 ≠ (TJx145de b).2.1 := by decide +kernel
theorem tyJx145de_ok : ∀ k, k < 0 → parseFieldDescriptor (TJx145de k).2.2.1 = some (tyJx145de k) := by decide +kernel
def RJx8e188 : String := "java/lang/Cloneable"
def TJx8e188 : u_T := fun k => match k with
  | _ => ("", "", "", false)
def tyJx8e188 : Nat → FieldType := fun k => match k with
  | _ => .int
abbrev wsJx8e1880 : List Cond := u_ws RJx8e188 TJx8e188 0
theorem nmJx8e188 : ∀ a, a < 0 → ∀ b, b < 0 → a ≠ b → (TJx8e188 a).2.1 ≠ (TJx8e188 b).2.1 := by decide +kernel
theorem tyJx8e188_ok : ∀ k, k < 0 → parseFieldDescriptor (TJx8e188 k).2.2.1 = some (tyJx8e188 k) := by decide +kernel
def RJxab1ab : String := "java/lang/Iterable"
def TJxab1ab : u_T := fun k => match k with
  | _ => ("", "", "", false)
def tyJxab1ab : Nat → FieldType := fun k => match k with
  | _ => .int
abbrev wsJxab1ab0 : List Cond := u_ws RJxab1ab TJxab1ab 0
theorem nmJxab1ab : ∀ a, a < 0 → ∀ b, b < 0 → a ≠ b → (TJxab1ab a).2.1 ≠ (TJxab1ab b).2.1 := by decide +kernel
theorem tyJxab1ab_ok : ∀ k, k < 0 → parseFieldDescriptor (TJxab1ab k).2.2.1 = some (tyJxab1ab k) := by decide +kernel
def RJ9 : String := "java/lang/Math"
def TJ9 : u_T := fun k => match k with
  | _ => ("", "", "", false)
def tyJ9 : Nat → FieldType := fun k => match k with
  | _ => .int
abbrev wsJ90 : List Cond := u_ws RJ9 TJ9 0
theorem nmJ9 : ∀ a, a < 0 → ∀ b, b < 0 → a ≠ b → (TJ9 a).2.1 ≠ (TJ9 b).2.1 := by decide +kernel
theorem tyJ9_ok : ∀ k, k < 0 → parseFieldDescriptor (TJ9 k).2.2.1 = some (tyJ9 k) := by decide +kernel
abbrev cJ9_max_7cf53 : ByteArray := prog_15_method_65_code
def yJ9_max_7cf53 : MethodName := ⟨RJ9, "max", "(II)I"⟩
abbrev cJ9_min_7cf53 : ByteArray := prog_15_method_69_code
def yJ9_min_7cf53 : MethodName := ⟨RJ9, "min", "(II)I"⟩
def RJ10 : String := "java/lang/System"
def TJ10 : u_T := fun k => match k with
  | _ => ("", "", "", false)
def tyJ10 : Nat → FieldType := fun k => match k with
  | _ => .int
abbrev wsJ100 : List Cond := u_ws RJ10 TJ10 0
theorem nmJ10 : ∀ a, a < 0 → ∀ b, b < 0 → a ≠ b → (TJ10 a).2.1 ≠ (TJ10 b).2.1 := by decide +kernel
theorem tyJ10_ok : ∀ k, k < 0 → parseFieldDescriptor (TJ10 k).2.2.1 = some (tyJ10 k) := by decide +kernel
def RJxa1e45 : String := "java/util/AbstractCollection"
def TJxa1e45 : u_T := fun k => match k with
  | _ => ("", "", "", false)
def tyJxa1e45 : Nat → FieldType := fun k => match k with
  | _ => .int
abbrev wsJxa1e450 : List Cond := u_ws RJxa1e45 TJxa1e45 0
theorem nmJxa1e45 : ∀ a, a < 0 → ∀ b, b < 0 → a ≠ b → (TJxa1e45 a).2.1 ≠ (TJxa1e45 b).2.1 := by decide +kernel
theorem tyJxa1e45_ok : ∀ k, k < 0 → parseFieldDescriptor (TJxa1e45 k).2.2.1 = some (tyJxa1e45 k) := by decide +kernel
abbrev cJxa1e45_init_da8c8 : ByteArray := prog_17_method_1_code
def yJxa1e45_init_da8c8 : MethodName := ⟨RJxa1e45, "<init>", "()V"⟩
def RJxc12de : String := "java/util/AbstractList"
def TJxc12de : u_T := fun k => match k with
  | _ => ("", "", "", false)
def tyJxc12de : Nat → FieldType := fun k => match k with
  | _ => .int
abbrev wsJxc12de0 : List Cond := u_ws RJxc12de TJxc12de 0
theorem nmJxc12de : ∀ a, a < 0 → ∀ b, b < 0 → a ≠ b → (TJxc12de a).2.1 ≠ (TJxc12de b).2.1 := by decide +kernel
theorem tyJxc12de_ok : ∀ k, k < 0 → parseFieldDescriptor (TJxc12de k).2.2.1 = some (tyJxc12de k) := by decide +kernel
abbrev cJxc12de_init_da8c8 : ByteArray := prog_18_method_1_code
def yJxc12de_init_da8c8 : MethodName := ⟨RJxc12de, "<init>", "()V"⟩
def RJx4a65c : String := "java/util/ArrayList"
def TJx4a65c : u_T := fun k => match k with
  | 0 => ("java/util/AbstractList", "modCount", "I", false)
  | 1 => ("java/util/ArrayList", "elementData", "[Ljava/lang/Object;", false)
  | _ => ("java/util/ArrayList", "size", "I", false)
def tyJx4a65c : Nat → FieldType := fun k => match k with
  | 0 => .int
  | 1 => .array (.object "java/lang/Object")
  | _ => .int
abbrev wsJx4a65c0 : List Cond := u_ws RJx4a65c TJx4a65c 3
theorem nmJx4a65c : ∀ a, a < 3 → ∀ b, b < 3 → a ≠ b → (TJx4a65c a).2.1 ≠ (TJx4a65c b).2.1 := by decide +kernel
theorem tyJx4a65c_ok : ∀ k, k < 3 → parseFieldDescriptor (TJx4a65c k).2.2.1 = some (tyJx4a65c k) := by decide +kernel
abbrev cJx4a65c_init_da8c8 : ByteArray := prog_19_method_2_code
def yJx4a65c_init_da8c8 : MethodName := ⟨RJx4a65c, "<init>", "()V"⟩
abbrev cJx4a65c_grow_92f84 : ByteArray := prog_19_method_6_code
def yJx4a65c_grow_92f84 : MethodName := ⟨RJx4a65c, "grow", "(I)[Ljava/lang/Object;"⟩
abbrev cJx4a65c_grow_d5877 : ByteArray := prog_19_method_7_code
def yJx4a65c_grow_d5877 : MethodName := ⟨RJx4a65c, "grow", "()[Ljava/lang/Object;"⟩
abbrev cJx4a65c_size_8abf5 : ByteArray := prog_19_method_8_code
def yJx4a65c_size_8abf5 : MethodName := ⟨RJx4a65c, "size", "()I"⟩
abbrev cJx4a65c_elementData_915e3 : ByteArray := prog_19_method_18_code
def yJx4a65c_elementData_915e3 : MethodName := ⟨RJx4a65c, "elementData", "(I)Ljava/lang/Object;"⟩
abbrev cJx4a65c_get_915e3 : ByteArray := prog_19_method_20_code
def yJx4a65c_get_915e3 : MethodName := ⟨RJx4a65c, "get", "(I)Ljava/lang/Object;"⟩
abbrev cJx4a65c_add_72be8 : ByteArray := prog_19_method_24_code
def yJx4a65c_add_72be8 : MethodName := ⟨RJx4a65c, "add", "(Ljava/lang/Object;[Ljava/lang/Object;I)V"⟩
abbrev cJx4a65c_add_9ea2d : ByteArray := prog_19_method_25_code
def yJx4a65c_add_9ea2d : MethodName := ⟨RJx4a65c, "add", "(Ljava/lang/Object;)Z"⟩
def RJ7 : String := "java/util/Arrays"
def TJ7 : u_T := fun k => match k with
  | _ => ("", "", "", false)
def tyJ7 : Nat → FieldType := fun k => match k with
  | _ => .int
abbrev wsJ70 : List Cond := u_ws RJ7 TJ7 0
theorem nmJ7 : ∀ a, a < 0 → ∀ b, b < 0 → a ≠ b → (TJ7 a).2.1 ≠ (TJ7 b).2.1 := by decide +kernel
theorem tyJ7_ok : ∀ k, k < 0 → parseFieldDescriptor (TJ7 k).2.2.1 = some (tyJ7 k) := by decide +kernel
abbrev cJ7_fill_53178 : ByteArray := prog_20_method_103_code
def yJ7_fill_53178 : MethodName := ⟨RJ7, "fill", "([II)V"⟩
abbrev cJ7_copyOf_1904c : ByteArray := prog_20_method_119_code
def yJ7_copyOf_1904c : MethodName := ⟨RJ7, "copyOf", "([Ljava/lang/Object;I)[Ljava/lang/Object;"⟩
abbrev cJ7_copyOf_6403c : ByteArray := prog_20_method_120_code
def yJ7_copyOf_6403c : MethodName := ⟨RJ7, "copyOf", "([Ljava/lang/Object;ILjava/lang/Class;)[Ljava/lang/Object;"⟩
abbrev cJ7_copyOf_59c91 : ByteArray := prog_20_method_123_code
def yJ7_copyOf_59c91 : MethodName := ⟨RJ7, "copyOf", "([II)[I"⟩
def RJx5ef63 : String := "java/util/Collection"
def TJx5ef63 : u_T := fun k => match k with
  | _ => ("", "", "", false)
def tyJx5ef63 : Nat → FieldType := fun k => match k with
  | _ => .int
abbrev wsJx5ef630 : List Cond := u_ws RJx5ef63 TJx5ef63 0
theorem nmJx5ef63 : ∀ a, a < 0 → ∀ b, b < 0 → a ≠ b → (TJx5ef63 a).2.1 ≠ (TJx5ef63 b).2.1 := by decide +kernel
theorem tyJx5ef63_ok : ∀ k, k < 0 → parseFieldDescriptor (TJx5ef63 k).2.2.1 = some (tyJx5ef63 k) := by decide +kernel
def RJxbd725 : String := "java/util/List"
def TJxbd725 : u_T := fun k => match k with
  | _ => ("", "", "", false)
def tyJxbd725 : Nat → FieldType := fun k => match k with
  | _ => .int
abbrev wsJxbd7250 : List Cond := u_ws RJxbd725 TJxbd725 0
theorem nmJxbd725 : ∀ a, a < 0 → ∀ b, b < 0 → a ≠ b → (TJxbd725 a).2.1 ≠ (TJxbd725 b).2.1 := by decide +kernel
theorem tyJxbd725_ok : ∀ k, k < 0 → parseFieldDescriptor (TJxbd725 k).2.2.1 = some (tyJxbd725 k) := by decide +kernel
def RJ15 : String := "java/util/Objects"
def TJ15 : u_T := fun k => match k with
  | _ => ("", "", "", false)
def tyJ15 : Nat → FieldType := fun k => match k with
  | _ => .int
abbrev wsJ150 : List Cond := u_ws RJ15 TJ15 0
theorem nmJ15 : ∀ a, a < 0 → ∀ b, b < 0 → a ≠ b → (TJ15 a).2.1 ≠ (TJ15 b).2.1 := by decide +kernel
theorem tyJ15_ok : ∀ k, k < 0 → parseFieldDescriptor (TJ15 k).2.2.1 = some (tyJ15 k) := by decide +kernel
abbrev cJ15_checkIndex_7cf53 : ByteArray := prog_23_method_17_code
def yJ15_checkIndex_7cf53 : MethodName := ⟨RJ15, "checkIndex", "(II)I"⟩
def RJxf0a74 : String := "java/util/RandomAccess"
def TJxf0a74 : u_T := fun k => match k with
  | _ => ("", "", "", false)
def tyJxf0a74 : Nat → FieldType := fun k => match k with
  | _ => .int
abbrev wsJxf0a740 : List Cond := u_ws RJxf0a74 TJxf0a74 0
theorem nmJxf0a74 : ∀ a, a < 0 → ∀ b, b < 0 → a ≠ b → (TJxf0a74 a).2.1 ≠ (TJxf0a74 b).2.1 := by decide +kernel
theorem tyJxf0a74_ok : ∀ k, k < 0 → parseFieldDescriptor (TJxf0a74 k).2.2.1 = some (tyJxf0a74 k) := by decide +kernel
def RJxa66e6 : String := "java/util/SequencedCollection"
def TJxa66e6 : u_T := fun k => match k with
  | _ => ("", "", "", false)
def tyJxa66e6 : Nat → FieldType := fun k => match k with
  | _ => .int
abbrev wsJxa66e60 : List Cond := u_ws RJxa66e6 TJxa66e6 0
theorem nmJxa66e6 : ∀ a, a < 0 → ∀ b, b < 0 → a ≠ b → (TJxa66e6 a).2.1 ≠ (TJxa66e6 b).2.1 := by decide +kernel
theorem tyJxa66e6_ok : ∀ k, k < 0 → parseFieldDescriptor (TJxa66e6 k).2.2.1 = some (tyJxa66e6 k) := by decide +kernel
def RJ8 : String := "jdk/internal/util/ArraysSupport"
def TJ8 : u_T := fun k => match k with
  | _ => ("", "", "", false)
def tyJ8 : Nat → FieldType := fun k => match k with
  | _ => .int
abbrev wsJ80 : List Cond := u_ws RJ8 TJ8 0
theorem nmJ8 : ∀ a, a < 0 → ∀ b, b < 0 → a ≠ b → (TJ8 a).2.1 ≠ (TJ8 b).2.1 := by decide +kernel
theorem tyJ8_ok : ∀ k, k < 0 → parseFieldDescriptor (TJ8 k).2.2.1 = some (tyJ8 k) := by decide +kernel
abbrev cJ8_newLength_cabcc : ByteArray := prog_26_method_27_code
def yJ8_newLength_cabcc : MethodName := ⟨RJ8, "newLength", "(III)I"⟩
abbrev cJ8_hugeLength_7cf53 : ByteArray := prog_26_method_28_code
def yJ8_hugeLength_7cf53 : MethodName := ⟨RJ8, "hugeLength", "(II)I"⟩
def RJ3 : String := "jdk/internal/util/Preconditions"
def TJ3 : u_T := fun k => match k with
  | _ => ("", "", "", false)
def tyJ3 : Nat → FieldType := fun k => match k with
  | _ => .int
abbrev wsJ30 : List Cond := u_ws RJ3 TJ3 0
theorem nmJ3 : ∀ a, a < 0 → ∀ b, b < 0 → a ≠ b → (TJ3 a).2.1 ≠ (TJ3 b).2.1 := by decide +kernel
theorem tyJ3_ok : ∀ k, k < 0 → parseFieldDescriptor (TJ3 k).2.2.1 = some (tyJ3 k) := by decide +kernel
abbrev cJ3_checkIndex_8e157 : ByteArray := prog_27_method_11_code
def yJ3_checkIndex_8e157 : MethodName := ⟨RJ3, "checkIndex", "(IILjava/util/function/BiFunction;)I"⟩
def RL : String := "ForkWatchLaw"
abbrev cL_law : ByteArray := code
def yL_law : MethodName := ⟨RL, "law", "([I)Z"⟩
def wsX0_init : List Cond := .code yX0_init cX0_init 1 none :: ([.methodLink RX0 3 objectInit, .instanceMethod objectInit, .code objectInit ⟨#[0xb1]⟩ 1 none, .arrayClass .int, .fieldLink RX0 9 "ForkWatch$Files" "content" "[I", .fieldLink RX0 15 "ForkWatch$Files" "length" "[I"] ++ wsX00)
def wsX0_put : List Cond := .code yX0_put cX0_put 4 none :: ([.fieldLink RX0 9 "ForkWatch$Files" "content" "[I", .methodLink RX0 18 arraycopyName, .native arraycopyName, .static arraycopyName, .initialized "java/lang/System", .fieldLink RX0 15 "ForkWatch$Files" "length" "[I"] ++ wsX00)
def wsX0_become : List Cond := .code yX0_become cX0_become 2 none :: ([.fieldLink RX0 9 "ForkWatch$Files" "content" "[I", .methodLink RX0 18 arraycopyName, .native arraycopyName, .static arraycopyName, .initialized "java/lang/System", .fieldLink RX0 15 "ForkWatch$Files" "length" "[I"] ++ wsX00)
def wsJ7_fill_53178 : List Cond := .code yJ7_fill_53178 cJ7_fill_53178 4 none :: ([])
def wsX0_clear : List Cond := .code yX0_clear cX0_clear 1 none :: ([.fieldLink RX0 15 "ForkWatch$Files" "length" "[I", .methodLink RX0 24 yJ7_fill_53178, .static yJ7_fill_53178, .initialized RJ7, .code yJ7_fill_53178 cJ7_fill_53178 4 none] ++ wsX00)
def wsX8_sameRow : List Cond := .code yX8_sameRow cX8_sameRow 6 (some .boolean) :: ([])
def wsX0_holds : List Cond := .code yX0_holds cX0_holds 3 (some .boolean) :: ([.fieldLink RX0 15 "ForkWatch$Files" "length" "[I", .fieldLink RX0 9 "ForkWatch$Files" "content" "[I", .static yX8_sameRow, .initialized RX8, .code yX8_sameRow cX8_sameRow 6 (some .boolean)] ++ wsX00)
def wsJxa1e45_init_da8c8 : List Cond := .code yJxa1e45_init_da8c8 cJxa1e45_init_da8c8 1 none :: ([.methodLink RJxa1e45 1 objectInit, .instanceMethod objectInit, .code objectInit ⟨#[0xb1]⟩ 1 none])
def wsJxc12de_init_da8c8 : List Cond := .code yJxc12de_init_da8c8 cJxc12de_init_da8c8 1 none :: ([.fieldLink RJxc12de 7 "java/util/AbstractList" "modCount" "I", .methodLink RJxc12de 1 yJxa1e45_init_da8c8, .instanceMethod yJxa1e45_init_da8c8, .initialized RJxa1e45, .code yJxa1e45_init_da8c8 cJxa1e45_init_da8c8 1 none, .methodLink RJxa1e45 1 objectInit, .instanceMethod objectInit, .code objectInit ⟨#[0xb1]⟩ 1 none] ++ wsJx4a65c0)
def wsJx4a65c_init_da8c8 : List Cond := .code yJx4a65c_init_da8c8 cJx4a65c_init_da8c8 1 none :: ([.fieldLink RJx4a65c 39 "java/util/ArrayList" "DEFAULTCAPACITY_EMPTY_ELEMENTDATA" "[Ljava/lang/Object;", .fieldLink RJx4a65c 9 "java/util/ArrayList" "elementData" "[Ljava/lang/Object;", .methodLink RJx4a65c 1 yJxc12de_init_da8c8, .instanceMethod yJxc12de_init_da8c8, .initialized RJxc12de, .code yJxc12de_init_da8c8 cJxc12de_init_da8c8 1 none, .fieldLink RJxc12de 7 "java/util/AbstractList" "modCount" "I", .methodLink RJxc12de 1 yJxa1e45_init_da8c8, .instanceMethod yJxa1e45_init_da8c8, .initialized RJxa1e45, .code yJxa1e45_init_da8c8 cJxa1e45_init_da8c8 1 none, .methodLink RJxa1e45 1 objectInit, .instanceMethod objectInit, .code objectInit ⟨#[0xb1]⟩ 1 none] ++ wsJx4a65c0)
def wsX1_init_r1 : List Cond := [Cond.methodLink RX1 3 objectInit, Cond.instanceMethod objectInit, Cond.code objectInit ⟨#[0xb1]⟩ 1 none, Cond.classLink RX1 9 RJx4a65c, Cond.instantiable RJx4a65c 3, Cond.initialized RJx4a65c, Cond.fieldLink RX1 12 "ForkWatch$History" "operations" "Ljava/util/ArrayList;", Cond.arrayClass .int, Cond.fieldLink RX1 18 "ForkWatch$History" "done" "[I", Cond.classLink RX1 22 RX0, Cond.instantiable RX0 2, Cond.initialized RX0, Cond.fieldLink RX1 25 "ForkWatch$History" "store" "LForkWatch$Files;", Cond.methodLink RX1 11 yJx4a65c_init_da8c8, Cond.instanceMethod yJx4a65c_init_da8c8, Cond.code yJx4a65c_init_da8c8 cJx4a65c_init_da8c8 1 none, Cond.fieldLink RJx4a65c 39 "java/util/ArrayList" "DEFAULTCAPACITY_EMPTY_ELEMENTDATA" "[Ljava/lang/Object;", Cond.fieldLink RJx4a65c 9 "java/util/ArrayList" "elementData" "[Ljava/lang/Object;", Cond.methodLink RJx4a65c 1 yJxc12de_init_da8c8, Cond.instanceMethod yJxc12de_init_da8c8, Cond.initialized RJxc12de, Cond.code yJxc12de_init_da8c8 cJxc12de_init_da8c8 1 none, Cond.fieldLink RJxc12de 7 "java/util/AbstractList" "modCount" "I", Cond.methodLink RJxc12de 1 yJxa1e45_init_da8c8]
def wsX1_init_r2 : List Cond := [Cond.instanceMethod yJxa1e45_init_da8c8, Cond.initialized RJxa1e45, Cond.code yJxa1e45_init_da8c8 cJxa1e45_init_da8c8 1 none, Cond.methodLink RJxa1e45 1 objectInit, Cond.instanceMethod yX0_init, Cond.code yX0_init cX0_init 1 none, Cond.methodLink RX0 3 objectInit, Cond.fieldLink RX0 9 "ForkWatch$Files" "content" "[I", Cond.fieldLink RX0 15 "ForkWatch$Files" "length" "[I"]
def wsX1_init : List Cond := .code yX1_init cX1_init 1 none :: ((wsX1_init_r1 ++ wsX1_init_r2) ++ wsJx4a65c0 ++ wsX10 ++ wsX00)
def wsJx4a65c_size_8abf5 : List Cond := .code yJx4a65c_size_8abf5 cJx4a65c_size_8abf5 1 (some .int) :: ([.fieldLink RJx4a65c 48 "java/util/ArrayList" "size" "I"] ++ wsJx4a65c0)
def wsJ7_copyOf_59c91 : List Cond := .code yJ7_copyOf_59c91 cJ7_copyOf_59c91 3 (some (.array .int)) :: ([.methodLink RJ7 316 ⟨"[I", "clone", "()Ljava/lang/Object;"⟩, .sameMethod "[I" "java/lang/Object" "clone" "()Ljava/lang/Object;", .native ⟨"java/lang/Object", "clone", "()Ljava/lang/Object;"⟩, .instanceMethod ⟨"java/lang/Object", "clone", "()Ljava/lang/Object;"⟩, .selects "[I" ⟨"[I", "clone", "()Ljava/lang/Object;"⟩ ⟨"java/lang/Object", "clone", "()Ljava/lang/Object;"⟩, .classLink RJ7 317 "[I", .arrayClass .int, .methodLink RJ7 304 Lib.Math.min.name, .static Lib.Math.min.name, .initialized "java/lang/Math", .code Lib.Math.min.name Lib.Math.min.code 2 (some .int), .methodLink RJ7 150 arraycopyName, .native arraycopyName, .static arraycopyName, .initialized "java/lang/System"])
def wsX3_init : List Cond := .code yX3_init cX3_init 6 none :: ([.methodLink RX3 1 objectInit, .instanceMethod objectInit, .code objectInit ⟨#[0xb1]⟩ 1 none, .fieldLink RX3 7 "ForkWatch$Operation" "writes" "Z", .fieldLink RX3 13 "ForkWatch$Operation" "client" "I", .fieldLink RX3 17 "ForkWatch$Operation" "number" "I", .fieldLink RX3 20 "ForkWatch$Operation" "file" "I", .fieldLink RX3 23 "ForkWatch$Operation" "content" "[I"] ++ wsX30)
def wsJ8_hugeLength_7cf53 : List Cond := .code yJ8_hugeLength_7cf53 cJ8_hugeLength_7cf53 3 (some .int) :: ([.constant RJ8 200 (2147483639)])
def wsJ8_newLength_cabcc : List Cond := .code yJ8_newLength_cabcc cJ8_newLength_cabcc 4 (some .int) :: ([.methodLink RJ8 194 Lib.Math.max.name, .static Lib.Math.max.name, .initialized "java/lang/Math", .code Lib.Math.max.name Lib.Math.max.code 2 (some .int), .constant RJ8 200 (2147483639), .methodLink RJ8 201 yJ8_hugeLength_7cf53, .static yJ8_hugeLength_7cf53, .initialized RJ8, .code yJ8_hugeLength_7cf53 cJ8_hugeLength_7cf53 3 (some .int)])
def wsJ7_copyOf_6403c : List Cond := .code yJ7_copyOf_6403c cJ7_copyOf_6403c 4 (some (.array (.object "java/lang/Object"))) :: ([.classLink RJ7 110 "[Ljava/lang/Object;", .classLink RJ7 2 "java/lang/Object", .methodLink RJ7 304 Lib.Math.min.name, .static Lib.Math.min.name, .initialized "java/lang/Math", .code Lib.Math.min.name Lib.Math.min.code 2 (some .int), .methodLink RJ7 150 arraycopyName, .native arraycopyName, .static arraycopyName, .initialized "java/lang/System"])
def wsJ7_copyOf_1904c : List Cond := .code yJ7_copyOf_1904c cJ7_copyOf_1904c 2 (some (.array (.object "java/lang/Object"))) :: ([.methodLink RJ7 86 ⟨"java/lang/Object", "getClass", "()Ljava/lang/Class;"⟩, .selects "[Ljava/lang/Object;" ⟨"java/lang/Object", "getClass", "()Ljava/lang/Class;"⟩ ⟨"java/lang/Object", "getClass", "()Ljava/lang/Class;"⟩, .instanceMethod ⟨"java/lang/Object", "getClass", "()Ljava/lang/Class;"⟩, .native ⟨"java/lang/Object", "getClass", "()Ljava/lang/Class;"⟩, .methodLink RJ7 300 yJ7_copyOf_6403c, .static yJ7_copyOf_6403c, .initialized RJ7, .code yJ7_copyOf_6403c cJ7_copyOf_6403c 4 (some (.array (.object "java/lang/Object"))), .classLink RJ7 110 "[Ljava/lang/Object;", .classLink RJ7 2 "java/lang/Object", .methodLink RJ7 304 Lib.Math.min.name, .static Lib.Math.min.name, .initialized "java/lang/Math", .code Lib.Math.min.name Lib.Math.min.code 2 (some .int), .methodLink RJ7 150 arraycopyName, .native arraycopyName, .static arraycopyName, .initialized "java/lang/System"])
def wsJx4a65c_grow_92f84_r1 : List Cond := [Cond.fieldLink RJx4a65c 9 "java/util/ArrayList" "elementData" "[Ljava/lang/Object;", Cond.fieldLink RJx4a65c 39 "java/util/ArrayList" "DEFAULTCAPACITY_EMPTY_ELEMENTDATA" "[Ljava/lang/Object;", Cond.methodLink RJx4a65c 79 Lib.Math.max.name, Cond.static Lib.Math.max.name, Cond.initialized "java/lang/Math", Cond.code Lib.Math.max.name Lib.Math.max.code 2 (some .int), Cond.classLink RJx4a65c 7 "java/lang/Object", Cond.methodLink RJx4a65c 73 yJ8_newLength_cabcc, Cond.static yJ8_newLength_cabcc, Cond.initialized RJ8, Cond.code yJ8_newLength_cabcc cJ8_newLength_cabcc 4 (some .int), Cond.methodLink RJ8 194 Lib.Math.max.name, Cond.constant RJ8 200 (2147483639), Cond.methodLink RJ8 201 yJ8_hugeLength_7cf53, Cond.static yJ8_hugeLength_7cf53, Cond.code yJ8_hugeLength_7cf53 cJ8_hugeLength_7cf53 3 (some .int), Cond.methodLink RJx4a65c 66 yJ7_copyOf_1904c, Cond.static yJ7_copyOf_1904c, Cond.initialized RJ7, Cond.code yJ7_copyOf_1904c cJ7_copyOf_1904c 2 (some (.array (.object "java/lang/Object"))), Cond.methodLink RJ7 86 ⟨"java/lang/Object", "getClass", "()Ljava/lang/Class;"⟩, Cond.selects "[Ljava/lang/Object;" ⟨"java/lang/Object", "getClass", "()Ljava/lang/Class;"⟩ ⟨"java/lang/Object", "getClass", "()Ljava/lang/Class;"⟩, Cond.instanceMethod ⟨"java/lang/Object", "getClass", "()Ljava/lang/Class;"⟩, Cond.native ⟨"java/lang/Object", "getClass", "()Ljava/lang/Class;"⟩]
def wsJx4a65c_grow_92f84_r2 : List Cond := [Cond.methodLink RJ7 300 yJ7_copyOf_6403c, Cond.static yJ7_copyOf_6403c, Cond.code yJ7_copyOf_6403c cJ7_copyOf_6403c 4 (some (.array (.object "java/lang/Object"))), Cond.classLink RJ7 110 "[Ljava/lang/Object;", Cond.classLink RJ7 2 "java/lang/Object", Cond.methodLink RJ7 304 Lib.Math.min.name, Cond.static Lib.Math.min.name, Cond.code Lib.Math.min.name Lib.Math.min.code 2 (some .int), Cond.methodLink RJ7 150 arraycopyName, Cond.native arraycopyName, Cond.static arraycopyName, Cond.initialized "java/lang/System"]
def wsJx4a65c_grow_92f84 : List Cond := .code yJx4a65c_grow_92f84 cJx4a65c_grow_92f84 4 (some (.array (.object "java/lang/Object"))) :: ((wsJx4a65c_grow_92f84_r1 ++ wsJx4a65c_grow_92f84_r2) ++ wsJx4a65c0)
def wsJx4a65c_grow_d5877_r1 : List Cond := [Cond.fieldLink RJx4a65c 48 "java/util/ArrayList" "size" "I", Cond.methodLink RJx4a65c 69 yJx4a65c_grow_92f84, Cond.instanceMethod yJx4a65c_grow_92f84, Cond.selects RJx4a65c yJx4a65c_grow_92f84 yJx4a65c_grow_92f84, Cond.initialized RJx4a65c, Cond.code yJx4a65c_grow_92f84 cJx4a65c_grow_92f84 4 (some (.array (.object "java/lang/Object"))), Cond.fieldLink RJx4a65c 9 "java/util/ArrayList" "elementData" "[Ljava/lang/Object;", Cond.fieldLink RJx4a65c 39 "java/util/ArrayList" "DEFAULTCAPACITY_EMPTY_ELEMENTDATA" "[Ljava/lang/Object;", Cond.methodLink RJx4a65c 79 Lib.Math.max.name, Cond.static Lib.Math.max.name, Cond.initialized "java/lang/Math", Cond.code Lib.Math.max.name Lib.Math.max.code 2 (some .int), Cond.classLink RJx4a65c 7 "java/lang/Object", Cond.methodLink RJx4a65c 73 yJ8_newLength_cabcc, Cond.static yJ8_newLength_cabcc, Cond.initialized RJ8, Cond.code yJ8_newLength_cabcc cJ8_newLength_cabcc 4 (some .int), Cond.methodLink RJ8 194 Lib.Math.max.name, Cond.constant RJ8 200 (2147483639), Cond.methodLink RJ8 201 yJ8_hugeLength_7cf53, Cond.static yJ8_hugeLength_7cf53, Cond.code yJ8_hugeLength_7cf53 cJ8_hugeLength_7cf53 3 (some .int), Cond.methodLink RJx4a65c 66 yJ7_copyOf_1904c, Cond.static yJ7_copyOf_1904c]
def wsJx4a65c_grow_d5877_r2 : List Cond := [Cond.initialized RJ7, Cond.code yJ7_copyOf_1904c cJ7_copyOf_1904c 2 (some (.array (.object "java/lang/Object"))), Cond.methodLink RJ7 86 ⟨"java/lang/Object", "getClass", "()Ljava/lang/Class;"⟩, Cond.selects "[Ljava/lang/Object;" ⟨"java/lang/Object", "getClass", "()Ljava/lang/Class;"⟩ ⟨"java/lang/Object", "getClass", "()Ljava/lang/Class;"⟩, Cond.instanceMethod ⟨"java/lang/Object", "getClass", "()Ljava/lang/Class;"⟩, Cond.native ⟨"java/lang/Object", "getClass", "()Ljava/lang/Class;"⟩, Cond.methodLink RJ7 300 yJ7_copyOf_6403c, Cond.static yJ7_copyOf_6403c, Cond.code yJ7_copyOf_6403c cJ7_copyOf_6403c 4 (some (.array (.object "java/lang/Object"))), Cond.classLink RJ7 110 "[Ljava/lang/Object;", Cond.classLink RJ7 2 "java/lang/Object", Cond.methodLink RJ7 304 Lib.Math.min.name, Cond.static Lib.Math.min.name, Cond.code Lib.Math.min.name Lib.Math.min.code 2 (some .int), Cond.methodLink RJ7 150 arraycopyName, Cond.native arraycopyName, Cond.static arraycopyName, Cond.initialized "java/lang/System"]
def wsJx4a65c_grow_d5877 : List Cond := .code yJx4a65c_grow_d5877 cJx4a65c_grow_d5877 1 (some (.array (.object "java/lang/Object"))) :: ((wsJx4a65c_grow_d5877_r1 ++ wsJx4a65c_grow_d5877_r2) ++ wsJx4a65c0)
def wsJx4a65c_add_72be8_r1 : List Cond := [Cond.fieldLink RJx4a65c 48 "java/util/ArrayList" "size" "I", Cond.methodLink RJx4a65c 129 yJx4a65c_grow_d5877, Cond.instanceMethod yJx4a65c_grow_d5877, Cond.selects RJx4a65c yJx4a65c_grow_d5877 yJx4a65c_grow_d5877, Cond.initialized RJx4a65c, Cond.code yJx4a65c_grow_d5877 cJx4a65c_grow_d5877 1 (some (.array (.object "java/lang/Object"))), Cond.methodLink RJx4a65c 69 yJx4a65c_grow_92f84, Cond.instanceMethod yJx4a65c_grow_92f84, Cond.selects RJx4a65c yJx4a65c_grow_92f84 yJx4a65c_grow_92f84, Cond.code yJx4a65c_grow_92f84 cJx4a65c_grow_92f84 4 (some (.array (.object "java/lang/Object"))), Cond.fieldLink RJx4a65c 9 "java/util/ArrayList" "elementData" "[Ljava/lang/Object;", Cond.fieldLink RJx4a65c 39 "java/util/ArrayList" "DEFAULTCAPACITY_EMPTY_ELEMENTDATA" "[Ljava/lang/Object;", Cond.methodLink RJx4a65c 79 Lib.Math.max.name, Cond.static Lib.Math.max.name, Cond.initialized "java/lang/Math", Cond.code Lib.Math.max.name Lib.Math.max.code 2 (some .int), Cond.classLink RJx4a65c 7 "java/lang/Object", Cond.methodLink RJx4a65c 73 yJ8_newLength_cabcc, Cond.static yJ8_newLength_cabcc, Cond.initialized RJ8, Cond.code yJ8_newLength_cabcc cJ8_newLength_cabcc 4 (some .int), Cond.methodLink RJ8 194 Lib.Math.max.name, Cond.constant RJ8 200 (2147483639), Cond.methodLink RJ8 201 yJ8_hugeLength_7cf53]
def wsJx4a65c_add_72be8_r2 : List Cond := [Cond.static yJ8_hugeLength_7cf53, Cond.code yJ8_hugeLength_7cf53 cJ8_hugeLength_7cf53 3 (some .int), Cond.methodLink RJx4a65c 66 yJ7_copyOf_1904c, Cond.static yJ7_copyOf_1904c, Cond.initialized RJ7, Cond.code yJ7_copyOf_1904c cJ7_copyOf_1904c 2 (some (.array (.object "java/lang/Object"))), Cond.methodLink RJ7 86 ⟨"java/lang/Object", "getClass", "()Ljava/lang/Class;"⟩, Cond.selects "[Ljava/lang/Object;" ⟨"java/lang/Object", "getClass", "()Ljava/lang/Class;"⟩ ⟨"java/lang/Object", "getClass", "()Ljava/lang/Class;"⟩, Cond.instanceMethod ⟨"java/lang/Object", "getClass", "()Ljava/lang/Class;"⟩, Cond.native ⟨"java/lang/Object", "getClass", "()Ljava/lang/Class;"⟩, Cond.methodLink RJ7 300 yJ7_copyOf_6403c, Cond.static yJ7_copyOf_6403c, Cond.code yJ7_copyOf_6403c cJ7_copyOf_6403c 4 (some (.array (.object "java/lang/Object"))), Cond.classLink RJ7 110 "[Ljava/lang/Object;", Cond.classLink RJ7 2 "java/lang/Object", Cond.methodLink RJ7 304 Lib.Math.min.name, Cond.static Lib.Math.min.name, Cond.code Lib.Math.min.name Lib.Math.min.code 2 (some .int), Cond.methodLink RJ7 150 arraycopyName, Cond.native arraycopyName, Cond.static arraycopyName, Cond.initialized "java/lang/System"]
def wsJx4a65c_add_72be8 : List Cond := .code yJx4a65c_add_72be8 cJx4a65c_add_72be8 4 none :: ((wsJx4a65c_add_72be8_r1 ++ wsJx4a65c_add_72be8_r2) ++ wsJx4a65c0)
def wsJx4a65c_add_9ea2d_r1 : List Cond := [Cond.fieldLink RJx4a65c 63 "java/util/ArrayList" "modCount" "I", Cond.sameField "java/util/ArrayList" "java/util/AbstractList" "modCount" "I", Cond.fieldLink RJx4a65c 9 "java/util/ArrayList" "elementData" "[Ljava/lang/Object;", Cond.fieldLink RJx4a65c 48 "java/util/ArrayList" "size" "I", Cond.methodLink RJx4a65c 131 yJx4a65c_add_72be8, Cond.instanceMethod yJx4a65c_add_72be8, Cond.selects RJx4a65c yJx4a65c_add_72be8 yJx4a65c_add_72be8, Cond.initialized RJx4a65c, Cond.code yJx4a65c_add_72be8 cJx4a65c_add_72be8 4 none, Cond.methodLink RJx4a65c 129 yJx4a65c_grow_d5877, Cond.instanceMethod yJx4a65c_grow_d5877, Cond.selects RJx4a65c yJx4a65c_grow_d5877 yJx4a65c_grow_d5877, Cond.code yJx4a65c_grow_d5877 cJx4a65c_grow_d5877 1 (some (.array (.object "java/lang/Object"))), Cond.methodLink RJx4a65c 69 yJx4a65c_grow_92f84, Cond.instanceMethod yJx4a65c_grow_92f84, Cond.selects RJx4a65c yJx4a65c_grow_92f84 yJx4a65c_grow_92f84, Cond.code yJx4a65c_grow_92f84 cJx4a65c_grow_92f84 4 (some (.array (.object "java/lang/Object"))), Cond.fieldLink RJx4a65c 39 "java/util/ArrayList" "DEFAULTCAPACITY_EMPTY_ELEMENTDATA" "[Ljava/lang/Object;", Cond.methodLink RJx4a65c 79 Lib.Math.max.name, Cond.static Lib.Math.max.name, Cond.initialized "java/lang/Math", Cond.code Lib.Math.max.name Lib.Math.max.code 2 (some .int), Cond.classLink RJx4a65c 7 "java/lang/Object", Cond.methodLink RJx4a65c 73 yJ8_newLength_cabcc]
def wsJx4a65c_add_9ea2d_r2 : List Cond := [Cond.static yJ8_newLength_cabcc, Cond.initialized RJ8, Cond.code yJ8_newLength_cabcc cJ8_newLength_cabcc 4 (some .int), Cond.methodLink RJ8 194 Lib.Math.max.name, Cond.constant RJ8 200 (2147483639), Cond.methodLink RJ8 201 yJ8_hugeLength_7cf53, Cond.static yJ8_hugeLength_7cf53, Cond.code yJ8_hugeLength_7cf53 cJ8_hugeLength_7cf53 3 (some .int), Cond.methodLink RJx4a65c 66 yJ7_copyOf_1904c, Cond.static yJ7_copyOf_1904c, Cond.initialized RJ7, Cond.code yJ7_copyOf_1904c cJ7_copyOf_1904c 2 (some (.array (.object "java/lang/Object"))), Cond.methodLink RJ7 86 ⟨"java/lang/Object", "getClass", "()Ljava/lang/Class;"⟩, Cond.selects "[Ljava/lang/Object;" ⟨"java/lang/Object", "getClass", "()Ljava/lang/Class;"⟩ ⟨"java/lang/Object", "getClass", "()Ljava/lang/Class;"⟩, Cond.instanceMethod ⟨"java/lang/Object", "getClass", "()Ljava/lang/Class;"⟩, Cond.native ⟨"java/lang/Object", "getClass", "()Ljava/lang/Class;"⟩, Cond.methodLink RJ7 300 yJ7_copyOf_6403c, Cond.static yJ7_copyOf_6403c, Cond.code yJ7_copyOf_6403c cJ7_copyOf_6403c 4 (some (.array (.object "java/lang/Object"))), Cond.classLink RJ7 110 "[Ljava/lang/Object;", Cond.classLink RJ7 2 "java/lang/Object", Cond.methodLink RJ7 304 Lib.Math.min.name, Cond.static Lib.Math.min.name, Cond.code Lib.Math.min.name Lib.Math.min.code 2 (some .int)]
def wsJx4a65c_add_9ea2d_r3 : List Cond := [Cond.methodLink RJ7 150 arraycopyName, Cond.native arraycopyName, Cond.static arraycopyName, Cond.initialized "java/lang/System"]
def wsJx4a65c_add_9ea2d : List Cond := .code yJx4a65c_add_9ea2d cJx4a65c_add_9ea2d 2 (some .boolean) :: ((wsJx4a65c_add_9ea2d_r1 ++ (wsJx4a65c_add_9ea2d_r2 ++ wsJx4a65c_add_9ea2d_r3)) ++ wsJx4a65c0)
def wsX1_note_r1 : List Cond := [Cond.fieldLink RX1 12 "ForkWatch$History" "operations" "Ljava/util/ArrayList;", Cond.fieldLink RX1 18 "ForkWatch$History" "done" "[I", Cond.classLink RX1 33 RX3, Cond.instantiable RX3 5, Cond.initialized RX3, Cond.methodLink RX1 29 yJx4a65c_size_8abf5, Cond.instanceMethod yJx4a65c_size_8abf5, Cond.selects RJx4a65c yJx4a65c_size_8abf5 yJx4a65c_size_8abf5, Cond.initialized RJx4a65c, Cond.code yJx4a65c_size_8abf5 cJx4a65c_size_8abf5 1 (some .int), Cond.fieldLink RJx4a65c 48 "java/util/ArrayList" "size" "I", Cond.methodLink RX1 35 yJ7_copyOf_59c91, Cond.static yJ7_copyOf_59c91, Cond.initialized RJ7, Cond.code yJ7_copyOf_59c91 cJ7_copyOf_59c91 3 (some (.array .int)), Cond.methodLink RJ7 316 ⟨"[I", "clone", "()Ljava/lang/Object;"⟩, Cond.sameMethod "[I" "java/lang/Object" "clone" "()Ljava/lang/Object;", Cond.native ⟨"java/lang/Object", "clone", "()Ljava/lang/Object;"⟩, Cond.instanceMethod ⟨"java/lang/Object", "clone", "()Ljava/lang/Object;"⟩, Cond.selects "[I" ⟨"[I", "clone", "()Ljava/lang/Object;"⟩ ⟨"java/lang/Object", "clone", "()Ljava/lang/Object;"⟩, Cond.classLink RJ7 317 "[I", Cond.arrayClass .int, Cond.methodLink RJ7 304 Lib.Math.min.name, Cond.static Lib.Math.min.name]
def wsX1_note_r2 : List Cond := [Cond.initialized "java/lang/Math", Cond.code Lib.Math.min.name Lib.Math.min.code 2 (some .int), Cond.methodLink RJ7 150 arraycopyName, Cond.native arraycopyName, Cond.static arraycopyName, Cond.initialized "java/lang/System", Cond.methodLink RX1 41 yX3_init, Cond.instanceMethod yX3_init, Cond.code yX3_init cX3_init 6 none, Cond.methodLink RX3 1 objectInit, Cond.instanceMethod objectInit, Cond.code objectInit ⟨#[0xb1]⟩ 1 none, Cond.fieldLink RX3 7 "ForkWatch$Operation" "writes" "Z", Cond.fieldLink RX3 13 "ForkWatch$Operation" "client" "I", Cond.fieldLink RX3 17 "ForkWatch$Operation" "number" "I", Cond.fieldLink RX3 20 "ForkWatch$Operation" "file" "I", Cond.fieldLink RX3 23 "ForkWatch$Operation" "content" "[I", Cond.methodLink RX1 44 yJx4a65c_add_9ea2d, Cond.instanceMethod yJx4a65c_add_9ea2d, Cond.selects RJx4a65c yJx4a65c_add_9ea2d yJx4a65c_add_9ea2d, Cond.code yJx4a65c_add_9ea2d cJx4a65c_add_9ea2d 2 (some .boolean), Cond.fieldLink RJx4a65c 63 "java/util/ArrayList" "modCount" "I", Cond.sameField "java/util/ArrayList" "java/util/AbstractList" "modCount" "I", Cond.fieldLink RJx4a65c 9 "java/util/ArrayList" "elementData" "[Ljava/lang/Object;"]
def wsX1_note_r3 : List Cond := [Cond.methodLink RJx4a65c 131 yJx4a65c_add_72be8, Cond.instanceMethod yJx4a65c_add_72be8, Cond.selects RJx4a65c yJx4a65c_add_72be8 yJx4a65c_add_72be8, Cond.code yJx4a65c_add_72be8 cJx4a65c_add_72be8 4 none, Cond.methodLink RJx4a65c 129 yJx4a65c_grow_d5877, Cond.instanceMethod yJx4a65c_grow_d5877, Cond.selects RJx4a65c yJx4a65c_grow_d5877 yJx4a65c_grow_d5877, Cond.code yJx4a65c_grow_d5877 cJx4a65c_grow_d5877 1 (some (.array (.object "java/lang/Object"))), Cond.methodLink RJx4a65c 69 yJx4a65c_grow_92f84, Cond.instanceMethod yJx4a65c_grow_92f84, Cond.selects RJx4a65c yJx4a65c_grow_92f84 yJx4a65c_grow_92f84, Cond.code yJx4a65c_grow_92f84 cJx4a65c_grow_92f84 4 (some (.array (.object "java/lang/Object"))), Cond.fieldLink RJx4a65c 39 "java/util/ArrayList" "DEFAULTCAPACITY_EMPTY_ELEMENTDATA" "[Ljava/lang/Object;", Cond.methodLink RJx4a65c 79 Lib.Math.max.name, Cond.static Lib.Math.max.name, Cond.code Lib.Math.max.name Lib.Math.max.code 2 (some .int), Cond.classLink RJx4a65c 7 "java/lang/Object", Cond.methodLink RJx4a65c 73 yJ8_newLength_cabcc, Cond.static yJ8_newLength_cabcc, Cond.initialized RJ8, Cond.code yJ8_newLength_cabcc cJ8_newLength_cabcc 4 (some .int), Cond.methodLink RJ8 194 Lib.Math.max.name, Cond.constant RJ8 200 (2147483639), Cond.methodLink RJ8 201 yJ8_hugeLength_7cf53]
def wsX1_note_r4 : List Cond := [Cond.static yJ8_hugeLength_7cf53, Cond.code yJ8_hugeLength_7cf53 cJ8_hugeLength_7cf53 3 (some .int), Cond.methodLink RJx4a65c 66 yJ7_copyOf_1904c, Cond.static yJ7_copyOf_1904c, Cond.code yJ7_copyOf_1904c cJ7_copyOf_1904c 2 (some (.array (.object "java/lang/Object"))), Cond.methodLink RJ7 86 ⟨"java/lang/Object", "getClass", "()Ljava/lang/Class;"⟩, Cond.selects "[Ljava/lang/Object;" ⟨"java/lang/Object", "getClass", "()Ljava/lang/Class;"⟩ ⟨"java/lang/Object", "getClass", "()Ljava/lang/Class;"⟩, Cond.instanceMethod ⟨"java/lang/Object", "getClass", "()Ljava/lang/Class;"⟩, Cond.native ⟨"java/lang/Object", "getClass", "()Ljava/lang/Class;"⟩, Cond.methodLink RJ7 300 yJ7_copyOf_6403c, Cond.static yJ7_copyOf_6403c, Cond.code yJ7_copyOf_6403c cJ7_copyOf_6403c 4 (some (.array (.object "java/lang/Object"))), Cond.classLink RJ7 110 "[Ljava/lang/Object;", Cond.classLink RJ7 2 "java/lang/Object"]
def wsX1_note : List Cond := .code yX1_note cX1_note 6 none :: ((wsX1_note_r1 ++ (wsX1_note_r2 ++ (wsX1_note_r3 ++ wsX1_note_r4))) ++ wsX10 ++ wsX30 ++ wsJx4a65c0)
def wsJ3_checkIndex_8e157 : List Cond := .code yJ3_checkIndex_8e157 cJ3_checkIndex_8e157 3 (some .int) :: ([])
def wsJ15_checkIndex_7cf53 : List Cond := .code yJ15_checkIndex_7cf53 cJ15_checkIndex_7cf53 2 (some .int) :: ([.methodLink RJ15 105 yJ3_checkIndex_8e157, .static yJ3_checkIndex_8e157, .initialized RJ3, .code yJ3_checkIndex_8e157 cJ3_checkIndex_8e157 3 (some .int)])
def wsJx4a65c_elementData_915e3 : List Cond := .code yJx4a65c_elementData_915e3 cJx4a65c_elementData_915e3 2 (some (.object "java/lang/Object")) :: ([.fieldLink RJx4a65c 9 "java/util/ArrayList" "elementData" "[Ljava/lang/Object;"] ++ wsJx4a65c0)
def wsJx4a65c_get_915e3 : List Cond := .code yJx4a65c_get_915e3 cJx4a65c_get_915e3 2 (some (.object "java/lang/Object")) :: ([.fieldLink RJx4a65c 48 "java/util/ArrayList" "size" "I", .methodLink RJx4a65c 118 yJ15_checkIndex_7cf53, .static yJ15_checkIndex_7cf53, .initialized RJ15, .code yJ15_checkIndex_7cf53 cJ15_checkIndex_7cf53 2 (some .int), .methodLink RJ15 105 yJ3_checkIndex_8e157, .static yJ3_checkIndex_8e157, .initialized RJ3, .code yJ3_checkIndex_8e157 cJ3_checkIndex_8e157 3 (some .int), .methodLink RJx4a65c 123 yJx4a65c_elementData_915e3, .instanceMethod yJx4a65c_elementData_915e3, .selects RJx4a65c yJx4a65c_elementData_915e3 yJx4a65c_elementData_915e3, .initialized RJx4a65c, .code yJx4a65c_elementData_915e3 cJx4a65c_elementData_915e3 2 (some (.object "java/lang/Object")), .fieldLink RJx4a65c 9 "java/util/ArrayList" "elementData" "[Ljava/lang/Object;"] ++ wsJx4a65c0)
def wsX5_countOf : List Cond := .code yX5_countOf cX5_countOf 5 (some .long) :: ([.fieldLink RX5 9 "ForkWatch$Statement" "bytes" "[I"] ++ wsX50)
def wsX3_isCountedBy : List Cond := .code yX3_isCountedBy cX3_isCountedBy 2 (some .boolean) :: ([.fieldLink RX3 17 "ForkWatch$Operation" "number" "I", .fieldLink RX3 13 "ForkWatch$Operation" "client" "I", .methodLink RX3 27 yX5_countOf, .instanceMethod yX5_countOf, .selects RX5 yX5_countOf yX5_countOf, .initialized RX5, .code yX5_countOf cX5_countOf 5 (some .long), .fieldLink RX5 9 "ForkWatch$Statement" "bytes" "[I"] ++ wsX30 ++ wsX50)
def wsX1_isAnsweredPlainly_r1 : List Cond := [Cond.fieldLink RX1 25 "ForkWatch$History" "store" "LForkWatch$Files;", Cond.fieldLink RX1 12 "ForkWatch$History" "operations" "Ljava/util/ArrayList;", Cond.classLink RX1 33 "ForkWatch$Operation", Cond.fieldLink RX1 59 "ForkWatch$Operation" "writes" "Z", Cond.fieldLink RX1 63 "ForkWatch$Operation" "file" "I", Cond.fieldLink RX1 67 "ForkWatch$Operation" "content" "[I", Cond.fieldLink RX1 74 "ForkWatch$Operation" "client" "I", Cond.methodLink RX1 48 yX0_clear, Cond.instanceMethod yX0_clear, Cond.selects RX0 yX0_clear yX0_clear, Cond.initialized RX0, Cond.code yX0_clear cX0_clear 1 none, Cond.fieldLink RX0 15 "ForkWatch$Files" "length" "[I", Cond.methodLink RX0 24 yJ7_fill_53178, Cond.static yJ7_fill_53178, Cond.initialized RJ7, Cond.code yJ7_fill_53178 cJ7_fill_53178 4 none, Cond.methodLink RX1 29 yJx4a65c_size_8abf5, Cond.instanceMethod yJx4a65c_size_8abf5, Cond.selects RJx4a65c yJx4a65c_size_8abf5 yJx4a65c_size_8abf5, Cond.initialized RJx4a65c, Cond.code yJx4a65c_size_8abf5 cJx4a65c_size_8abf5 1 (some .int), Cond.fieldLink RJx4a65c 48 "java/util/ArrayList" "size" "I", Cond.methodLink RX1 51 yJx4a65c_get_915e3]
def wsX1_isAnsweredPlainly_r2 : List Cond := [Cond.instanceMethod yJx4a65c_get_915e3, Cond.selects RJx4a65c yJx4a65c_get_915e3 yJx4a65c_get_915e3, Cond.code yJx4a65c_get_915e3 cJx4a65c_get_915e3 2 (some (.object "java/lang/Object")), Cond.methodLink RJx4a65c 118 yJ15_checkIndex_7cf53, Cond.static yJ15_checkIndex_7cf53, Cond.initialized RJ15, Cond.code yJ15_checkIndex_7cf53 cJ15_checkIndex_7cf53 2 (some .int), Cond.methodLink RJ15 105 yJ3_checkIndex_8e157, Cond.static yJ3_checkIndex_8e157, Cond.initialized RJ3, Cond.code yJ3_checkIndex_8e157 cJ3_checkIndex_8e157 3 (some .int), Cond.methodLink RJx4a65c 123 yJx4a65c_elementData_915e3, Cond.instanceMethod yJx4a65c_elementData_915e3, Cond.selects RJx4a65c yJx4a65c_elementData_915e3 yJx4a65c_elementData_915e3, Cond.code yJx4a65c_elementData_915e3 cJx4a65c_elementData_915e3 2 (some (.object "java/lang/Object")), Cond.fieldLink RJx4a65c 9 "java/util/ArrayList" "elementData" "[Ljava/lang/Object;", Cond.methodLink RX1 55 yX3_isCountedBy, Cond.instanceMethod yX3_isCountedBy, Cond.selects RX3 yX3_isCountedBy yX3_isCountedBy, Cond.initialized RX3, Cond.code yX3_isCountedBy cX3_isCountedBy 2 (some .boolean), Cond.fieldLink RX3 17 "ForkWatch$Operation" "number" "I", Cond.fieldLink RX3 13 "ForkWatch$Operation" "client" "I", Cond.methodLink RX3 27 yX5_countOf]
def wsX1_isAnsweredPlainly_r3 : List Cond := [Cond.instanceMethod yX5_countOf, Cond.selects RX5 yX5_countOf yX5_countOf, Cond.initialized RX5, Cond.code yX5_countOf cX5_countOf 5 (some .long), Cond.fieldLink RX5 9 "ForkWatch$Statement" "bytes" "[I", Cond.methodLink RX1 70 yX0_put, Cond.instanceMethod yX0_put, Cond.selects RX0 yX0_put yX0_put, Cond.code yX0_put cX0_put 4 none, Cond.fieldLink RX0 9 "ForkWatch$Files" "content" "[I", Cond.methodLink RX0 18 arraycopyName, Cond.native arraycopyName, Cond.static arraycopyName, Cond.initialized "java/lang/System", Cond.methodLink RX1 77 yX0_holds, Cond.instanceMethod yX0_holds, Cond.selects RX0 yX0_holds yX0_holds, Cond.code yX0_holds cX0_holds 3 (some .boolean), Cond.static yX8_sameRow, Cond.initialized RX8, Cond.code yX8_sameRow cX8_sameRow 6 (some .boolean)]
def wsX1_isAnsweredPlainly : List Cond := .code yX1_isAnsweredPlainly cX1_isAnsweredPlainly 6 (some .boolean) :: ((wsX1_isAnsweredPlainly_r1 ++ (wsX1_isAnsweredPlainly_r2 ++ wsX1_isAnsweredPlainly_r3)) ++ wsX10 ++ wsX30 ++ wsX00 ++ wsJx4a65c0 ++ wsX50)
def wsX1_oneBeginsTheOther_r1 : List Cond := [Cond.fieldLink RX1 12 "ForkWatch$History" "operations" "Ljava/util/ArrayList;", Cond.classLink RX1 33 "ForkWatch$Operation", Cond.methodLink RX1 29 yJx4a65c_size_8abf5, Cond.instanceMethod yJx4a65c_size_8abf5, Cond.selects RJx4a65c yJx4a65c_size_8abf5 yJx4a65c_size_8abf5, Cond.initialized RJx4a65c, Cond.code yJx4a65c_size_8abf5 cJx4a65c_size_8abf5 1 (some .int), Cond.fieldLink RJx4a65c 48 "java/util/ArrayList" "size" "I", Cond.methodLink RX1 51 yJx4a65c_get_915e3, Cond.instanceMethod yJx4a65c_get_915e3, Cond.selects RJx4a65c yJx4a65c_get_915e3 yJx4a65c_get_915e3, Cond.code yJx4a65c_get_915e3 cJx4a65c_get_915e3 2 (some (.object "java/lang/Object")), Cond.methodLink RJx4a65c 118 yJ15_checkIndex_7cf53, Cond.static yJ15_checkIndex_7cf53, Cond.initialized RJ15, Cond.code yJ15_checkIndex_7cf53 cJ15_checkIndex_7cf53 2 (some .int), Cond.methodLink RJ15 105 yJ3_checkIndex_8e157, Cond.static yJ3_checkIndex_8e157, Cond.initialized RJ3, Cond.code yJ3_checkIndex_8e157 cJ3_checkIndex_8e157 3 (some .int), Cond.methodLink RJx4a65c 123 yJx4a65c_elementData_915e3, Cond.instanceMethod yJx4a65c_elementData_915e3, Cond.selects RJx4a65c yJx4a65c_elementData_915e3 yJx4a65c_elementData_915e3, Cond.code yJx4a65c_elementData_915e3 cJx4a65c_elementData_915e3 2 (some (.object "java/lang/Object"))]
def wsX1_oneBeginsTheOther_r2 : List Cond := [Cond.fieldLink RJx4a65c 9 "java/util/ArrayList" "elementData" "[Ljava/lang/Object;", Cond.methodLink RX1 55 yX3_isCountedBy, Cond.instanceMethod yX3_isCountedBy, Cond.selects RX3 yX3_isCountedBy yX3_isCountedBy, Cond.initialized RX3, Cond.code yX3_isCountedBy cX3_isCountedBy 2 (some .boolean), Cond.fieldLink RX3 17 "ForkWatch$Operation" "number" "I", Cond.fieldLink RX3 13 "ForkWatch$Operation" "client" "I", Cond.methodLink RX3 27 yX5_countOf, Cond.instanceMethod yX5_countOf, Cond.selects RX5 yX5_countOf yX5_countOf, Cond.initialized RX5, Cond.code yX5_countOf cX5_countOf 5 (some .long), Cond.fieldLink RX5 9 "ForkWatch$Statement" "bytes" "[I"]
def wsX1_oneBeginsTheOther : List Cond := .code yX1_oneBeginsTheOther cX1_oneBeginsTheOther 8 (some .boolean) :: ((wsX1_oneBeginsTheOther_r1 ++ wsX1_oneBeginsTheOther_r2) ++ wsX10 ++ wsJx4a65c0 ++ wsX30 ++ wsX50)
def wsX4_init : List Cond := .code yX4_init cX4_init 1 none :: ([.methodLink RX4 3 objectInit, .instanceMethod objectInit, .code objectInit ⟨#[0xb1]⟩ 1 none, .arrayClass .int, .fieldLink RX4 9 "ForkWatch$Sha256" "state" "[I", .fieldLink RX4 15 "ForkWatch$Sha256" "words" "[I", .fieldLink RX4 18 "ForkWatch$Sha256" "filled" "I", .fieldLink RX4 22 "ForkWatch$Sha256" "taken" "I"] ++ wsX40)
def wsX2_init : List Cond := .code yX2_init cX2_init 1 none :: ([.methodLink RX2 3 objectInit, .instanceMethod objectInit, .code objectInit ⟨#[0xb1]⟩ 1 none, .classLink RX2 9 RX4, .instantiable RX4 4, .initialized RX4, .fieldLink RX2 12 "ForkWatch$Mac" "sha" "LForkWatch$Sha256;", .arrayClass .int, .fieldLink RX2 18 "ForkWatch$Mac" "inside" "[I", .instanceMethod yX4_init, .code yX4_init cX4_init 1 none, .methodLink RX4 3 objectInit, .fieldLink RX4 9 "ForkWatch$Sha256" "state" "[I", .fieldLink RX4 15 "ForkWatch$Sha256" "words" "[I", .fieldLink RX4 18 "ForkWatch$Sha256" "filled" "I", .fieldLink RX4 22 "ForkWatch$Sha256" "taken" "I"] ++ wsX40 ++ wsX20)
def wsX4_start : List Cond := .code yX4_start cX4_start 1 none :: ([.fieldLink RX4 25 "ForkWatch$Sha256" "START" "[I", .fieldLink RX4 9 "ForkWatch$Sha256" "state" "[I", .methodLink RX4 28 arraycopyName, .native arraycopyName, .static arraycopyName, .initialized "java/lang/System", .fieldLink RX4 18 "ForkWatch$Sha256" "filled" "I", .fieldLink RX4 22 "ForkWatch$Sha256" "taken" "I"] ++ wsX40)
def wsX4_spread : List Cond := .code yX4_spread cX4_spread 6 none :: ([.fieldLink RX4 15 "ForkWatch$Sha256" "words" "[I"] ++ wsX40)
def wsX4_mix : List Cond := .code yX4_mix cX4_mix 15 none :: ([.fieldLink RX4 9 "ForkWatch$Sha256" "state" "[I", .fieldLink RX4 46 "ForkWatch$Sha256" "ROUND" "[I", .fieldLink RX4 15 "ForkWatch$Sha256" "words" "[I"] ++ wsX40)
def wsX4_take : List Cond := .code yX4_take cX4_take 2 none :: ([.fieldLink RX4 15 "ForkWatch$Sha256" "words" "[I", .fieldLink RX4 18 "ForkWatch$Sha256" "filled" "I", .fieldLink RX4 22 "ForkWatch$Sha256" "taken" "I", .methodLink RX4 34 yX4_spread, .instanceMethod yX4_spread, .selects RX4 yX4_spread yX4_spread, .initialized RX4, .code yX4_spread cX4_spread 6 none, .methodLink RX4 37 yX4_mix, .instanceMethod yX4_mix, .selects RX4 yX4_mix yX4_mix, .code yX4_mix cX4_mix 15 none, .fieldLink RX4 9 "ForkWatch$Sha256" "state" "[I", .fieldLink RX4 46 "ForkWatch$Sha256" "ROUND" "[I"] ++ wsX40)
def wsX2_startWithKey_r1 : List Cond := [Cond.fieldLink RX2 12 "ForkWatch$Mac" "sha" "LForkWatch$Sha256;", Cond.methodLink RX2 34 yX4_start, Cond.instanceMethod yX4_start, Cond.selects RX4 yX4_start yX4_start, Cond.initialized RX4, Cond.code yX4_start cX4_start 1 none, Cond.fieldLink RX4 25 "ForkWatch$Sha256" "START" "[I", Cond.fieldLink RX4 9 "ForkWatch$Sha256" "state" "[I", Cond.methodLink RX4 28 arraycopyName, Cond.native arraycopyName, Cond.static arraycopyName, Cond.initialized "java/lang/System", Cond.fieldLink RX4 18 "ForkWatch$Sha256" "filled" "I", Cond.fieldLink RX4 22 "ForkWatch$Sha256" "taken" "I", Cond.methodLink RX2 37 yX4_take, Cond.instanceMethod yX4_take, Cond.selects RX4 yX4_take yX4_take, Cond.code yX4_take cX4_take 2 none, Cond.fieldLink RX4 15 "ForkWatch$Sha256" "words" "[I", Cond.methodLink RX4 34 yX4_spread, Cond.instanceMethod yX4_spread, Cond.selects RX4 yX4_spread yX4_spread, Cond.code yX4_spread cX4_spread 6 none, Cond.methodLink RX4 37 yX4_mix]
def wsX2_startWithKey_r2 : List Cond := [Cond.instanceMethod yX4_mix, Cond.selects RX4 yX4_mix yX4_mix, Cond.code yX4_mix cX4_mix 15 none, Cond.fieldLink RX4 46 "ForkWatch$Sha256" "ROUND" "[I"]
def wsX2_startWithKey : List Cond := .code yX2_startWithKey cX2_startWithKey 3 none :: ((wsX2_startWithKey_r1 ++ wsX2_startWithKey_r2) ++ wsX20 ++ wsX40)
def wsX4_takeRow : List Cond := .code yX4_takeRow cX4_takeRow 5 none :: ([.methodLink RX4 40 yX4_take, .instanceMethod yX4_take, .selects RX4 yX4_take yX4_take, .initialized RX4, .code yX4_take cX4_take 2 none, .fieldLink RX4 15 "ForkWatch$Sha256" "words" "[I", .fieldLink RX4 18 "ForkWatch$Sha256" "filled" "I", .fieldLink RX4 22 "ForkWatch$Sha256" "taken" "I", .methodLink RX4 34 yX4_spread, .instanceMethod yX4_spread, .selects RX4 yX4_spread yX4_spread, .code yX4_spread cX4_spread 6 none, .methodLink RX4 37 yX4_mix, .instanceMethod yX4_mix, .selects RX4 yX4_mix yX4_mix, .code yX4_mix cX4_mix 15 none, .fieldLink RX4 9 "ForkWatch$Sha256" "state" "[I", .fieldLink RX4 46 "ForkWatch$Sha256" "ROUND" "[I"] ++ wsX40)
def wsX4_finish : List Cond := .code yX4_finish cX4_finish 6 none :: ([.constantLong RX4 44 (8), .fieldLink RX4 22 "ForkWatch$Sha256" "taken" "I", .fieldLink RX4 18 "ForkWatch$Sha256" "filled" "I", .fieldLink RX4 9 "ForkWatch$Sha256" "state" "[I", .methodLink RX4 40 yX4_take, .instanceMethod yX4_take, .selects RX4 yX4_take yX4_take, .initialized RX4, .code yX4_take cX4_take 2 none, .fieldLink RX4 15 "ForkWatch$Sha256" "words" "[I", .methodLink RX4 34 yX4_spread, .instanceMethod yX4_spread, .selects RX4 yX4_spread yX4_spread, .code yX4_spread cX4_spread 6 none, .methodLink RX4 37 yX4_mix, .instanceMethod yX4_mix, .selects RX4 yX4_mix yX4_mix, .code yX4_mix cX4_mix 15 none, .fieldLink RX4 46 "ForkWatch$Sha256" "ROUND" "[I"] ++ wsX40)
def wsX2_make_r1 : List Cond := [Cond.fieldLink RX2 12 "ForkWatch$Mac" "sha" "LForkWatch$Sha256;", Cond.fieldLink RX2 18 "ForkWatch$Mac" "inside" "[I", Cond.methodLink RX2 22 yX2_startWithKey, Cond.instanceMethod yX2_startWithKey, Cond.selects RX2 yX2_startWithKey yX2_startWithKey, Cond.initialized RX2, Cond.code yX2_startWithKey cX2_startWithKey 3 none, Cond.methodLink RX2 34 yX4_start, Cond.instanceMethod yX4_start, Cond.selects RX4 yX4_start yX4_start, Cond.initialized RX4, Cond.code yX4_start cX4_start 1 none, Cond.fieldLink RX4 25 "ForkWatch$Sha256" "START" "[I", Cond.fieldLink RX4 9 "ForkWatch$Sha256" "state" "[I", Cond.methodLink RX4 28 arraycopyName, Cond.native arraycopyName, Cond.static arraycopyName, Cond.initialized "java/lang/System", Cond.fieldLink RX4 18 "ForkWatch$Sha256" "filled" "I", Cond.fieldLink RX4 22 "ForkWatch$Sha256" "taken" "I", Cond.methodLink RX2 37 yX4_take, Cond.instanceMethod yX4_take, Cond.selects RX4 yX4_take yX4_take, Cond.code yX4_take cX4_take 2 none]
def wsX2_make_r2 : List Cond := [Cond.fieldLink RX4 15 "ForkWatch$Sha256" "words" "[I", Cond.methodLink RX4 34 yX4_spread, Cond.instanceMethod yX4_spread, Cond.selects RX4 yX4_spread yX4_spread, Cond.code yX4_spread cX4_spread 6 none, Cond.methodLink RX4 37 yX4_mix, Cond.instanceMethod yX4_mix, Cond.selects RX4 yX4_mix yX4_mix, Cond.code yX4_mix cX4_mix 15 none, Cond.fieldLink RX4 46 "ForkWatch$Sha256" "ROUND" "[I", Cond.methodLink RX2 26 yX4_takeRow, Cond.instanceMethod yX4_takeRow, Cond.selects RX4 yX4_takeRow yX4_takeRow, Cond.code yX4_takeRow cX4_takeRow 5 none, Cond.methodLink RX4 40 yX4_take, Cond.methodLink RX2 30 yX4_finish, Cond.instanceMethod yX4_finish, Cond.selects RX4 yX4_finish yX4_finish, Cond.code yX4_finish cX4_finish 6 none, Cond.constantLong RX4 44 (8)]
def wsX2_make : List Cond := .code yX2_make cX2_make 5 none :: ((wsX2_make_r1 ++ wsX2_make_r2) ++ wsX20 ++ wsX40)
def wsX5_init : List Cond := .code yX5_init cX5_init 2 none :: ([.methodLink RX5 3 objectInit, .instanceMethod objectInit, .code objectInit ⟨#[0xb1]⟩ 1 none, .arrayClass .int, .fieldLink RX5 9 "ForkWatch$Statement" "bytes" "[I"] ++ wsX50)
def wsX5_become : List Cond := .code yX5_become cX5_become 2 none :: ([.fieldLink RX5 9 "ForkWatch$Statement" "bytes" "[I", .methodLink RX5 15 arraycopyName, .native arraycopyName, .static arraycopyName, .initialized "java/lang/System"] ++ wsX50)
def wsX5_setCount : List Cond := .code yX5_setCount cX5_setCount 5 none :: ([.fieldLink RX5 9 "ForkWatch$Statement" "bytes" "[I"] ++ wsX50)
def wsX5_isNotAbove : List Cond := .code yX5_isNotAbove cX5_isNotAbove 3 (some .boolean) :: ([.methodLink RX5 21 yX5_countOf, .instanceMethod yX5_countOf, .selects RX5 yX5_countOf yX5_countOf, .initialized RX5, .code yX5_countOf cX5_countOf 5 (some .long), .fieldLink RX5 9 "ForkWatch$Statement" "bytes" "[I"] ++ wsX50)
def wsX5_isInLineWith : List Cond := .code yX5_isInLineWith cX5_isInLineWith 2 (some .boolean) :: ([.methodLink RX5 25 yX5_isNotAbove, .instanceMethod yX5_isNotAbove, .selects RX5 yX5_isNotAbove yX5_isNotAbove, .initialized RX5, .code yX5_isNotAbove cX5_isNotAbove 3 (some .boolean), .methodLink RX5 21 yX5_countOf, .instanceMethod yX5_countOf, .selects RX5 yX5_countOf yX5_countOf, .code yX5_countOf cX5_countOf 5 (some .long), .fieldLink RX5 9 "ForkWatch$Statement" "bytes" "[I"] ++ wsX50)
def wsX6_init : List Cond := .code yX6_init cX6_init 1 none :: ([.methodLink RX6 3 objectInit, .instanceMethod objectInit, .code objectInit ⟨#[0xb1]⟩ 1 none, .arrayClass .int, .fieldLink RX6 9 "ForkWatch$Tree" "nodes" "[I"] ++ wsX60)
def wsX6_setLeaf_r1 : List Cond := [Cond.fieldLink RX6 42 "ForkWatch$Files" "length" "[I", Cond.fieldLink RX6 47 "ForkWatch$Files" "content" "[I", Cond.fieldLink RX6 9 "ForkWatch$Tree" "nodes" "[I", Cond.methodLink RX6 33 yX4_start, Cond.instanceMethod yX4_start, Cond.selects RX4 yX4_start yX4_start, Cond.initialized RX4, Cond.code yX4_start cX4_start 1 none, Cond.fieldLink RX4 25 "ForkWatch$Sha256" "START" "[I", Cond.fieldLink RX4 9 "ForkWatch$Sha256" "state" "[I", Cond.methodLink RX4 28 arraycopyName, Cond.native arraycopyName, Cond.static arraycopyName, Cond.initialized "java/lang/System", Cond.fieldLink RX4 18 "ForkWatch$Sha256" "filled" "I", Cond.fieldLink RX4 22 "ForkWatch$Sha256" "taken" "I", Cond.methodLink RX6 38 yX4_take, Cond.instanceMethod yX4_take, Cond.selects RX4 yX4_take yX4_take, Cond.code yX4_take cX4_take 2 none, Cond.fieldLink RX4 15 "ForkWatch$Sha256" "words" "[I", Cond.methodLink RX4 34 yX4_spread, Cond.instanceMethod yX4_spread, Cond.selects RX4 yX4_spread yX4_spread]
def wsX6_setLeaf_r2 : List Cond := [Cond.code yX4_spread cX4_spread 6 none, Cond.methodLink RX4 37 yX4_mix, Cond.instanceMethod yX4_mix, Cond.selects RX4 yX4_mix yX4_mix, Cond.code yX4_mix cX4_mix 15 none, Cond.fieldLink RX4 46 "ForkWatch$Sha256" "ROUND" "[I", Cond.methodLink RX6 50 yX4_takeRow, Cond.instanceMethod yX4_takeRow, Cond.selects RX4 yX4_takeRow yX4_takeRow, Cond.code yX4_takeRow cX4_takeRow 5 none, Cond.methodLink RX4 40 yX4_take, Cond.methodLink RX6 54 yX4_finish, Cond.instanceMethod yX4_finish, Cond.selects RX4 yX4_finish yX4_finish, Cond.code yX4_finish cX4_finish 6 none, Cond.constantLong RX4 44 (8)]
def wsX6_setLeaf : List Cond := .code yX6_setLeaf cX6_setLeaf 4 none :: ((wsX6_setLeaf_r1 ++ wsX6_setLeaf_r2) ++ wsX00 ++ wsX60 ++ wsX40)
def wsX6_setNode_r1 : List Cond := [Cond.fieldLink RX6 9 "ForkWatch$Tree" "nodes" "[I", Cond.methodLink RX6 33 yX4_start, Cond.instanceMethod yX4_start, Cond.selects RX4 yX4_start yX4_start, Cond.initialized RX4, Cond.code yX4_start cX4_start 1 none, Cond.fieldLink RX4 25 "ForkWatch$Sha256" "START" "[I", Cond.fieldLink RX4 9 "ForkWatch$Sha256" "state" "[I", Cond.methodLink RX4 28 arraycopyName, Cond.native arraycopyName, Cond.static arraycopyName, Cond.initialized "java/lang/System", Cond.fieldLink RX4 18 "ForkWatch$Sha256" "filled" "I", Cond.fieldLink RX4 22 "ForkWatch$Sha256" "taken" "I", Cond.methodLink RX6 38 yX4_take, Cond.instanceMethod yX4_take, Cond.selects RX4 yX4_take yX4_take, Cond.code yX4_take cX4_take 2 none, Cond.fieldLink RX4 15 "ForkWatch$Sha256" "words" "[I", Cond.methodLink RX4 34 yX4_spread, Cond.instanceMethod yX4_spread, Cond.selects RX4 yX4_spread yX4_spread, Cond.code yX4_spread cX4_spread 6 none, Cond.methodLink RX4 37 yX4_mix]
def wsX6_setNode_r2 : List Cond := [Cond.instanceMethod yX4_mix, Cond.selects RX4 yX4_mix yX4_mix, Cond.code yX4_mix cX4_mix 15 none, Cond.fieldLink RX4 46 "ForkWatch$Sha256" "ROUND" "[I", Cond.methodLink RX6 50 yX4_takeRow, Cond.instanceMethod yX4_takeRow, Cond.selects RX4 yX4_takeRow yX4_takeRow, Cond.code yX4_takeRow cX4_takeRow 5 none, Cond.methodLink RX4 40 yX4_take, Cond.methodLink RX6 54 yX4_finish, Cond.instanceMethod yX4_finish, Cond.selects RX4 yX4_finish yX4_finish, Cond.code yX4_finish cX4_finish 6 none, Cond.constantLong RX4 44 (8)]
def wsX6_setNode : List Cond := .code yX6_setNode cX6_setNode 3 none :: ((wsX6_setNode_r1 ++ wsX6_setNode_r2) ++ wsX60 ++ wsX40)
def wsX6_build_r1 : List Cond := [Cond.methodLink RX6 15 yX6_setLeaf, Cond.instanceMethod yX6_setLeaf, Cond.selects RX6 yX6_setLeaf yX6_setLeaf, Cond.initialized RX6, Cond.code yX6_setLeaf cX6_setLeaf 4 none, Cond.fieldLink RX6 42 "ForkWatch$Files" "length" "[I", Cond.fieldLink RX6 47 "ForkWatch$Files" "content" "[I", Cond.fieldLink RX6 9 "ForkWatch$Tree" "nodes" "[I", Cond.methodLink RX6 33 yX4_start, Cond.instanceMethod yX4_start, Cond.selects RX4 yX4_start yX4_start, Cond.initialized RX4, Cond.code yX4_start cX4_start 1 none, Cond.fieldLink RX4 25 "ForkWatch$Sha256" "START" "[I", Cond.fieldLink RX4 9 "ForkWatch$Sha256" "state" "[I", Cond.methodLink RX4 28 arraycopyName, Cond.native arraycopyName, Cond.static arraycopyName, Cond.initialized "java/lang/System", Cond.fieldLink RX4 18 "ForkWatch$Sha256" "filled" "I", Cond.fieldLink RX4 22 "ForkWatch$Sha256" "taken" "I", Cond.methodLink RX6 38 yX4_take, Cond.instanceMethod yX4_take, Cond.selects RX4 yX4_take yX4_take]
def wsX6_build_r2 : List Cond := [Cond.code yX4_take cX4_take 2 none, Cond.fieldLink RX4 15 "ForkWatch$Sha256" "words" "[I", Cond.methodLink RX4 34 yX4_spread, Cond.instanceMethod yX4_spread, Cond.selects RX4 yX4_spread yX4_spread, Cond.code yX4_spread cX4_spread 6 none, Cond.methodLink RX4 37 yX4_mix, Cond.instanceMethod yX4_mix, Cond.selects RX4 yX4_mix yX4_mix, Cond.code yX4_mix cX4_mix 15 none, Cond.fieldLink RX4 46 "ForkWatch$Sha256" "ROUND" "[I", Cond.methodLink RX6 50 yX4_takeRow, Cond.instanceMethod yX4_takeRow, Cond.selects RX4 yX4_takeRow yX4_takeRow, Cond.code yX4_takeRow cX4_takeRow 5 none, Cond.methodLink RX4 40 yX4_take, Cond.methodLink RX6 54 yX4_finish, Cond.instanceMethod yX4_finish, Cond.selects RX4 yX4_finish yX4_finish, Cond.code yX4_finish cX4_finish 6 none, Cond.constantLong RX4 44 (8), Cond.methodLink RX6 19 yX6_setNode, Cond.instanceMethod yX6_setNode, Cond.selects RX6 yX6_setNode yX6_setNode]
def wsX6_build_r3 : List Cond := [Cond.code yX6_setNode cX6_setNode 3 none]
def wsX6_build : List Cond := .code yX6_build cX6_build 4 none :: ((wsX6_build_r1 ++ (wsX6_build_r2 ++ wsX6_build_r3)) ++ wsX00 ++ wsX60 ++ wsX40)
def wsX6_refresh_r1 : List Cond := [Cond.methodLink RX6 15 yX6_setLeaf, Cond.instanceMethod yX6_setLeaf, Cond.selects RX6 yX6_setLeaf yX6_setLeaf, Cond.initialized RX6, Cond.code yX6_setLeaf cX6_setLeaf 4 none, Cond.fieldLink RX6 42 "ForkWatch$Files" "length" "[I", Cond.fieldLink RX6 47 "ForkWatch$Files" "content" "[I", Cond.fieldLink RX6 9 "ForkWatch$Tree" "nodes" "[I", Cond.methodLink RX6 33 yX4_start, Cond.instanceMethod yX4_start, Cond.selects RX4 yX4_start yX4_start, Cond.initialized RX4, Cond.code yX4_start cX4_start 1 none, Cond.fieldLink RX4 25 "ForkWatch$Sha256" "START" "[I", Cond.fieldLink RX4 9 "ForkWatch$Sha256" "state" "[I", Cond.methodLink RX4 28 arraycopyName, Cond.native arraycopyName, Cond.static arraycopyName, Cond.initialized "java/lang/System", Cond.fieldLink RX4 18 "ForkWatch$Sha256" "filled" "I", Cond.fieldLink RX4 22 "ForkWatch$Sha256" "taken" "I", Cond.methodLink RX6 38 yX4_take, Cond.instanceMethod yX4_take, Cond.selects RX4 yX4_take yX4_take]
def wsX6_refresh_r2 : List Cond := [Cond.code yX4_take cX4_take 2 none, Cond.fieldLink RX4 15 "ForkWatch$Sha256" "words" "[I", Cond.methodLink RX4 34 yX4_spread, Cond.instanceMethod yX4_spread, Cond.selects RX4 yX4_spread yX4_spread, Cond.code yX4_spread cX4_spread 6 none, Cond.methodLink RX4 37 yX4_mix, Cond.instanceMethod yX4_mix, Cond.selects RX4 yX4_mix yX4_mix, Cond.code yX4_mix cX4_mix 15 none, Cond.fieldLink RX4 46 "ForkWatch$Sha256" "ROUND" "[I", Cond.methodLink RX6 50 yX4_takeRow, Cond.instanceMethod yX4_takeRow, Cond.selects RX4 yX4_takeRow yX4_takeRow, Cond.code yX4_takeRow cX4_takeRow 5 none, Cond.methodLink RX4 40 yX4_take, Cond.methodLink RX6 54 yX4_finish, Cond.instanceMethod yX4_finish, Cond.selects RX4 yX4_finish yX4_finish, Cond.code yX4_finish cX4_finish 6 none, Cond.constantLong RX4 44 (8), Cond.methodLink RX6 19 yX6_setNode, Cond.instanceMethod yX6_setNode, Cond.selects RX6 yX6_setNode yX6_setNode]
def wsX6_refresh_r3 : List Cond := [Cond.code yX6_setNode cX6_setNode 3 none]
def wsX6_refresh : List Cond := .code yX6_refresh cX6_refresh 5 none :: ((wsX6_refresh_r1 ++ (wsX6_refresh_r2 ++ wsX6_refresh_r3)) ++ wsX00 ++ wsX60 ++ wsX40)
def wsX6_become : List Cond := .code yX6_become cX6_become 2 none :: ([.fieldLink RX6 9 "ForkWatch$Tree" "nodes" "[I", .methodLink RX6 23 arraycopyName, .native arraycopyName, .static arraycopyName, .initialized "java/lang/System"] ++ wsX60)
def wsX6_copyRoot : List Cond := .code yX6_copyRoot cX6_copyRoot 3 none :: ([.fieldLink RX6 9 "ForkWatch$Tree" "nodes" "[I", .methodLink RX6 23 arraycopyName, .native arraycopyName, .static arraycopyName, .initialized "java/lang/System"] ++ wsX60)
def wsX6_hasRoot : List Cond := .code yX6_hasRoot cX6_hasRoot 3 (some .boolean) :: ([.fieldLink RX6 9 "ForkWatch$Tree" "nodes" "[I", .static yX8_sameRow, .initialized RX8, .code yX8_sameRow cX8_sameRow 6 (some .boolean)] ++ wsX60)
def wsX7_init_r1 : List Cond := [Cond.methodLink RX7 3 objectInit, Cond.instanceMethod objectInit, Cond.code objectInit ⟨#[0xb1]⟩ 1 none, Cond.classLink RX7 9 RX5, Cond.fieldLink RX7 11 "ForkWatch$World" "told" "[LForkWatch$Statement;", Cond.classLink RX7 17 RX0, Cond.instantiable RX0 2, Cond.initialized RX0, Cond.fieldLink RX7 20 "ForkWatch$World" "files" "LForkWatch$Files;", Cond.classLink RX7 24 RX6, Cond.instantiable RX6 1, Cond.initialized RX6, Cond.fieldLink RX7 27 "ForkWatch$World" "tree" "LForkWatch$Tree;", Cond.instantiable RX5 1, Cond.initialized RX5, Cond.instanceMethod yX0_init, Cond.code yX0_init cX0_init 1 none, Cond.methodLink RX0 3 objectInit, Cond.arrayClass .int, Cond.fieldLink RX0 9 "ForkWatch$Files" "content" "[I", Cond.fieldLink RX0 15 "ForkWatch$Files" "length" "[I", Cond.instanceMethod yX6_init, Cond.code yX6_init cX6_init 1 none, Cond.methodLink RX6 3 objectInit]
def wsX7_init_r2 : List Cond := [Cond.fieldLink RX6 9 "ForkWatch$Tree" "nodes" "[I", Cond.methodLink RX7 31 yX5_init, Cond.instanceMethod yX5_init, Cond.code yX5_init cX5_init 2 none, Cond.methodLink RX5 3 objectInit, Cond.fieldLink RX5 9 "ForkWatch$Statement" "bytes" "[I"]
def wsX7_init : List Cond := .code yX7_init cX7_init 2 none :: ((wsX7_init_r1 ++ wsX7_init_r2) ++ wsX70 ++ wsX00 ++ wsX60 ++ wsX50)
def wsX7_become_r1 : List Cond := [Cond.fieldLink RX7 11 "ForkWatch$World" "told" "[LForkWatch$Statement;", Cond.fieldLink RX7 20 "ForkWatch$World" "files" "LForkWatch$Files;", Cond.fieldLink RX7 27 "ForkWatch$World" "tree" "LForkWatch$Tree;", Cond.methodLink RX7 34 yX5_become, Cond.instanceMethod yX5_become, Cond.selects RX5 yX5_become yX5_become, Cond.initialized RX5, Cond.code yX5_become cX5_become 2 none, Cond.fieldLink RX5 9 "ForkWatch$Statement" "bytes" "[I", Cond.methodLink RX5 15 arraycopyName, Cond.native arraycopyName, Cond.static arraycopyName, Cond.initialized "java/lang/System", Cond.methodLink RX7 38 yX0_become, Cond.instanceMethod yX0_become, Cond.selects RX0 yX0_become yX0_become, Cond.initialized RX0, Cond.code yX0_become cX0_become 2 none, Cond.fieldLink RX0 9 "ForkWatch$Files" "content" "[I", Cond.methodLink RX0 18 arraycopyName, Cond.fieldLink RX0 15 "ForkWatch$Files" "length" "[I", Cond.methodLink RX7 41 yX6_become, Cond.instanceMethod yX6_become, Cond.selects RX6 yX6_become yX6_become]
def wsX7_become_r2 : List Cond := [Cond.initialized RX6, Cond.code yX6_become cX6_become 2 none, Cond.fieldLink RX6 9 "ForkWatch$Tree" "nodes" "[I", Cond.methodLink RX6 23 arraycopyName]
def wsX7_become : List Cond := .code yX7_become cX7_become 3 none :: ((wsX7_become_r1 ++ wsX7_become_r2) ++ wsX70 ++ wsX50 ++ wsX00 ++ wsX60)
def wsX7_put_r1 : List Cond := [Cond.fieldLink RX7 20 "ForkWatch$World" "files" "LForkWatch$Files;", Cond.fieldLink RX7 27 "ForkWatch$World" "tree" "LForkWatch$Tree;", Cond.methodLink RX7 44 yX0_put, Cond.instanceMethod yX0_put, Cond.selects RX0 yX0_put yX0_put, Cond.initialized RX0, Cond.code yX0_put cX0_put 4 none, Cond.fieldLink RX0 9 "ForkWatch$Files" "content" "[I", Cond.methodLink RX0 18 arraycopyName, Cond.native arraycopyName, Cond.static arraycopyName, Cond.initialized "java/lang/System", Cond.fieldLink RX0 15 "ForkWatch$Files" "length" "[I", Cond.methodLink RX7 48 yX6_refresh, Cond.instanceMethod yX6_refresh, Cond.selects RX6 yX6_refresh yX6_refresh, Cond.initialized RX6, Cond.code yX6_refresh cX6_refresh 5 none, Cond.methodLink RX6 15 yX6_setLeaf, Cond.instanceMethod yX6_setLeaf, Cond.selects RX6 yX6_setLeaf yX6_setLeaf, Cond.code yX6_setLeaf cX6_setLeaf 4 none, Cond.fieldLink RX6 42 "ForkWatch$Files" "length" "[I", Cond.fieldLink RX6 47 "ForkWatch$Files" "content" "[I"]
def wsX7_put_r2 : List Cond := [Cond.fieldLink RX6 9 "ForkWatch$Tree" "nodes" "[I", Cond.methodLink RX6 33 yX4_start, Cond.instanceMethod yX4_start, Cond.selects RX4 yX4_start yX4_start, Cond.initialized RX4, Cond.code yX4_start cX4_start 1 none, Cond.fieldLink RX4 25 "ForkWatch$Sha256" "START" "[I", Cond.fieldLink RX4 9 "ForkWatch$Sha256" "state" "[I", Cond.methodLink RX4 28 arraycopyName, Cond.fieldLink RX4 18 "ForkWatch$Sha256" "filled" "I", Cond.fieldLink RX4 22 "ForkWatch$Sha256" "taken" "I", Cond.methodLink RX6 38 yX4_take, Cond.instanceMethod yX4_take, Cond.selects RX4 yX4_take yX4_take, Cond.code yX4_take cX4_take 2 none, Cond.fieldLink RX4 15 "ForkWatch$Sha256" "words" "[I", Cond.methodLink RX4 34 yX4_spread, Cond.instanceMethod yX4_spread, Cond.selects RX4 yX4_spread yX4_spread, Cond.code yX4_spread cX4_spread 6 none, Cond.methodLink RX4 37 yX4_mix, Cond.instanceMethod yX4_mix, Cond.selects RX4 yX4_mix yX4_mix, Cond.code yX4_mix cX4_mix 15 none]
def wsX7_put_r3 : List Cond := [Cond.fieldLink RX4 46 "ForkWatch$Sha256" "ROUND" "[I", Cond.methodLink RX6 50 yX4_takeRow, Cond.instanceMethod yX4_takeRow, Cond.selects RX4 yX4_takeRow yX4_takeRow, Cond.code yX4_takeRow cX4_takeRow 5 none, Cond.methodLink RX4 40 yX4_take, Cond.methodLink RX6 54 yX4_finish, Cond.instanceMethod yX4_finish, Cond.selects RX4 yX4_finish yX4_finish, Cond.code yX4_finish cX4_finish 6 none, Cond.constantLong RX4 44 (8), Cond.methodLink RX6 19 yX6_setNode, Cond.instanceMethod yX6_setNode, Cond.selects RX6 yX6_setNode yX6_setNode, Cond.code yX6_setNode cX6_setNode 3 none]
def wsX7_put : List Cond := .code yX7_put cX7_put 5 none :: ((wsX7_put_r1 ++ (wsX7_put_r2 ++ wsX7_put_r3)) ++ wsX70 ++ wsX00 ++ wsX60 ++ wsX40)
def wsX7_flip_r1 : List Cond := [Cond.fieldLink RX7 20 "ForkWatch$World" "files" "LForkWatch$Files;", Cond.fieldLink RX7 52 "ForkWatch$Files" "content" "[I", Cond.fieldLink RX7 27 "ForkWatch$World" "tree" "LForkWatch$Tree;", Cond.methodLink RX7 48 yX6_refresh, Cond.instanceMethod yX6_refresh, Cond.selects RX6 yX6_refresh yX6_refresh, Cond.initialized RX6, Cond.code yX6_refresh cX6_refresh 5 none, Cond.methodLink RX6 15 yX6_setLeaf, Cond.instanceMethod yX6_setLeaf, Cond.selects RX6 yX6_setLeaf yX6_setLeaf, Cond.code yX6_setLeaf cX6_setLeaf 4 none, Cond.fieldLink RX6 42 "ForkWatch$Files" "length" "[I", Cond.fieldLink RX6 47 "ForkWatch$Files" "content" "[I", Cond.fieldLink RX6 9 "ForkWatch$Tree" "nodes" "[I", Cond.methodLink RX6 33 yX4_start, Cond.instanceMethod yX4_start, Cond.selects RX4 yX4_start yX4_start, Cond.initialized RX4, Cond.code yX4_start cX4_start 1 none, Cond.fieldLink RX4 25 "ForkWatch$Sha256" "START" "[I", Cond.fieldLink RX4 9 "ForkWatch$Sha256" "state" "[I", Cond.methodLink RX4 28 arraycopyName, Cond.native arraycopyName]
def wsX7_flip_r2 : List Cond := [Cond.static arraycopyName, Cond.initialized "java/lang/System", Cond.fieldLink RX4 18 "ForkWatch$Sha256" "filled" "I", Cond.fieldLink RX4 22 "ForkWatch$Sha256" "taken" "I", Cond.methodLink RX6 38 yX4_take, Cond.instanceMethod yX4_take, Cond.selects RX4 yX4_take yX4_take, Cond.code yX4_take cX4_take 2 none, Cond.fieldLink RX4 15 "ForkWatch$Sha256" "words" "[I", Cond.methodLink RX4 34 yX4_spread, Cond.instanceMethod yX4_spread, Cond.selects RX4 yX4_spread yX4_spread, Cond.code yX4_spread cX4_spread 6 none, Cond.methodLink RX4 37 yX4_mix, Cond.instanceMethod yX4_mix, Cond.selects RX4 yX4_mix yX4_mix, Cond.code yX4_mix cX4_mix 15 none, Cond.fieldLink RX4 46 "ForkWatch$Sha256" "ROUND" "[I", Cond.methodLink RX6 50 yX4_takeRow, Cond.instanceMethod yX4_takeRow, Cond.selects RX4 yX4_takeRow yX4_takeRow, Cond.code yX4_takeRow cX4_takeRow 5 none, Cond.methodLink RX4 40 yX4_take, Cond.methodLink RX6 54 yX4_finish]
def wsX7_flip_r3 : List Cond := [Cond.instanceMethod yX4_finish, Cond.selects RX4 yX4_finish yX4_finish, Cond.code yX4_finish cX4_finish 6 none, Cond.constantLong RX4 44 (8), Cond.methodLink RX6 19 yX6_setNode, Cond.instanceMethod yX6_setNode, Cond.selects RX6 yX6_setNode yX6_setNode, Cond.code yX6_setNode cX6_setNode 3 none]
def wsX7_flip : List Cond := .code yX7_flip cX7_flip 5 none :: ((wsX7_flip_r1 ++ (wsX7_flip_r2 ++ wsX7_flip_r3)) ++ wsX70 ++ wsX00 ++ wsX60 ++ wsX40)
def wsX7_isInLine : List Cond := .code yX7_isInLine cX7_isInLine 3 (some .boolean) :: ([.fieldLink RX7 11 "ForkWatch$World" "told" "[LForkWatch$Statement;", .methodLink RX7 56 yX5_isInLineWith, .instanceMethod yX5_isInLineWith, .selects RX5 yX5_isInLineWith yX5_isInLineWith, .initialized RX5, .code yX5_isInLineWith cX5_isInLineWith 2 (some .boolean), .methodLink RX5 25 yX5_isNotAbove, .instanceMethod yX5_isNotAbove, .selects RX5 yX5_isNotAbove yX5_isNotAbove, .code yX5_isNotAbove cX5_isNotAbove 3 (some .boolean), .methodLink RX5 21 yX5_countOf, .instanceMethod yX5_countOf, .selects RX5 yX5_countOf yX5_countOf, .code yX5_countOf cX5_countOf 5 (some .long), .fieldLink RX5 9 "ForkWatch$Statement" "bytes" "[I"] ++ wsX70 ++ wsX50)
def wsX7_greatest : List Cond := .code yX7_greatest cX7_greatest 3 (some (.object "ForkWatch$Statement")) :: ([.fieldLink RX7 11 "ForkWatch$World" "told" "[LForkWatch$Statement;", .methodLink RX7 60 yX5_isNotAbove, .instanceMethod yX5_isNotAbove, .selects RX5 yX5_isNotAbove yX5_isNotAbove, .initialized RX5, .code yX5_isNotAbove cX5_isNotAbove 3 (some .boolean), .methodLink RX5 21 yX5_countOf, .instanceMethod yX5_countOf, .selects RX5 yX5_countOf yX5_countOf, .code yX5_countOf cX5_countOf 5 (some .long), .fieldLink RX5 9 "ForkWatch$Statement" "bytes" "[I"] ++ wsX70 ++ wsX50)
def wsX8_sign_r1 : List Cond := [Cond.fieldLink RX8 169 "ForkWatch$Statement" "bytes" "[I", Cond.fieldLink RX8 19 "ForkWatch" "mac" "LForkWatch$Mac;", Cond.methodLink RX8 231 yX6_copyRoot, Cond.instanceMethod yX6_copyRoot, Cond.selects RX6 yX6_copyRoot yX6_copyRoot, Cond.initialized RX6, Cond.code yX6_copyRoot cX6_copyRoot 3 none, Cond.fieldLink RX6 9 "ForkWatch$Tree" "nodes" "[I", Cond.methodLink RX6 23 arraycopyName, Cond.native arraycopyName, Cond.static arraycopyName, Cond.initialized "java/lang/System", Cond.methodLink RX8 195 yX2_make, Cond.instanceMethod yX2_make, Cond.selects RX2 yX2_make yX2_make, Cond.initialized RX2, Cond.code yX2_make cX2_make 5 none, Cond.fieldLink RX2 12 "ForkWatch$Mac" "sha" "LForkWatch$Sha256;", Cond.fieldLink RX2 18 "ForkWatch$Mac" "inside" "[I", Cond.methodLink RX2 22 yX2_startWithKey, Cond.instanceMethod yX2_startWithKey, Cond.selects RX2 yX2_startWithKey yX2_startWithKey, Cond.code yX2_startWithKey cX2_startWithKey 3 none, Cond.methodLink RX2 34 yX4_start]
def wsX8_sign_r2 : List Cond := [Cond.instanceMethod yX4_start, Cond.selects RX4 yX4_start yX4_start, Cond.initialized RX4, Cond.code yX4_start cX4_start 1 none, Cond.fieldLink RX4 25 "ForkWatch$Sha256" "START" "[I", Cond.fieldLink RX4 9 "ForkWatch$Sha256" "state" "[I", Cond.methodLink RX4 28 arraycopyName, Cond.fieldLink RX4 18 "ForkWatch$Sha256" "filled" "I", Cond.fieldLink RX4 22 "ForkWatch$Sha256" "taken" "I", Cond.methodLink RX2 37 yX4_take, Cond.instanceMethod yX4_take, Cond.selects RX4 yX4_take yX4_take, Cond.code yX4_take cX4_take 2 none, Cond.fieldLink RX4 15 "ForkWatch$Sha256" "words" "[I", Cond.methodLink RX4 34 yX4_spread, Cond.instanceMethod yX4_spread, Cond.selects RX4 yX4_spread yX4_spread, Cond.code yX4_spread cX4_spread 6 none, Cond.methodLink RX4 37 yX4_mix, Cond.instanceMethod yX4_mix, Cond.selects RX4 yX4_mix yX4_mix, Cond.code yX4_mix cX4_mix 15 none, Cond.fieldLink RX4 46 "ForkWatch$Sha256" "ROUND" "[I", Cond.methodLink RX2 26 yX4_takeRow]
def wsX8_sign_r3 : List Cond := [Cond.instanceMethod yX4_takeRow, Cond.selects RX4 yX4_takeRow yX4_takeRow, Cond.code yX4_takeRow cX4_takeRow 5 none, Cond.methodLink RX4 40 yX4_take, Cond.methodLink RX2 30 yX4_finish, Cond.instanceMethod yX4_finish, Cond.selects RX4 yX4_finish yX4_finish, Cond.code yX4_finish cX4_finish 6 none, Cond.constantLong RX4 44 (8)]
def wsX8_sign : List Cond := .code yX8_sign cX8_sign 3 none :: ((wsX8_sign_r1 ++ (wsX8_sign_r2 ++ wsX8_sign_r3)) ++ wsX50 ++ wsX80 ++ wsX60 ++ wsX20 ++ wsX40)
def wsX8_init_r1 : List Cond := [Cond.methodLink RX8 1 objectInit, Cond.instanceMethod objectInit, Cond.code objectInit ⟨#[0xb1]⟩ 1 none, Cond.classLink RX8 7 RX4, Cond.instantiable RX4 4, Cond.initialized RX4, Cond.fieldLink RX8 10 "ForkWatch" "sha" "LForkWatch$Sha256;", Cond.classLink RX8 16 RX2, Cond.instantiable RX2 2, Cond.initialized RX2, Cond.fieldLink RX8 19 "ForkWatch" "mac" "LForkWatch$Mac;", Cond.arrayClass .int, Cond.fieldLink RX8 23 "ForkWatch" "digestRow" "[I", Cond.classLink RX8 27 RJx4a65c, Cond.instantiable RJx4a65c 3, Cond.initialized RJx4a65c, Cond.fieldLink RX8 30 "ForkWatch" "worlds" "Ljava/util/ArrayList;", Cond.classLink RX8 34 RX5, Cond.fieldLink RX8 36 "ForkWatch" "remembered" "[LForkWatch$Statement;", Cond.fieldLink RX8 40 "ForkWatch" "shown" "[I", Cond.fieldLink RX8 43 "ForkWatch" "collected" "[I", Cond.fieldLink RX8 46 "ForkWatch" "collectedLength" "I", Cond.fieldLink RX8 50 "ForkWatch" "lastRead" "[I", Cond.fieldLink RX8 53 "ForkWatch" "lastReadLength" "I"]
def wsX8_init_r2 : List Cond := [Cond.classLink RX8 56 RX1, Cond.instantiable RX1 3, Cond.initialized RX1, Cond.fieldLink RX8 59 "ForkWatch" "history" "LForkWatch$History;", Cond.fieldLink RX8 63 "ForkWatch" "changed" "Z", Cond.fieldLink RX8 67 "ForkWatch" "wellDone" "I", Cond.fieldLink RX8 70 "ForkWatch" "stopped" "I", Cond.classLink RX8 73 RX7, Cond.instantiable RX7 3, Cond.initialized RX7, Cond.fieldLink RX8 76 "ForkWatch$World" "tree" "LForkWatch$Tree;", Cond.fieldLink RX8 80 "ForkWatch$World" "files" "LForkWatch$Files;", Cond.instantiable RX5 1, Cond.initialized RX5, Cond.fieldLink RX8 97 "ForkWatch$World" "told" "[LForkWatch$Statement;", Cond.instanceMethod yX4_init, Cond.code yX4_init cX4_init 1 none, Cond.methodLink RX4 3 objectInit, Cond.fieldLink RX4 9 "ForkWatch$Sha256" "state" "[I", Cond.fieldLink RX4 15 "ForkWatch$Sha256" "words" "[I", Cond.fieldLink RX4 18 "ForkWatch$Sha256" "filled" "I", Cond.fieldLink RX4 22 "ForkWatch$Sha256" "taken" "I", Cond.instanceMethod yX2_init, Cond.code yX2_init cX2_init 1 none]
def wsX8_init_r3 : List Cond := [Cond.methodLink RX2 3 objectInit, Cond.classLink RX2 9 RX4, Cond.fieldLink RX2 12 "ForkWatch$Mac" "sha" "LForkWatch$Sha256;", Cond.fieldLink RX2 18 "ForkWatch$Mac" "inside" "[I", Cond.methodLink RX8 29 yJx4a65c_init_da8c8, Cond.instanceMethod yJx4a65c_init_da8c8, Cond.code yJx4a65c_init_da8c8 cJx4a65c_init_da8c8 1 none, Cond.fieldLink RJx4a65c 39 "java/util/ArrayList" "DEFAULTCAPACITY_EMPTY_ELEMENTDATA" "[Ljava/lang/Object;", Cond.fieldLink RJx4a65c 9 "java/util/ArrayList" "elementData" "[Ljava/lang/Object;", Cond.methodLink RJx4a65c 1 yJxc12de_init_da8c8, Cond.instanceMethod yJxc12de_init_da8c8, Cond.initialized RJxc12de, Cond.code yJxc12de_init_da8c8 cJxc12de_init_da8c8 1 none, Cond.fieldLink RJxc12de 7 "java/util/AbstractList" "modCount" "I", Cond.methodLink RJxc12de 1 yJxa1e45_init_da8c8, Cond.instanceMethod yJxa1e45_init_da8c8, Cond.initialized RJxa1e45, Cond.code yJxa1e45_init_da8c8 cJxa1e45_init_da8c8 1 none, Cond.methodLink RJxa1e45 1 objectInit, Cond.instanceMethod yX1_init, Cond.code yX1_init cX1_init 1 none, Cond.methodLink RX1 3 objectInit, Cond.classLink RX1 9 RJx4a65c, Cond.fieldLink RX1 12 "ForkWatch$History" "operations" "Ljava/util/ArrayList;"]
def wsX8_init_r4 : List Cond := [Cond.fieldLink RX1 18 "ForkWatch$History" "done" "[I", Cond.classLink RX1 22 RX0, Cond.instantiable RX0 2, Cond.initialized RX0, Cond.fieldLink RX1 25 "ForkWatch$History" "store" "LForkWatch$Files;", Cond.methodLink RX1 11 yJx4a65c_init_da8c8, Cond.instanceMethod yX0_init, Cond.code yX0_init cX0_init 1 none, Cond.methodLink RX0 3 objectInit, Cond.fieldLink RX0 9 "ForkWatch$Files" "content" "[I", Cond.fieldLink RX0 15 "ForkWatch$Files" "length" "[I", Cond.methodLink RX8 75 yX7_init, Cond.instanceMethod yX7_init, Cond.code yX7_init cX7_init 2 none, Cond.methodLink RX7 3 objectInit, Cond.classLink RX7 9 RX5, Cond.fieldLink RX7 11 "ForkWatch$World" "told" "[LForkWatch$Statement;", Cond.classLink RX7 17 RX0, Cond.fieldLink RX7 20 "ForkWatch$World" "files" "LForkWatch$Files;", Cond.classLink RX7 24 RX6, Cond.instantiable RX6 1, Cond.initialized RX6, Cond.fieldLink RX7 27 "ForkWatch$World" "tree" "LForkWatch$Tree;", Cond.instanceMethod yX6_init]
def wsX8_init_r5 : List Cond := [Cond.code yX6_init cX6_init 1 none, Cond.methodLink RX6 3 objectInit, Cond.fieldLink RX6 9 "ForkWatch$Tree" "nodes" "[I", Cond.methodLink RX7 31 yX5_init, Cond.instanceMethod yX5_init, Cond.code yX5_init cX5_init 2 none, Cond.methodLink RX5 3 objectInit, Cond.fieldLink RX5 9 "ForkWatch$Statement" "bytes" "[I", Cond.methodLink RX8 84 yX6_build, Cond.instanceMethod yX6_build, Cond.selects RX6 yX6_build yX6_build, Cond.code yX6_build cX6_build 4 none, Cond.methodLink RX6 15 yX6_setLeaf, Cond.instanceMethod yX6_setLeaf, Cond.selects RX6 yX6_setLeaf yX6_setLeaf, Cond.code yX6_setLeaf cX6_setLeaf 4 none, Cond.fieldLink RX6 42 "ForkWatch$Files" "length" "[I", Cond.fieldLink RX6 47 "ForkWatch$Files" "content" "[I", Cond.methodLink RX6 33 yX4_start, Cond.instanceMethod yX4_start, Cond.selects RX4 yX4_start yX4_start, Cond.code yX4_start cX4_start 1 none, Cond.fieldLink RX4 25 "ForkWatch$Sha256" "START" "[I", Cond.methodLink RX4 28 arraycopyName]
def wsX8_init_r6 : List Cond := [Cond.native arraycopyName, Cond.static arraycopyName, Cond.initialized "java/lang/System", Cond.methodLink RX6 38 yX4_take, Cond.instanceMethod yX4_take, Cond.selects RX4 yX4_take yX4_take, Cond.code yX4_take cX4_take 2 none, Cond.methodLink RX4 34 yX4_spread, Cond.instanceMethod yX4_spread, Cond.selects RX4 yX4_spread yX4_spread, Cond.code yX4_spread cX4_spread 6 none, Cond.methodLink RX4 37 yX4_mix, Cond.instanceMethod yX4_mix, Cond.selects RX4 yX4_mix yX4_mix, Cond.code yX4_mix cX4_mix 15 none, Cond.fieldLink RX4 46 "ForkWatch$Sha256" "ROUND" "[I", Cond.methodLink RX6 50 yX4_takeRow, Cond.instanceMethod yX4_takeRow, Cond.selects RX4 yX4_takeRow yX4_takeRow, Cond.code yX4_takeRow cX4_takeRow 5 none, Cond.methodLink RX4 40 yX4_take, Cond.methodLink RX6 54 yX4_finish, Cond.instanceMethod yX4_finish, Cond.selects RX4 yX4_finish yX4_finish]
def wsX8_init_r7 : List Cond := [Cond.code yX4_finish cX4_finish 6 none, Cond.constantLong RX4 44 (8), Cond.methodLink RX6 19 yX6_setNode, Cond.instanceMethod yX6_setNode, Cond.selects RX6 yX6_setNode yX6_setNode, Cond.code yX6_setNode cX6_setNode 3 none, Cond.methodLink RX8 90 yX5_init, Cond.methodLink RX8 93 yX8_sign, Cond.instanceMethod yX8_sign, Cond.selects RX8 yX8_sign yX8_sign, Cond.initialized RX8, Cond.code yX8_sign cX8_sign 3 none, Cond.fieldLink RX8 169 "ForkWatch$Statement" "bytes" "[I", Cond.methodLink RX8 231 yX6_copyRoot, Cond.instanceMethod yX6_copyRoot, Cond.selects RX6 yX6_copyRoot yX6_copyRoot, Cond.code yX6_copyRoot cX6_copyRoot 3 none, Cond.methodLink RX6 23 arraycopyName, Cond.methodLink RX8 195 yX2_make, Cond.instanceMethod yX2_make, Cond.selects RX2 yX2_make yX2_make, Cond.code yX2_make cX2_make 5 none, Cond.methodLink RX2 22 yX2_startWithKey, Cond.instanceMethod yX2_startWithKey]
def wsX8_init_r8 : List Cond := [Cond.selects RX2 yX2_startWithKey yX2_startWithKey, Cond.code yX2_startWithKey cX2_startWithKey 3 none, Cond.methodLink RX2 34 yX4_start, Cond.methodLink RX2 37 yX4_take, Cond.methodLink RX2 26 yX4_takeRow, Cond.methodLink RX2 30 yX4_finish, Cond.methodLink RX8 100 yX5_become, Cond.instanceMethod yX5_become, Cond.selects RX5 yX5_become yX5_become, Cond.code yX5_become cX5_become 2 none, Cond.methodLink RX5 15 arraycopyName, Cond.methodLink RX8 104 yJx4a65c_add_9ea2d, Cond.instanceMethod yJx4a65c_add_9ea2d, Cond.selects RJx4a65c yJx4a65c_add_9ea2d yJx4a65c_add_9ea2d, Cond.code yJx4a65c_add_9ea2d cJx4a65c_add_9ea2d 2 (some .boolean), Cond.fieldLink RJx4a65c 63 "java/util/ArrayList" "modCount" "I", Cond.sameField "java/util/ArrayList" "java/util/AbstractList" "modCount" "I", Cond.fieldLink RJx4a65c 48 "java/util/ArrayList" "size" "I", Cond.methodLink RJx4a65c 131 yJx4a65c_add_72be8, Cond.instanceMethod yJx4a65c_add_72be8, Cond.selects RJx4a65c yJx4a65c_add_72be8 yJx4a65c_add_72be8, Cond.code yJx4a65c_add_72be8 cJx4a65c_add_72be8 4 none, Cond.methodLink RJx4a65c 129 yJx4a65c_grow_d5877, Cond.instanceMethod yJx4a65c_grow_d5877]
def wsX8_init_r9 : List Cond := [Cond.selects RJx4a65c yJx4a65c_grow_d5877 yJx4a65c_grow_d5877, Cond.code yJx4a65c_grow_d5877 cJx4a65c_grow_d5877 1 (some (.array (.object "java/lang/Object"))), Cond.methodLink RJx4a65c 69 yJx4a65c_grow_92f84, Cond.instanceMethod yJx4a65c_grow_92f84, Cond.selects RJx4a65c yJx4a65c_grow_92f84 yJx4a65c_grow_92f84, Cond.code yJx4a65c_grow_92f84 cJx4a65c_grow_92f84 4 (some (.array (.object "java/lang/Object"))), Cond.methodLink RJx4a65c 79 Lib.Math.max.name, Cond.static Lib.Math.max.name, Cond.initialized "java/lang/Math", Cond.code Lib.Math.max.name Lib.Math.max.code 2 (some .int), Cond.classLink RJx4a65c 7 "java/lang/Object", Cond.methodLink RJx4a65c 73 yJ8_newLength_cabcc, Cond.static yJ8_newLength_cabcc, Cond.initialized RJ8, Cond.code yJ8_newLength_cabcc cJ8_newLength_cabcc 4 (some .int), Cond.methodLink RJ8 194 Lib.Math.max.name, Cond.constant RJ8 200 (2147483639), Cond.methodLink RJ8 201 yJ8_hugeLength_7cf53, Cond.static yJ8_hugeLength_7cf53, Cond.code yJ8_hugeLength_7cf53 cJ8_hugeLength_7cf53 3 (some .int), Cond.methodLink RJx4a65c 66 yJ7_copyOf_1904c, Cond.static yJ7_copyOf_1904c, Cond.initialized RJ7, Cond.code yJ7_copyOf_1904c cJ7_copyOf_1904c 2 (some (.array (.object "java/lang/Object")))]
def wsX8_init_r10 : List Cond := [Cond.methodLink RJ7 86 ⟨"java/lang/Object", "getClass", "()Ljava/lang/Class;"⟩, Cond.selects "[Ljava/lang/Object;" ⟨"java/lang/Object", "getClass", "()Ljava/lang/Class;"⟩ ⟨"java/lang/Object", "getClass", "()Ljava/lang/Class;"⟩, Cond.instanceMethod ⟨"java/lang/Object", "getClass", "()Ljava/lang/Class;"⟩, Cond.native ⟨"java/lang/Object", "getClass", "()Ljava/lang/Class;"⟩, Cond.methodLink RJ7 300 yJ7_copyOf_6403c, Cond.static yJ7_copyOf_6403c, Cond.code yJ7_copyOf_6403c cJ7_copyOf_6403c 4 (some (.array (.object "java/lang/Object"))), Cond.classLink RJ7 110 "[Ljava/lang/Object;", Cond.classLink RJ7 2 "java/lang/Object", Cond.methodLink RJ7 304 Lib.Math.min.name, Cond.static Lib.Math.min.name, Cond.code Lib.Math.min.name Lib.Math.min.code 2 (some .int), Cond.methodLink RJ7 150 arraycopyName]
def wsX8_init : List Cond := .code yX8_init cX8_init 3 none :: ((wsX8_init_r1 ++ (wsX8_init_r2 ++ (wsX8_init_r3 ++ (wsX8_init_r4 ++ (wsX8_init_r5 ++ (wsX8_init_r6 ++ (wsX8_init_r7 ++ (wsX8_init_r8 ++ (wsX8_init_r9 ++ wsX8_init_r10))))))))) ++ wsX40 ++ wsX80 ++ wsX20 ++ wsJx4a65c0 ++ wsX10 ++ wsX70 ++ wsX50 ++ wsX00 ++ wsX60)
def wsX8_feed : List Cond := .code yX8_feed cX8_feed 2 (some .boolean) :: ([.fieldLink RX8 46 "ForkWatch" "collectedLength" "I", .fieldLink RX8 43 "ForkWatch" "collected" "[I"] ++ wsX80)
def wsX8_isClient : List Cond := .code yX8_isClient cX8_isClient 1 (some .boolean) :: ([])
def wsX8_isFile : List Cond := .code yX8_isFile cX8_isFile 1 (some .boolean) :: ([])
def wsX8_areSigned_r1 : List Cond := [Cond.fieldLink RX8 97 "ForkWatch$World" "told" "[LForkWatch$Statement;", Cond.fieldLink RX8 169 "ForkWatch$Statement" "bytes" "[I", Cond.fieldLink RX8 19 "ForkWatch" "mac" "LForkWatch$Mac;", Cond.fieldLink RX8 23 "ForkWatch" "digestRow" "[I", Cond.methodLink RX8 195 yX2_make, Cond.instanceMethod yX2_make, Cond.selects RX2 yX2_make yX2_make, Cond.initialized RX2, Cond.code yX2_make cX2_make 5 none, Cond.fieldLink RX2 12 "ForkWatch$Mac" "sha" "LForkWatch$Sha256;", Cond.fieldLink RX2 18 "ForkWatch$Mac" "inside" "[I", Cond.methodLink RX2 22 yX2_startWithKey, Cond.instanceMethod yX2_startWithKey, Cond.selects RX2 yX2_startWithKey yX2_startWithKey, Cond.code yX2_startWithKey cX2_startWithKey 3 none, Cond.methodLink RX2 34 yX4_start, Cond.instanceMethod yX4_start, Cond.selects RX4 yX4_start yX4_start, Cond.initialized RX4, Cond.code yX4_start cX4_start 1 none, Cond.fieldLink RX4 25 "ForkWatch$Sha256" "START" "[I", Cond.fieldLink RX4 9 "ForkWatch$Sha256" "state" "[I", Cond.methodLink RX4 28 arraycopyName, Cond.native arraycopyName]
def wsX8_areSigned_r2 : List Cond := [Cond.static arraycopyName, Cond.initialized "java/lang/System", Cond.fieldLink RX4 18 "ForkWatch$Sha256" "filled" "I", Cond.fieldLink RX4 22 "ForkWatch$Sha256" "taken" "I", Cond.methodLink RX2 37 yX4_take, Cond.instanceMethod yX4_take, Cond.selects RX4 yX4_take yX4_take, Cond.code yX4_take cX4_take 2 none, Cond.fieldLink RX4 15 "ForkWatch$Sha256" "words" "[I", Cond.methodLink RX4 34 yX4_spread, Cond.instanceMethod yX4_spread, Cond.selects RX4 yX4_spread yX4_spread, Cond.code yX4_spread cX4_spread 6 none, Cond.methodLink RX4 37 yX4_mix, Cond.instanceMethod yX4_mix, Cond.selects RX4 yX4_mix yX4_mix, Cond.code yX4_mix cX4_mix 15 none, Cond.fieldLink RX4 46 "ForkWatch$Sha256" "ROUND" "[I", Cond.methodLink RX2 26 yX4_takeRow, Cond.instanceMethod yX4_takeRow, Cond.selects RX4 yX4_takeRow yX4_takeRow, Cond.code yX4_takeRow cX4_takeRow 5 none, Cond.methodLink RX4 40 yX4_take, Cond.methodLink RX2 30 yX4_finish]
def wsX8_areSigned_r3 : List Cond := [Cond.instanceMethod yX4_finish, Cond.selects RX4 yX4_finish yX4_finish, Cond.code yX4_finish cX4_finish 6 none, Cond.constantLong RX4 44 (8), Cond.methodLink RX8 211 yX8_sameRow, Cond.static yX8_sameRow, Cond.initialized RX8, Cond.code yX8_sameRow cX8_sameRow 6 (some .boolean)]
def wsX8_areSigned : List Cond := .code yX8_areSigned cX8_areSigned 4 (some .boolean) :: ((wsX8_areSigned_r1 ++ (wsX8_areSigned_r2 ++ wsX8_areSigned_r3)) ++ wsX70 ++ wsX50 ++ wsX80 ++ wsX20 ++ wsX40)
def wsX8_failedCheck_r1 : List Cond := [Cond.fieldLink RX8 97 "ForkWatch$World" "told" "[LForkWatch$Statement;", Cond.fieldLink RX8 169 "ForkWatch$Statement" "bytes" "[I", Cond.fieldLink RX8 36 "ForkWatch" "remembered" "[LForkWatch$Statement;", Cond.fieldLink RX8 76 "ForkWatch$World" "tree" "LForkWatch$Tree;", Cond.methodLink RX8 207 yX8_areSigned, Cond.instanceMethod yX8_areSigned, Cond.selects RX8 yX8_areSigned yX8_areSigned, Cond.initialized RX8, Cond.code yX8_areSigned cX8_areSigned 4 (some .boolean), Cond.fieldLink RX8 19 "ForkWatch" "mac" "LForkWatch$Mac;", Cond.fieldLink RX8 23 "ForkWatch" "digestRow" "[I", Cond.methodLink RX8 195 yX2_make, Cond.instanceMethod yX2_make, Cond.selects RX2 yX2_make yX2_make, Cond.initialized RX2, Cond.code yX2_make cX2_make 5 none, Cond.fieldLink RX2 12 "ForkWatch$Mac" "sha" "LForkWatch$Sha256;", Cond.fieldLink RX2 18 "ForkWatch$Mac" "inside" "[I", Cond.methodLink RX2 22 yX2_startWithKey, Cond.instanceMethod yX2_startWithKey, Cond.selects RX2 yX2_startWithKey yX2_startWithKey, Cond.code yX2_startWithKey cX2_startWithKey 3 none, Cond.methodLink RX2 34 yX4_start, Cond.instanceMethod yX4_start]
def wsX8_failedCheck_r2 : List Cond := [Cond.selects RX4 yX4_start yX4_start, Cond.initialized RX4, Cond.code yX4_start cX4_start 1 none, Cond.fieldLink RX4 25 "ForkWatch$Sha256" "START" "[I", Cond.fieldLink RX4 9 "ForkWatch$Sha256" "state" "[I", Cond.methodLink RX4 28 arraycopyName, Cond.native arraycopyName, Cond.static arraycopyName, Cond.initialized "java/lang/System", Cond.fieldLink RX4 18 "ForkWatch$Sha256" "filled" "I", Cond.fieldLink RX4 22 "ForkWatch$Sha256" "taken" "I", Cond.methodLink RX2 37 yX4_take, Cond.instanceMethod yX4_take, Cond.selects RX4 yX4_take yX4_take, Cond.code yX4_take cX4_take 2 none, Cond.fieldLink RX4 15 "ForkWatch$Sha256" "words" "[I", Cond.methodLink RX4 34 yX4_spread, Cond.instanceMethod yX4_spread, Cond.selects RX4 yX4_spread yX4_spread, Cond.code yX4_spread cX4_spread 6 none, Cond.methodLink RX4 37 yX4_mix, Cond.instanceMethod yX4_mix, Cond.selects RX4 yX4_mix yX4_mix, Cond.code yX4_mix cX4_mix 15 none]
def wsX8_failedCheck_r3 : List Cond := [Cond.fieldLink RX4 46 "ForkWatch$Sha256" "ROUND" "[I", Cond.methodLink RX2 26 yX4_takeRow, Cond.instanceMethod yX4_takeRow, Cond.selects RX4 yX4_takeRow yX4_takeRow, Cond.code yX4_takeRow cX4_takeRow 5 none, Cond.methodLink RX4 40 yX4_take, Cond.methodLink RX2 30 yX4_finish, Cond.instanceMethod yX4_finish, Cond.selects RX4 yX4_finish yX4_finish, Cond.code yX4_finish cX4_finish 6 none, Cond.constantLong RX4 44 (8), Cond.methodLink RX8 211 yX8_sameRow, Cond.static yX8_sameRow, Cond.code yX8_sameRow cX8_sameRow 6 (some .boolean), Cond.methodLink RX8 215 yX7_isInLine, Cond.instanceMethod yX7_isInLine, Cond.selects RX7 yX7_isInLine yX7_isInLine, Cond.initialized RX7, Cond.code yX7_isInLine cX7_isInLine 3 (some .boolean), Cond.fieldLink RX7 11 "ForkWatch$World" "told" "[LForkWatch$Statement;", Cond.methodLink RX7 56 yX5_isInLineWith, Cond.instanceMethod yX5_isInLineWith, Cond.selects RX5 yX5_isInLineWith yX5_isInLineWith, Cond.initialized RX5]
def wsX8_failedCheck_r4 : List Cond := [Cond.code yX5_isInLineWith cX5_isInLineWith 2 (some .boolean), Cond.methodLink RX5 25 yX5_isNotAbove, Cond.instanceMethod yX5_isNotAbove, Cond.selects RX5 yX5_isNotAbove yX5_isNotAbove, Cond.code yX5_isNotAbove cX5_isNotAbove 3 (some .boolean), Cond.methodLink RX5 21 yX5_countOf, Cond.instanceMethod yX5_countOf, Cond.selects RX5 yX5_countOf yX5_countOf, Cond.code yX5_countOf cX5_countOf 5 (some .long), Cond.fieldLink RX5 9 "ForkWatch$Statement" "bytes" "[I", Cond.methodLink RX8 219 yX7_greatest, Cond.instanceMethod yX7_greatest, Cond.selects RX7 yX7_greatest yX7_greatest, Cond.code yX7_greatest cX7_greatest 3 (some (.object "ForkWatch$Statement")), Cond.methodLink RX7 60 yX5_isNotAbove, Cond.methodLink RX8 223 yX6_hasRoot, Cond.instanceMethod yX6_hasRoot, Cond.selects RX6 yX6_hasRoot yX6_hasRoot, Cond.initialized RX6, Cond.code yX6_hasRoot cX6_hasRoot 3 (some .boolean), Cond.fieldLink RX6 9 "ForkWatch$Tree" "nodes" "[I"]
def wsX8_failedCheck : List Cond := .code yX8_failedCheck cX8_failedCheck 3 (some .int) :: ((wsX8_failedCheck_r1 ++ (wsX8_failedCheck_r2 ++ (wsX8_failedCheck_r3 ++ wsX8_failedCheck_r4))) ++ wsX70 ++ wsX50 ++ wsX80 ++ wsX20 ++ wsX40 ++ wsX60)
def wsX8_stoppedBy : List Cond := .code yX8_stoppedBy cX8_stoppedBy 2 (some .int) :: ([.fieldLink RX8 70 "ForkWatch" "stopped" "I"] ++ wsX80)
def wsX8_makeStatement_r1 : List Cond := [Cond.fieldLink RX8 36 "ForkWatch" "remembered" "[LForkWatch$Statement;", Cond.fieldLink RX8 76 "ForkWatch$World" "tree" "LForkWatch$Tree;", Cond.fieldLink RX8 97 "ForkWatch$World" "told" "[LForkWatch$Statement;", Cond.fieldLink RX8 67 "ForkWatch" "wellDone" "I", Cond.methodLink RX8 219 yX7_greatest, Cond.instanceMethod yX7_greatest, Cond.selects RX7 yX7_greatest yX7_greatest, Cond.initialized RX7, Cond.code yX7_greatest cX7_greatest 3 (some (.object "ForkWatch$Statement")), Cond.fieldLink RX7 11 "ForkWatch$World" "told" "[LForkWatch$Statement;", Cond.methodLink RX7 60 yX5_isNotAbove, Cond.instanceMethod yX5_isNotAbove, Cond.selects RX5 yX5_isNotAbove yX5_isNotAbove, Cond.initialized RX5, Cond.code yX5_isNotAbove cX5_isNotAbove 3 (some .boolean), Cond.methodLink RX5 21 yX5_countOf, Cond.instanceMethod yX5_countOf, Cond.selects RX5 yX5_countOf yX5_countOf, Cond.code yX5_countOf cX5_countOf 5 (some .long), Cond.fieldLink RX5 9 "ForkWatch$Statement" "bytes" "[I", Cond.methodLink RX8 180 yX5_countOf, Cond.methodLink RX8 227 yX5_setCount, Cond.instanceMethod yX5_setCount, Cond.selects RX5 yX5_setCount yX5_setCount]
def wsX8_makeStatement_r2 : List Cond := [Cond.code yX5_setCount cX5_setCount 5 none, Cond.methodLink RX8 93 yX8_sign, Cond.instanceMethod yX8_sign, Cond.selects RX8 yX8_sign yX8_sign, Cond.initialized RX8, Cond.code yX8_sign cX8_sign 3 none, Cond.fieldLink RX8 169 "ForkWatch$Statement" "bytes" "[I", Cond.fieldLink RX8 19 "ForkWatch" "mac" "LForkWatch$Mac;", Cond.methodLink RX8 231 yX6_copyRoot, Cond.instanceMethod yX6_copyRoot, Cond.selects RX6 yX6_copyRoot yX6_copyRoot, Cond.initialized RX6, Cond.code yX6_copyRoot cX6_copyRoot 3 none, Cond.fieldLink RX6 9 "ForkWatch$Tree" "nodes" "[I", Cond.methodLink RX6 23 arraycopyName, Cond.native arraycopyName, Cond.static arraycopyName, Cond.initialized "java/lang/System", Cond.methodLink RX8 195 yX2_make, Cond.instanceMethod yX2_make, Cond.selects RX2 yX2_make yX2_make, Cond.initialized RX2, Cond.code yX2_make cX2_make 5 none, Cond.fieldLink RX2 12 "ForkWatch$Mac" "sha" "LForkWatch$Sha256;"]
def wsX8_makeStatement_r3 : List Cond := [Cond.fieldLink RX2 18 "ForkWatch$Mac" "inside" "[I", Cond.methodLink RX2 22 yX2_startWithKey, Cond.instanceMethod yX2_startWithKey, Cond.selects RX2 yX2_startWithKey yX2_startWithKey, Cond.code yX2_startWithKey cX2_startWithKey 3 none, Cond.methodLink RX2 34 yX4_start, Cond.instanceMethod yX4_start, Cond.selects RX4 yX4_start yX4_start, Cond.initialized RX4, Cond.code yX4_start cX4_start 1 none, Cond.fieldLink RX4 25 "ForkWatch$Sha256" "START" "[I", Cond.fieldLink RX4 9 "ForkWatch$Sha256" "state" "[I", Cond.methodLink RX4 28 arraycopyName, Cond.fieldLink RX4 18 "ForkWatch$Sha256" "filled" "I", Cond.fieldLink RX4 22 "ForkWatch$Sha256" "taken" "I", Cond.methodLink RX2 37 yX4_take, Cond.instanceMethod yX4_take, Cond.selects RX4 yX4_take yX4_take, Cond.code yX4_take cX4_take 2 none, Cond.fieldLink RX4 15 "ForkWatch$Sha256" "words" "[I", Cond.methodLink RX4 34 yX4_spread, Cond.instanceMethod yX4_spread, Cond.selects RX4 yX4_spread yX4_spread, Cond.code yX4_spread cX4_spread 6 none]
def wsX8_makeStatement_r4 : List Cond := [Cond.methodLink RX4 37 yX4_mix, Cond.instanceMethod yX4_mix, Cond.selects RX4 yX4_mix yX4_mix, Cond.code yX4_mix cX4_mix 15 none, Cond.fieldLink RX4 46 "ForkWatch$Sha256" "ROUND" "[I", Cond.methodLink RX2 26 yX4_takeRow, Cond.instanceMethod yX4_takeRow, Cond.selects RX4 yX4_takeRow yX4_takeRow, Cond.code yX4_takeRow cX4_takeRow 5 none, Cond.methodLink RX4 40 yX4_take, Cond.methodLink RX2 30 yX4_finish, Cond.instanceMethod yX4_finish, Cond.selects RX4 yX4_finish yX4_finish, Cond.code yX4_finish cX4_finish 6 none, Cond.constantLong RX4 44 (8), Cond.methodLink RX8 100 yX5_become, Cond.instanceMethod yX5_become, Cond.selects RX5 yX5_become yX5_become, Cond.code yX5_become cX5_become 2 none, Cond.methodLink RX5 15 arraycopyName]
def wsX8_makeStatement : List Cond := .code yX8_makeStatement cX8_makeStatement 6 none :: ((wsX8_makeStatement_r1 ++ (wsX8_makeStatement_r2 ++ (wsX8_makeStatement_r3 ++ wsX8_makeStatement_r4))) ++ wsX80 ++ wsX70 ++ wsX50 ++ wsX60 ++ wsX20 ++ wsX40)
def wsX8_write_r1 : List Cond := [Cond.fieldLink RX8 46 "ForkWatch" "collectedLength" "I", Cond.fieldLink RX8 30 "ForkWatch" "worlds" "Ljava/util/ArrayList;", Cond.fieldLink RX8 40 "ForkWatch" "shown" "[I", Cond.classLink RX8 73 "ForkWatch$World", Cond.fieldLink RX8 43 "ForkWatch" "collected" "[I", Cond.fieldLink RX8 10 "ForkWatch" "sha" "LForkWatch$Sha256;", Cond.fieldLink RX8 59 "ForkWatch" "history" "LForkWatch$History;", Cond.methodLink RX8 108 yX8_isClient, Cond.static yX8_isClient, Cond.initialized RX8, Cond.code yX8_isClient cX8_isClient 1 (some .boolean), Cond.methodLink RX8 112 yX8_isFile, Cond.static yX8_isFile, Cond.code yX8_isFile cX8_isFile 1 (some .boolean), Cond.methodLink RX8 115 yJx4a65c_get_915e3, Cond.instanceMethod yJx4a65c_get_915e3, Cond.selects RJx4a65c yJx4a65c_get_915e3 yJx4a65c_get_915e3, Cond.initialized RJx4a65c, Cond.code yJx4a65c_get_915e3 cJx4a65c_get_915e3 2 (some (.object "java/lang/Object")), Cond.fieldLink RJx4a65c 48 "java/util/ArrayList" "size" "I", Cond.methodLink RJx4a65c 118 yJ15_checkIndex_7cf53, Cond.static yJ15_checkIndex_7cf53, Cond.initialized RJ15, Cond.code yJ15_checkIndex_7cf53 cJ15_checkIndex_7cf53 2 (some .int)]
def wsX8_write_r2 : List Cond := [Cond.methodLink RJ15 105 yJ3_checkIndex_8e157, Cond.static yJ3_checkIndex_8e157, Cond.initialized RJ3, Cond.code yJ3_checkIndex_8e157 cJ3_checkIndex_8e157 3 (some .int), Cond.methodLink RJx4a65c 123 yJx4a65c_elementData_915e3, Cond.instanceMethod yJx4a65c_elementData_915e3, Cond.selects RJx4a65c yJx4a65c_elementData_915e3 yJx4a65c_elementData_915e3, Cond.code yJx4a65c_elementData_915e3 cJx4a65c_elementData_915e3 2 (some (.object "java/lang/Object")), Cond.fieldLink RJx4a65c 9 "java/util/ArrayList" "elementData" "[Ljava/lang/Object;", Cond.methodLink RX8 119 yX8_failedCheck, Cond.instanceMethod yX8_failedCheck, Cond.selects RX8 yX8_failedCheck yX8_failedCheck, Cond.code yX8_failedCheck cX8_failedCheck 3 (some .int), Cond.fieldLink RX8 97 "ForkWatch$World" "told" "[LForkWatch$Statement;", Cond.fieldLink RX8 169 "ForkWatch$Statement" "bytes" "[I", Cond.fieldLink RX8 36 "ForkWatch" "remembered" "[LForkWatch$Statement;", Cond.fieldLink RX8 76 "ForkWatch$World" "tree" "LForkWatch$Tree;", Cond.methodLink RX8 207 yX8_areSigned, Cond.instanceMethod yX8_areSigned, Cond.selects RX8 yX8_areSigned yX8_areSigned, Cond.code yX8_areSigned cX8_areSigned 4 (some .boolean), Cond.fieldLink RX8 19 "ForkWatch" "mac" "LForkWatch$Mac;", Cond.fieldLink RX8 23 "ForkWatch" "digestRow" "[I", Cond.methodLink RX8 195 yX2_make]
def wsX8_write_r3 : List Cond := [Cond.instanceMethod yX2_make, Cond.selects RX2 yX2_make yX2_make, Cond.initialized RX2, Cond.code yX2_make cX2_make 5 none, Cond.fieldLink RX2 12 "ForkWatch$Mac" "sha" "LForkWatch$Sha256;", Cond.fieldLink RX2 18 "ForkWatch$Mac" "inside" "[I", Cond.methodLink RX2 22 yX2_startWithKey, Cond.instanceMethod yX2_startWithKey, Cond.selects RX2 yX2_startWithKey yX2_startWithKey, Cond.code yX2_startWithKey cX2_startWithKey 3 none, Cond.methodLink RX2 34 yX4_start, Cond.instanceMethod yX4_start, Cond.selects RX4 yX4_start yX4_start, Cond.initialized RX4, Cond.code yX4_start cX4_start 1 none, Cond.fieldLink RX4 25 "ForkWatch$Sha256" "START" "[I", Cond.fieldLink RX4 9 "ForkWatch$Sha256" "state" "[I", Cond.methodLink RX4 28 arraycopyName, Cond.native arraycopyName, Cond.static arraycopyName, Cond.initialized "java/lang/System", Cond.fieldLink RX4 18 "ForkWatch$Sha256" "filled" "I", Cond.fieldLink RX4 22 "ForkWatch$Sha256" "taken" "I", Cond.methodLink RX2 37 yX4_take]
def wsX8_write_r4 : List Cond := [Cond.instanceMethod yX4_take, Cond.selects RX4 yX4_take yX4_take, Cond.code yX4_take cX4_take 2 none, Cond.fieldLink RX4 15 "ForkWatch$Sha256" "words" "[I", Cond.methodLink RX4 34 yX4_spread, Cond.instanceMethod yX4_spread, Cond.selects RX4 yX4_spread yX4_spread, Cond.code yX4_spread cX4_spread 6 none, Cond.methodLink RX4 37 yX4_mix, Cond.instanceMethod yX4_mix, Cond.selects RX4 yX4_mix yX4_mix, Cond.code yX4_mix cX4_mix 15 none, Cond.fieldLink RX4 46 "ForkWatch$Sha256" "ROUND" "[I", Cond.methodLink RX2 26 yX4_takeRow, Cond.instanceMethod yX4_takeRow, Cond.selects RX4 yX4_takeRow yX4_takeRow, Cond.code yX4_takeRow cX4_takeRow 5 none, Cond.methodLink RX4 40 yX4_take, Cond.methodLink RX2 30 yX4_finish, Cond.instanceMethod yX4_finish, Cond.selects RX4 yX4_finish yX4_finish, Cond.code yX4_finish cX4_finish 6 none, Cond.constantLong RX4 44 (8), Cond.methodLink RX8 211 yX8_sameRow]
def wsX8_write_r5 : List Cond := [Cond.static yX8_sameRow, Cond.code yX8_sameRow cX8_sameRow 6 (some .boolean), Cond.methodLink RX8 215 yX7_isInLine, Cond.instanceMethod yX7_isInLine, Cond.selects RX7 yX7_isInLine yX7_isInLine, Cond.initialized RX7, Cond.code yX7_isInLine cX7_isInLine 3 (some .boolean), Cond.fieldLink RX7 11 "ForkWatch$World" "told" "[LForkWatch$Statement;", Cond.methodLink RX7 56 yX5_isInLineWith, Cond.instanceMethod yX5_isInLineWith, Cond.selects RX5 yX5_isInLineWith yX5_isInLineWith, Cond.initialized RX5, Cond.code yX5_isInLineWith cX5_isInLineWith 2 (some .boolean), Cond.methodLink RX5 25 yX5_isNotAbove, Cond.instanceMethod yX5_isNotAbove, Cond.selects RX5 yX5_isNotAbove yX5_isNotAbove, Cond.code yX5_isNotAbove cX5_isNotAbove 3 (some .boolean), Cond.methodLink RX5 21 yX5_countOf, Cond.instanceMethod yX5_countOf, Cond.selects RX5 yX5_countOf yX5_countOf, Cond.code yX5_countOf cX5_countOf 5 (some .long), Cond.fieldLink RX5 9 "ForkWatch$Statement" "bytes" "[I", Cond.methodLink RX8 219 yX7_greatest, Cond.instanceMethod yX7_greatest]
def wsX8_write_r6 : List Cond := [Cond.selects RX7 yX7_greatest yX7_greatest, Cond.code yX7_greatest cX7_greatest 3 (some (.object "ForkWatch$Statement")), Cond.methodLink RX7 60 yX5_isNotAbove, Cond.methodLink RX8 223 yX6_hasRoot, Cond.instanceMethod yX6_hasRoot, Cond.selects RX6 yX6_hasRoot yX6_hasRoot, Cond.initialized RX6, Cond.code yX6_hasRoot cX6_hasRoot 3 (some .boolean), Cond.fieldLink RX6 9 "ForkWatch$Tree" "nodes" "[I", Cond.methodLink RX8 123 yX8_stoppedBy, Cond.instanceMethod yX8_stoppedBy, Cond.selects RX8 yX8_stoppedBy yX8_stoppedBy, Cond.code yX8_stoppedBy cX8_stoppedBy 2 (some .int), Cond.fieldLink RX8 70 "ForkWatch" "stopped" "I", Cond.methodLink RX8 127 yX7_put, Cond.instanceMethod yX7_put, Cond.selects RX7 yX7_put yX7_put, Cond.code yX7_put cX7_put 5 none, Cond.fieldLink RX7 20 "ForkWatch$World" "files" "LForkWatch$Files;", Cond.fieldLink RX7 27 "ForkWatch$World" "tree" "LForkWatch$Tree;", Cond.methodLink RX7 44 yX0_put, Cond.instanceMethod yX0_put, Cond.selects RX0 yX0_put yX0_put, Cond.initialized RX0]
def wsX8_write_r7 : List Cond := [Cond.code yX0_put cX0_put 4 none, Cond.fieldLink RX0 9 "ForkWatch$Files" "content" "[I", Cond.methodLink RX0 18 arraycopyName, Cond.fieldLink RX0 15 "ForkWatch$Files" "length" "[I", Cond.methodLink RX7 48 yX6_refresh, Cond.instanceMethod yX6_refresh, Cond.selects RX6 yX6_refresh yX6_refresh, Cond.code yX6_refresh cX6_refresh 5 none, Cond.methodLink RX6 15 yX6_setLeaf, Cond.instanceMethod yX6_setLeaf, Cond.selects RX6 yX6_setLeaf yX6_setLeaf, Cond.code yX6_setLeaf cX6_setLeaf 4 none, Cond.fieldLink RX6 42 "ForkWatch$Files" "length" "[I", Cond.fieldLink RX6 47 "ForkWatch$Files" "content" "[I", Cond.methodLink RX6 33 yX4_start, Cond.methodLink RX6 38 yX4_take, Cond.methodLink RX6 50 yX4_takeRow, Cond.methodLink RX6 54 yX4_finish, Cond.methodLink RX6 19 yX6_setNode, Cond.instanceMethod yX6_setNode, Cond.selects RX6 yX6_setNode yX6_setNode, Cond.code yX6_setNode cX6_setNode 3 none, Cond.methodLink RX8 131 yX1_note, Cond.instanceMethod yX1_note]
def wsX8_write_r8 : List Cond := [Cond.selects RX1 yX1_note yX1_note, Cond.initialized RX1, Cond.code yX1_note cX1_note 6 none, Cond.fieldLink RX1 12 "ForkWatch$History" "operations" "Ljava/util/ArrayList;", Cond.fieldLink RX1 18 "ForkWatch$History" "done" "[I", Cond.classLink RX1 33 RX3, Cond.instantiable RX3 5, Cond.initialized RX3, Cond.methodLink RX1 29 yJx4a65c_size_8abf5, Cond.instanceMethod yJx4a65c_size_8abf5, Cond.selects RJx4a65c yJx4a65c_size_8abf5 yJx4a65c_size_8abf5, Cond.code yJx4a65c_size_8abf5 cJx4a65c_size_8abf5 1 (some .int), Cond.methodLink RX1 35 yJ7_copyOf_59c91, Cond.static yJ7_copyOf_59c91, Cond.initialized RJ7, Cond.code yJ7_copyOf_59c91 cJ7_copyOf_59c91 3 (some (.array .int)), Cond.methodLink RJ7 316 ⟨"[I", "clone", "()Ljava/lang/Object;"⟩, Cond.sameMethod "[I" "java/lang/Object" "clone" "()Ljava/lang/Object;", Cond.native ⟨"java/lang/Object", "clone", "()Ljava/lang/Object;"⟩, Cond.instanceMethod ⟨"java/lang/Object", "clone", "()Ljava/lang/Object;"⟩, Cond.selects "[I" ⟨"[I", "clone", "()Ljava/lang/Object;"⟩ ⟨"java/lang/Object", "clone", "()Ljava/lang/Object;"⟩, Cond.classLink RJ7 317 "[I", Cond.arrayClass .int, Cond.methodLink RJ7 304 Lib.Math.min.name]
def wsX8_write_r9 : List Cond := [Cond.static Lib.Math.min.name, Cond.initialized "java/lang/Math", Cond.code Lib.Math.min.name Lib.Math.min.code 2 (some .int), Cond.methodLink RJ7 150 arraycopyName, Cond.methodLink RX1 41 yX3_init, Cond.instanceMethod yX3_init, Cond.code yX3_init cX3_init 6 none, Cond.methodLink RX3 1 objectInit, Cond.instanceMethod objectInit, Cond.code objectInit ⟨#[0xb1]⟩ 1 none, Cond.fieldLink RX3 7 "ForkWatch$Operation" "writes" "Z", Cond.fieldLink RX3 13 "ForkWatch$Operation" "client" "I", Cond.fieldLink RX3 17 "ForkWatch$Operation" "number" "I", Cond.fieldLink RX3 20 "ForkWatch$Operation" "file" "I", Cond.fieldLink RX3 23 "ForkWatch$Operation" "content" "[I", Cond.methodLink RX1 44 yJx4a65c_add_9ea2d, Cond.instanceMethod yJx4a65c_add_9ea2d, Cond.selects RJx4a65c yJx4a65c_add_9ea2d yJx4a65c_add_9ea2d, Cond.code yJx4a65c_add_9ea2d cJx4a65c_add_9ea2d 2 (some .boolean), Cond.fieldLink RJx4a65c 63 "java/util/ArrayList" "modCount" "I", Cond.sameField "java/util/ArrayList" "java/util/AbstractList" "modCount" "I", Cond.methodLink RJx4a65c 131 yJx4a65c_add_72be8, Cond.instanceMethod yJx4a65c_add_72be8, Cond.selects RJx4a65c yJx4a65c_add_72be8 yJx4a65c_add_72be8]
def wsX8_write_r10 : List Cond := [Cond.code yJx4a65c_add_72be8 cJx4a65c_add_72be8 4 none, Cond.methodLink RJx4a65c 129 yJx4a65c_grow_d5877, Cond.instanceMethod yJx4a65c_grow_d5877, Cond.selects RJx4a65c yJx4a65c_grow_d5877 yJx4a65c_grow_d5877, Cond.code yJx4a65c_grow_d5877 cJx4a65c_grow_d5877 1 (some (.array (.object "java/lang/Object"))), Cond.methodLink RJx4a65c 69 yJx4a65c_grow_92f84, Cond.instanceMethod yJx4a65c_grow_92f84, Cond.selects RJx4a65c yJx4a65c_grow_92f84 yJx4a65c_grow_92f84, Cond.code yJx4a65c_grow_92f84 cJx4a65c_grow_92f84 4 (some (.array (.object "java/lang/Object"))), Cond.fieldLink RJx4a65c 39 "java/util/ArrayList" "DEFAULTCAPACITY_EMPTY_ELEMENTDATA" "[Ljava/lang/Object;", Cond.methodLink RJx4a65c 79 Lib.Math.max.name, Cond.static Lib.Math.max.name, Cond.code Lib.Math.max.name Lib.Math.max.code 2 (some .int), Cond.classLink RJx4a65c 7 "java/lang/Object", Cond.methodLink RJx4a65c 73 yJ8_newLength_cabcc, Cond.static yJ8_newLength_cabcc, Cond.initialized RJ8, Cond.code yJ8_newLength_cabcc cJ8_newLength_cabcc 4 (some .int), Cond.methodLink RJ8 194 Lib.Math.max.name, Cond.constant RJ8 200 (2147483639), Cond.methodLink RJ8 201 yJ8_hugeLength_7cf53, Cond.static yJ8_hugeLength_7cf53, Cond.code yJ8_hugeLength_7cf53 cJ8_hugeLength_7cf53 3 (some .int), Cond.methodLink RJx4a65c 66 yJ7_copyOf_1904c]
def wsX8_write_r11 : List Cond := [Cond.static yJ7_copyOf_1904c, Cond.code yJ7_copyOf_1904c cJ7_copyOf_1904c 2 (some (.array (.object "java/lang/Object"))), Cond.methodLink RJ7 86 ⟨"java/lang/Object", "getClass", "()Ljava/lang/Class;"⟩, Cond.selects "[Ljava/lang/Object;" ⟨"java/lang/Object", "getClass", "()Ljava/lang/Class;"⟩ ⟨"java/lang/Object", "getClass", "()Ljava/lang/Class;"⟩, Cond.instanceMethod ⟨"java/lang/Object", "getClass", "()Ljava/lang/Class;"⟩, Cond.native ⟨"java/lang/Object", "getClass", "()Ljava/lang/Class;"⟩, Cond.methodLink RJ7 300 yJ7_copyOf_6403c, Cond.static yJ7_copyOf_6403c, Cond.code yJ7_copyOf_6403c cJ7_copyOf_6403c 4 (some (.array (.object "java/lang/Object"))), Cond.classLink RJ7 110 "[Ljava/lang/Object;", Cond.classLink RJ7 2 "java/lang/Object", Cond.methodLink RX8 135 yX8_makeStatement, Cond.instanceMethod yX8_makeStatement, Cond.selects RX8 yX8_makeStatement yX8_makeStatement, Cond.code yX8_makeStatement cX8_makeStatement 6 none, Cond.fieldLink RX8 67 "ForkWatch" "wellDone" "I", Cond.methodLink RX8 180 yX5_countOf, Cond.methodLink RX8 227 yX5_setCount, Cond.instanceMethod yX5_setCount, Cond.selects RX5 yX5_setCount yX5_setCount, Cond.code yX5_setCount cX5_setCount 5 none, Cond.methodLink RX8 93 yX8_sign, Cond.instanceMethod yX8_sign, Cond.selects RX8 yX8_sign yX8_sign]
def wsX8_write_r12 : List Cond := [Cond.code yX8_sign cX8_sign 3 none, Cond.methodLink RX8 231 yX6_copyRoot, Cond.instanceMethod yX6_copyRoot, Cond.selects RX6 yX6_copyRoot yX6_copyRoot, Cond.code yX6_copyRoot cX6_copyRoot 3 none, Cond.methodLink RX6 23 arraycopyName, Cond.methodLink RX8 100 yX5_become, Cond.instanceMethod yX5_become, Cond.selects RX5 yX5_become yX5_become, Cond.code yX5_become cX5_become 2 none, Cond.methodLink RX5 15 arraycopyName]
def wsX8_write : List Cond := .code yX8_write cX8_write 6 (some .int) :: ((wsX8_write_r1 ++ (wsX8_write_r2 ++ (wsX8_write_r3 ++ (wsX8_write_r4 ++ (wsX8_write_r5 ++ (wsX8_write_r6 ++ (wsX8_write_r7 ++ (wsX8_write_r8 ++ (wsX8_write_r9 ++ (wsX8_write_r10 ++ (wsX8_write_r11 ++ wsX8_write_r12))))))))))) ++ wsX80 ++ wsJx4a65c0 ++ wsX70 ++ wsX50 ++ wsX20 ++ wsX40 ++ wsX60 ++ wsX00 ++ wsX10 ++ wsX30)
def wsX8_read_r1 : List Cond := [Cond.fieldLink RX8 30 "ForkWatch" "worlds" "Ljava/util/ArrayList;", Cond.fieldLink RX8 40 "ForkWatch" "shown" "[I", Cond.classLink RX8 73 "ForkWatch$World", Cond.fieldLink RX8 80 "ForkWatch$World" "files" "LForkWatch$Files;", Cond.fieldLink RX8 139 "ForkWatch$Files" "length" "[I", Cond.fieldLink RX8 53 "ForkWatch" "lastReadLength" "I", Cond.fieldLink RX8 144 "ForkWatch$Files" "content" "[I", Cond.fieldLink RX8 50 "ForkWatch" "lastRead" "[I", Cond.methodLink RX8 147 arraycopyName, Cond.native arraycopyName, Cond.static arraycopyName, Cond.initialized "java/lang/System", Cond.fieldLink RX8 59 "ForkWatch" "history" "LForkWatch$History;", Cond.methodLink RX8 108 yX8_isClient, Cond.static yX8_isClient, Cond.initialized RX8, Cond.code yX8_isClient cX8_isClient 1 (some .boolean), Cond.methodLink RX8 112 yX8_isFile, Cond.static yX8_isFile, Cond.code yX8_isFile cX8_isFile 1 (some .boolean), Cond.methodLink RX8 115 yJx4a65c_get_915e3, Cond.instanceMethod yJx4a65c_get_915e3, Cond.selects RJx4a65c yJx4a65c_get_915e3 yJx4a65c_get_915e3, Cond.initialized RJx4a65c]
def wsX8_read_r2 : List Cond := [Cond.code yJx4a65c_get_915e3 cJx4a65c_get_915e3 2 (some (.object "java/lang/Object")), Cond.fieldLink RJx4a65c 48 "java/util/ArrayList" "size" "I", Cond.methodLink RJx4a65c 118 yJ15_checkIndex_7cf53, Cond.static yJ15_checkIndex_7cf53, Cond.initialized RJ15, Cond.code yJ15_checkIndex_7cf53 cJ15_checkIndex_7cf53 2 (some .int), Cond.methodLink RJ15 105 yJ3_checkIndex_8e157, Cond.static yJ3_checkIndex_8e157, Cond.initialized RJ3, Cond.code yJ3_checkIndex_8e157 cJ3_checkIndex_8e157 3 (some .int), Cond.methodLink RJx4a65c 123 yJx4a65c_elementData_915e3, Cond.instanceMethod yJx4a65c_elementData_915e3, Cond.selects RJx4a65c yJx4a65c_elementData_915e3 yJx4a65c_elementData_915e3, Cond.code yJx4a65c_elementData_915e3 cJx4a65c_elementData_915e3 2 (some (.object "java/lang/Object")), Cond.fieldLink RJx4a65c 9 "java/util/ArrayList" "elementData" "[Ljava/lang/Object;", Cond.methodLink RX8 119 yX8_failedCheck, Cond.instanceMethod yX8_failedCheck, Cond.selects RX8 yX8_failedCheck yX8_failedCheck, Cond.code yX8_failedCheck cX8_failedCheck 3 (some .int), Cond.fieldLink RX8 97 "ForkWatch$World" "told" "[LForkWatch$Statement;", Cond.fieldLink RX8 169 "ForkWatch$Statement" "bytes" "[I", Cond.fieldLink RX8 36 "ForkWatch" "remembered" "[LForkWatch$Statement;", Cond.fieldLink RX8 76 "ForkWatch$World" "tree" "LForkWatch$Tree;", Cond.methodLink RX8 207 yX8_areSigned]
def wsX8_read_r3 : List Cond := [Cond.instanceMethod yX8_areSigned, Cond.selects RX8 yX8_areSigned yX8_areSigned, Cond.code yX8_areSigned cX8_areSigned 4 (some .boolean), Cond.fieldLink RX8 19 "ForkWatch" "mac" "LForkWatch$Mac;", Cond.fieldLink RX8 23 "ForkWatch" "digestRow" "[I", Cond.methodLink RX8 195 yX2_make, Cond.instanceMethod yX2_make, Cond.selects RX2 yX2_make yX2_make, Cond.initialized RX2, Cond.code yX2_make cX2_make 5 none, Cond.fieldLink RX2 12 "ForkWatch$Mac" "sha" "LForkWatch$Sha256;", Cond.fieldLink RX2 18 "ForkWatch$Mac" "inside" "[I", Cond.methodLink RX2 22 yX2_startWithKey, Cond.instanceMethod yX2_startWithKey, Cond.selects RX2 yX2_startWithKey yX2_startWithKey, Cond.code yX2_startWithKey cX2_startWithKey 3 none, Cond.methodLink RX2 34 yX4_start, Cond.instanceMethod yX4_start, Cond.selects RX4 yX4_start yX4_start, Cond.initialized RX4, Cond.code yX4_start cX4_start 1 none, Cond.fieldLink RX4 25 "ForkWatch$Sha256" "START" "[I", Cond.fieldLink RX4 9 "ForkWatch$Sha256" "state" "[I", Cond.methodLink RX4 28 arraycopyName]
def wsX8_read_r4 : List Cond := [Cond.fieldLink RX4 18 "ForkWatch$Sha256" "filled" "I", Cond.fieldLink RX4 22 "ForkWatch$Sha256" "taken" "I", Cond.methodLink RX2 37 yX4_take, Cond.instanceMethod yX4_take, Cond.selects RX4 yX4_take yX4_take, Cond.code yX4_take cX4_take 2 none, Cond.fieldLink RX4 15 "ForkWatch$Sha256" "words" "[I", Cond.methodLink RX4 34 yX4_spread, Cond.instanceMethod yX4_spread, Cond.selects RX4 yX4_spread yX4_spread, Cond.code yX4_spread cX4_spread 6 none, Cond.methodLink RX4 37 yX4_mix, Cond.instanceMethod yX4_mix, Cond.selects RX4 yX4_mix yX4_mix, Cond.code yX4_mix cX4_mix 15 none, Cond.fieldLink RX4 46 "ForkWatch$Sha256" "ROUND" "[I", Cond.methodLink RX2 26 yX4_takeRow, Cond.instanceMethod yX4_takeRow, Cond.selects RX4 yX4_takeRow yX4_takeRow, Cond.code yX4_takeRow cX4_takeRow 5 none, Cond.methodLink RX4 40 yX4_take, Cond.methodLink RX2 30 yX4_finish, Cond.instanceMethod yX4_finish, Cond.selects RX4 yX4_finish yX4_finish]
def wsX8_read_r5 : List Cond := [Cond.code yX4_finish cX4_finish 6 none, Cond.constantLong RX4 44 (8), Cond.methodLink RX8 211 yX8_sameRow, Cond.static yX8_sameRow, Cond.code yX8_sameRow cX8_sameRow 6 (some .boolean), Cond.methodLink RX8 215 yX7_isInLine, Cond.instanceMethod yX7_isInLine, Cond.selects RX7 yX7_isInLine yX7_isInLine, Cond.initialized RX7, Cond.code yX7_isInLine cX7_isInLine 3 (some .boolean), Cond.fieldLink RX7 11 "ForkWatch$World" "told" "[LForkWatch$Statement;", Cond.methodLink RX7 56 yX5_isInLineWith, Cond.instanceMethod yX5_isInLineWith, Cond.selects RX5 yX5_isInLineWith yX5_isInLineWith, Cond.initialized RX5, Cond.code yX5_isInLineWith cX5_isInLineWith 2 (some .boolean), Cond.methodLink RX5 25 yX5_isNotAbove, Cond.instanceMethod yX5_isNotAbove, Cond.selects RX5 yX5_isNotAbove yX5_isNotAbove, Cond.code yX5_isNotAbove cX5_isNotAbove 3 (some .boolean), Cond.methodLink RX5 21 yX5_countOf, Cond.instanceMethod yX5_countOf, Cond.selects RX5 yX5_countOf yX5_countOf, Cond.code yX5_countOf cX5_countOf 5 (some .long)]
def wsX8_read_r6 : List Cond := [Cond.fieldLink RX5 9 "ForkWatch$Statement" "bytes" "[I", Cond.methodLink RX8 219 yX7_greatest, Cond.instanceMethod yX7_greatest, Cond.selects RX7 yX7_greatest yX7_greatest, Cond.code yX7_greatest cX7_greatest 3 (some (.object "ForkWatch$Statement")), Cond.methodLink RX7 60 yX5_isNotAbove, Cond.methodLink RX8 223 yX6_hasRoot, Cond.instanceMethod yX6_hasRoot, Cond.selects RX6 yX6_hasRoot yX6_hasRoot, Cond.initialized RX6, Cond.code yX6_hasRoot cX6_hasRoot 3 (some .boolean), Cond.fieldLink RX6 9 "ForkWatch$Tree" "nodes" "[I", Cond.methodLink RX8 123 yX8_stoppedBy, Cond.instanceMethod yX8_stoppedBy, Cond.selects RX8 yX8_stoppedBy yX8_stoppedBy, Cond.code yX8_stoppedBy cX8_stoppedBy 2 (some .int), Cond.fieldLink RX8 70 "ForkWatch" "stopped" "I", Cond.methodLink RX8 131 yX1_note, Cond.instanceMethod yX1_note, Cond.selects RX1 yX1_note yX1_note, Cond.initialized RX1, Cond.code yX1_note cX1_note 6 none, Cond.fieldLink RX1 12 "ForkWatch$History" "operations" "Ljava/util/ArrayList;", Cond.fieldLink RX1 18 "ForkWatch$History" "done" "[I"]
def wsX8_read_r7 : List Cond := [Cond.classLink RX1 33 RX3, Cond.instantiable RX3 5, Cond.initialized RX3, Cond.methodLink RX1 29 yJx4a65c_size_8abf5, Cond.instanceMethod yJx4a65c_size_8abf5, Cond.selects RJx4a65c yJx4a65c_size_8abf5 yJx4a65c_size_8abf5, Cond.code yJx4a65c_size_8abf5 cJx4a65c_size_8abf5 1 (some .int), Cond.methodLink RX1 35 yJ7_copyOf_59c91, Cond.static yJ7_copyOf_59c91, Cond.initialized RJ7, Cond.code yJ7_copyOf_59c91 cJ7_copyOf_59c91 3 (some (.array .int)), Cond.methodLink RJ7 316 ⟨"[I", "clone", "()Ljava/lang/Object;"⟩, Cond.sameMethod "[I" "java/lang/Object" "clone" "()Ljava/lang/Object;", Cond.native ⟨"java/lang/Object", "clone", "()Ljava/lang/Object;"⟩, Cond.instanceMethod ⟨"java/lang/Object", "clone", "()Ljava/lang/Object;"⟩, Cond.selects "[I" ⟨"[I", "clone", "()Ljava/lang/Object;"⟩ ⟨"java/lang/Object", "clone", "()Ljava/lang/Object;"⟩, Cond.classLink RJ7 317 "[I", Cond.arrayClass .int, Cond.methodLink RJ7 304 Lib.Math.min.name, Cond.static Lib.Math.min.name, Cond.initialized "java/lang/Math", Cond.code Lib.Math.min.name Lib.Math.min.code 2 (some .int), Cond.methodLink RJ7 150 arraycopyName, Cond.methodLink RX1 41 yX3_init]
def wsX8_read_r8 : List Cond := [Cond.instanceMethod yX3_init, Cond.code yX3_init cX3_init 6 none, Cond.methodLink RX3 1 objectInit, Cond.instanceMethod objectInit, Cond.code objectInit ⟨#[0xb1]⟩ 1 none, Cond.fieldLink RX3 7 "ForkWatch$Operation" "writes" "Z", Cond.fieldLink RX3 13 "ForkWatch$Operation" "client" "I", Cond.fieldLink RX3 17 "ForkWatch$Operation" "number" "I", Cond.fieldLink RX3 20 "ForkWatch$Operation" "file" "I", Cond.fieldLink RX3 23 "ForkWatch$Operation" "content" "[I", Cond.methodLink RX1 44 yJx4a65c_add_9ea2d, Cond.instanceMethod yJx4a65c_add_9ea2d, Cond.selects RJx4a65c yJx4a65c_add_9ea2d yJx4a65c_add_9ea2d, Cond.code yJx4a65c_add_9ea2d cJx4a65c_add_9ea2d 2 (some .boolean), Cond.fieldLink RJx4a65c 63 "java/util/ArrayList" "modCount" "I", Cond.sameField "java/util/ArrayList" "java/util/AbstractList" "modCount" "I", Cond.methodLink RJx4a65c 131 yJx4a65c_add_72be8, Cond.instanceMethod yJx4a65c_add_72be8, Cond.selects RJx4a65c yJx4a65c_add_72be8 yJx4a65c_add_72be8, Cond.code yJx4a65c_add_72be8 cJx4a65c_add_72be8 4 none, Cond.methodLink RJx4a65c 129 yJx4a65c_grow_d5877, Cond.instanceMethod yJx4a65c_grow_d5877, Cond.selects RJx4a65c yJx4a65c_grow_d5877 yJx4a65c_grow_d5877, Cond.code yJx4a65c_grow_d5877 cJx4a65c_grow_d5877 1 (some (.array (.object "java/lang/Object")))]
def wsX8_read_r9 : List Cond := [Cond.methodLink RJx4a65c 69 yJx4a65c_grow_92f84, Cond.instanceMethod yJx4a65c_grow_92f84, Cond.selects RJx4a65c yJx4a65c_grow_92f84 yJx4a65c_grow_92f84, Cond.code yJx4a65c_grow_92f84 cJx4a65c_grow_92f84 4 (some (.array (.object "java/lang/Object"))), Cond.fieldLink RJx4a65c 39 "java/util/ArrayList" "DEFAULTCAPACITY_EMPTY_ELEMENTDATA" "[Ljava/lang/Object;", Cond.methodLink RJx4a65c 79 Lib.Math.max.name, Cond.static Lib.Math.max.name, Cond.code Lib.Math.max.name Lib.Math.max.code 2 (some .int), Cond.classLink RJx4a65c 7 "java/lang/Object", Cond.methodLink RJx4a65c 73 yJ8_newLength_cabcc, Cond.static yJ8_newLength_cabcc, Cond.initialized RJ8, Cond.code yJ8_newLength_cabcc cJ8_newLength_cabcc 4 (some .int), Cond.methodLink RJ8 194 Lib.Math.max.name, Cond.constant RJ8 200 (2147483639), Cond.methodLink RJ8 201 yJ8_hugeLength_7cf53, Cond.static yJ8_hugeLength_7cf53, Cond.code yJ8_hugeLength_7cf53 cJ8_hugeLength_7cf53 3 (some .int), Cond.methodLink RJx4a65c 66 yJ7_copyOf_1904c, Cond.static yJ7_copyOf_1904c, Cond.code yJ7_copyOf_1904c cJ7_copyOf_1904c 2 (some (.array (.object "java/lang/Object"))), Cond.methodLink RJ7 86 ⟨"java/lang/Object", "getClass", "()Ljava/lang/Class;"⟩, Cond.selects "[Ljava/lang/Object;" ⟨"java/lang/Object", "getClass", "()Ljava/lang/Class;"⟩ ⟨"java/lang/Object", "getClass", "()Ljava/lang/Class;"⟩, Cond.instanceMethod ⟨"java/lang/Object", "getClass", "()Ljava/lang/Class;"⟩]
def wsX8_read_r10 : List Cond := [Cond.native ⟨"java/lang/Object", "getClass", "()Ljava/lang/Class;"⟩, Cond.methodLink RJ7 300 yJ7_copyOf_6403c, Cond.static yJ7_copyOf_6403c, Cond.code yJ7_copyOf_6403c cJ7_copyOf_6403c 4 (some (.array (.object "java/lang/Object"))), Cond.classLink RJ7 110 "[Ljava/lang/Object;", Cond.classLink RJ7 2 "java/lang/Object", Cond.methodLink RX8 135 yX8_makeStatement, Cond.instanceMethod yX8_makeStatement, Cond.selects RX8 yX8_makeStatement yX8_makeStatement, Cond.code yX8_makeStatement cX8_makeStatement 6 none, Cond.fieldLink RX8 67 "ForkWatch" "wellDone" "I", Cond.methodLink RX8 180 yX5_countOf, Cond.methodLink RX8 227 yX5_setCount, Cond.instanceMethod yX5_setCount, Cond.selects RX5 yX5_setCount yX5_setCount, Cond.code yX5_setCount cX5_setCount 5 none, Cond.methodLink RX8 93 yX8_sign, Cond.instanceMethod yX8_sign, Cond.selects RX8 yX8_sign yX8_sign, Cond.code yX8_sign cX8_sign 3 none, Cond.methodLink RX8 231 yX6_copyRoot, Cond.instanceMethod yX6_copyRoot, Cond.selects RX6 yX6_copyRoot yX6_copyRoot, Cond.code yX6_copyRoot cX6_copyRoot 3 none]
def wsX8_read_r11 : List Cond := [Cond.methodLink RX6 23 arraycopyName, Cond.methodLink RX8 100 yX5_become, Cond.instanceMethod yX5_become, Cond.selects RX5 yX5_become yX5_become, Cond.code yX5_become cX5_become 2 none, Cond.methodLink RX5 15 arraycopyName]
def wsX8_read : List Cond := .code yX8_read cX8_read 5 (some .int) :: ((wsX8_read_r1 ++ (wsX8_read_r2 ++ (wsX8_read_r3 ++ (wsX8_read_r4 ++ (wsX8_read_r5 ++ (wsX8_read_r6 ++ (wsX8_read_r7 ++ (wsX8_read_r8 ++ (wsX8_read_r9 ++ (wsX8_read_r10 ++ wsX8_read_r11)))))))))) ++ wsX80 ++ wsX70 ++ wsX00 ++ wsJx4a65c0 ++ wsX50 ++ wsX20 ++ wsX40 ++ wsX60 ++ wsX10 ++ wsX30)
def wsX8_got : List Cond := .code yX8_got cX8_got 2 (some .int) :: ([.fieldLink RX8 53 "ForkWatch" "lastReadLength" "I", .fieldLink RX8 50 "ForkWatch" "lastRead" "[I"] ++ wsX80)
def wsX8_isWorld : List Cond := .code yX8_isWorld cX8_isWorld 2 (some .boolean) :: ([.fieldLink RX8 30 "ForkWatch" "worlds" "Ljava/util/ArrayList;", .methodLink RX8 156 yJx4a65c_size_8abf5, .instanceMethod yJx4a65c_size_8abf5, .selects RJx4a65c yJx4a65c_size_8abf5 yJx4a65c_size_8abf5, .initialized RJx4a65c, .code yJx4a65c_size_8abf5 cJx4a65c_size_8abf5 1 (some .int), .fieldLink RJx4a65c 48 "java/util/ArrayList" "size" "I"] ++ wsX80 ++ wsJx4a65c0)
def wsX8_split_r1 : List Cond := [Cond.fieldLink RX8 30 "ForkWatch" "worlds" "Ljava/util/ArrayList;", Cond.classLink RX8 73 RX7, Cond.instantiable RX7 3, Cond.initialized RX7, Cond.classLink RX8 73 "ForkWatch$World", Cond.methodLink RX8 153 yX8_isWorld, Cond.instanceMethod yX8_isWorld, Cond.selects RX8 yX8_isWorld yX8_isWorld, Cond.initialized RX8, Cond.code yX8_isWorld cX8_isWorld 2 (some .boolean), Cond.methodLink RX8 156 yJx4a65c_size_8abf5, Cond.instanceMethod yJx4a65c_size_8abf5, Cond.selects RJx4a65c yJx4a65c_size_8abf5 yJx4a65c_size_8abf5, Cond.initialized RJx4a65c, Cond.code yJx4a65c_size_8abf5 cJx4a65c_size_8abf5 1 (some .int), Cond.fieldLink RJx4a65c 48 "java/util/ArrayList" "size" "I", Cond.methodLink RX8 75 yX7_init, Cond.instanceMethod yX7_init, Cond.code yX7_init cX7_init 2 none, Cond.methodLink RX7 3 objectInit, Cond.instanceMethod objectInit, Cond.code objectInit ⟨#[0xb1]⟩ 1 none, Cond.classLink RX7 9 RX5, Cond.fieldLink RX7 11 "ForkWatch$World" "told" "[LForkWatch$Statement;"]
def wsX8_split_r2 : List Cond := [Cond.classLink RX7 17 RX0, Cond.instantiable RX0 2, Cond.initialized RX0, Cond.fieldLink RX7 20 "ForkWatch$World" "files" "LForkWatch$Files;", Cond.classLink RX7 24 RX6, Cond.instantiable RX6 1, Cond.initialized RX6, Cond.fieldLink RX7 27 "ForkWatch$World" "tree" "LForkWatch$Tree;", Cond.instantiable RX5 1, Cond.initialized RX5, Cond.instanceMethod yX0_init, Cond.code yX0_init cX0_init 1 none, Cond.methodLink RX0 3 objectInit, Cond.arrayClass .int, Cond.fieldLink RX0 9 "ForkWatch$Files" "content" "[I", Cond.fieldLink RX0 15 "ForkWatch$Files" "length" "[I", Cond.instanceMethod yX6_init, Cond.code yX6_init cX6_init 1 none, Cond.methodLink RX6 3 objectInit, Cond.fieldLink RX6 9 "ForkWatch$Tree" "nodes" "[I", Cond.methodLink RX7 31 yX5_init, Cond.instanceMethod yX5_init, Cond.code yX5_init cX5_init 2 none, Cond.methodLink RX5 3 objectInit]
def wsX8_split_r3 : List Cond := [Cond.fieldLink RX5 9 "ForkWatch$Statement" "bytes" "[I", Cond.methodLink RX8 115 yJx4a65c_get_915e3, Cond.instanceMethod yJx4a65c_get_915e3, Cond.selects RJx4a65c yJx4a65c_get_915e3 yJx4a65c_get_915e3, Cond.code yJx4a65c_get_915e3 cJx4a65c_get_915e3 2 (some (.object "java/lang/Object")), Cond.methodLink RJx4a65c 118 yJ15_checkIndex_7cf53, Cond.static yJ15_checkIndex_7cf53, Cond.initialized RJ15, Cond.code yJ15_checkIndex_7cf53 cJ15_checkIndex_7cf53 2 (some .int), Cond.methodLink RJ15 105 yJ3_checkIndex_8e157, Cond.static yJ3_checkIndex_8e157, Cond.initialized RJ3, Cond.code yJ3_checkIndex_8e157 cJ3_checkIndex_8e157 3 (some .int), Cond.methodLink RJx4a65c 123 yJx4a65c_elementData_915e3, Cond.instanceMethod yJx4a65c_elementData_915e3, Cond.selects RJx4a65c yJx4a65c_elementData_915e3 yJx4a65c_elementData_915e3, Cond.code yJx4a65c_elementData_915e3 cJx4a65c_elementData_915e3 2 (some (.object "java/lang/Object")), Cond.fieldLink RJx4a65c 9 "java/util/ArrayList" "elementData" "[Ljava/lang/Object;", Cond.methodLink RX8 160 yX7_become, Cond.instanceMethod yX7_become, Cond.selects RX7 yX7_become yX7_become, Cond.code yX7_become cX7_become 3 none, Cond.methodLink RX7 34 yX5_become, Cond.instanceMethod yX5_become]
def wsX8_split_r4 : List Cond := [Cond.selects RX5 yX5_become yX5_become, Cond.code yX5_become cX5_become 2 none, Cond.methodLink RX5 15 arraycopyName, Cond.native arraycopyName, Cond.static arraycopyName, Cond.initialized "java/lang/System", Cond.methodLink RX7 38 yX0_become, Cond.instanceMethod yX0_become, Cond.selects RX0 yX0_become yX0_become, Cond.code yX0_become cX0_become 2 none, Cond.methodLink RX0 18 arraycopyName, Cond.methodLink RX7 41 yX6_become, Cond.instanceMethod yX6_become, Cond.selects RX6 yX6_become yX6_become, Cond.code yX6_become cX6_become 2 none, Cond.methodLink RX6 23 arraycopyName, Cond.methodLink RX8 104 yJx4a65c_add_9ea2d, Cond.instanceMethod yJx4a65c_add_9ea2d, Cond.selects RJx4a65c yJx4a65c_add_9ea2d yJx4a65c_add_9ea2d, Cond.code yJx4a65c_add_9ea2d cJx4a65c_add_9ea2d 2 (some .boolean), Cond.fieldLink RJx4a65c 63 "java/util/ArrayList" "modCount" "I", Cond.sameField "java/util/ArrayList" "java/util/AbstractList" "modCount" "I", Cond.methodLink RJx4a65c 131 yJx4a65c_add_72be8, Cond.instanceMethod yJx4a65c_add_72be8]
def wsX8_split_r5 : List Cond := [Cond.selects RJx4a65c yJx4a65c_add_72be8 yJx4a65c_add_72be8, Cond.code yJx4a65c_add_72be8 cJx4a65c_add_72be8 4 none, Cond.methodLink RJx4a65c 129 yJx4a65c_grow_d5877, Cond.instanceMethod yJx4a65c_grow_d5877, Cond.selects RJx4a65c yJx4a65c_grow_d5877 yJx4a65c_grow_d5877, Cond.code yJx4a65c_grow_d5877 cJx4a65c_grow_d5877 1 (some (.array (.object "java/lang/Object"))), Cond.methodLink RJx4a65c 69 yJx4a65c_grow_92f84, Cond.instanceMethod yJx4a65c_grow_92f84, Cond.selects RJx4a65c yJx4a65c_grow_92f84 yJx4a65c_grow_92f84, Cond.code yJx4a65c_grow_92f84 cJx4a65c_grow_92f84 4 (some (.array (.object "java/lang/Object"))), Cond.fieldLink RJx4a65c 39 "java/util/ArrayList" "DEFAULTCAPACITY_EMPTY_ELEMENTDATA" "[Ljava/lang/Object;", Cond.methodLink RJx4a65c 79 Lib.Math.max.name, Cond.static Lib.Math.max.name, Cond.initialized "java/lang/Math", Cond.code Lib.Math.max.name Lib.Math.max.code 2 (some .int), Cond.classLink RJx4a65c 7 "java/lang/Object", Cond.methodLink RJx4a65c 73 yJ8_newLength_cabcc, Cond.static yJ8_newLength_cabcc, Cond.initialized RJ8, Cond.code yJ8_newLength_cabcc cJ8_newLength_cabcc 4 (some .int), Cond.methodLink RJ8 194 Lib.Math.max.name, Cond.constant RJ8 200 (2147483639), Cond.methodLink RJ8 201 yJ8_hugeLength_7cf53, Cond.static yJ8_hugeLength_7cf53]
def wsX8_split_r6 : List Cond := [Cond.code yJ8_hugeLength_7cf53 cJ8_hugeLength_7cf53 3 (some .int), Cond.methodLink RJx4a65c 66 yJ7_copyOf_1904c, Cond.static yJ7_copyOf_1904c, Cond.initialized RJ7, Cond.code yJ7_copyOf_1904c cJ7_copyOf_1904c 2 (some (.array (.object "java/lang/Object"))), Cond.methodLink RJ7 86 ⟨"java/lang/Object", "getClass", "()Ljava/lang/Class;"⟩, Cond.selects "[Ljava/lang/Object;" ⟨"java/lang/Object", "getClass", "()Ljava/lang/Class;"⟩ ⟨"java/lang/Object", "getClass", "()Ljava/lang/Class;"⟩, Cond.instanceMethod ⟨"java/lang/Object", "getClass", "()Ljava/lang/Class;"⟩, Cond.native ⟨"java/lang/Object", "getClass", "()Ljava/lang/Class;"⟩, Cond.methodLink RJ7 300 yJ7_copyOf_6403c, Cond.static yJ7_copyOf_6403c, Cond.code yJ7_copyOf_6403c cJ7_copyOf_6403c 4 (some (.array (.object "java/lang/Object"))), Cond.classLink RJ7 110 "[Ljava/lang/Object;", Cond.classLink RJ7 2 "java/lang/Object", Cond.methodLink RJ7 304 Lib.Math.min.name, Cond.static Lib.Math.min.name, Cond.code Lib.Math.min.name Lib.Math.min.code 2 (some .int), Cond.methodLink RJ7 150 arraycopyName]
def wsX8_split : List Cond := .code yX8_split cX8_split 3 (some .int) :: ((wsX8_split_r1 ++ (wsX8_split_r2 ++ (wsX8_split_r3 ++ (wsX8_split_r4 ++ (wsX8_split_r5 ++ wsX8_split_r6))))) ++ wsX80 ++ wsX70 ++ wsJx4a65c0 ++ wsX00 ++ wsX60 ++ wsX50)
def wsX8_show : List Cond := .code yX8_show cX8_show 4 (some .int) :: ([.fieldLink RX8 40 "ForkWatch" "shown" "[I", .methodLink RX8 108 yX8_isClient, .static yX8_isClient, .initialized RX8, .code yX8_isClient cX8_isClient 1 (some .boolean), .methodLink RX8 153 yX8_isWorld, .instanceMethod yX8_isWorld, .selects RX8 yX8_isWorld yX8_isWorld, .code yX8_isWorld cX8_isWorld 2 (some .boolean), .fieldLink RX8 30 "ForkWatch" "worlds" "Ljava/util/ArrayList;", .methodLink RX8 156 yJx4a65c_size_8abf5, .instanceMethod yJx4a65c_size_8abf5, .selects RJx4a65c yJx4a65c_size_8abf5 yJx4a65c_size_8abf5, .initialized RJx4a65c, .code yJx4a65c_size_8abf5 cJx4a65c_size_8abf5 1 (some .int), .fieldLink RJx4a65c 48 "java/util/ArrayList" "size" "I"] ++ wsX80 ++ wsJx4a65c0)
def wsX8_graft_r1 : List Cond := [Cond.fieldLink RX8 30 "ForkWatch" "worlds" "Ljava/util/ArrayList;", Cond.classLink RX8 73 "ForkWatch$World", Cond.fieldLink RX8 97 "ForkWatch$World" "told" "[LForkWatch$Statement;", Cond.fieldLink RX8 63 "ForkWatch" "changed" "Z", Cond.methodLink RX8 153 yX8_isWorld, Cond.instanceMethod yX8_isWorld, Cond.selects RX8 yX8_isWorld yX8_isWorld, Cond.initialized RX8, Cond.code yX8_isWorld cX8_isWorld 2 (some .boolean), Cond.methodLink RX8 156 yJx4a65c_size_8abf5, Cond.instanceMethod yJx4a65c_size_8abf5, Cond.selects RJx4a65c yJx4a65c_size_8abf5 yJx4a65c_size_8abf5, Cond.initialized RJx4a65c, Cond.code yJx4a65c_size_8abf5 cJx4a65c_size_8abf5 1 (some .int), Cond.fieldLink RJx4a65c 48 "java/util/ArrayList" "size" "I", Cond.methodLink RX8 108 yX8_isClient, Cond.static yX8_isClient, Cond.code yX8_isClient cX8_isClient 1 (some .boolean), Cond.methodLink RX8 115 yJx4a65c_get_915e3, Cond.instanceMethod yJx4a65c_get_915e3, Cond.selects RJx4a65c yJx4a65c_get_915e3 yJx4a65c_get_915e3, Cond.code yJx4a65c_get_915e3 cJx4a65c_get_915e3 2 (some (.object "java/lang/Object")), Cond.methodLink RJx4a65c 118 yJ15_checkIndex_7cf53, Cond.static yJ15_checkIndex_7cf53]
def wsX8_graft_r2 : List Cond := [Cond.initialized RJ15, Cond.code yJ15_checkIndex_7cf53 cJ15_checkIndex_7cf53 2 (some .int), Cond.methodLink RJ15 105 yJ3_checkIndex_8e157, Cond.static yJ3_checkIndex_8e157, Cond.initialized RJ3, Cond.code yJ3_checkIndex_8e157 cJ3_checkIndex_8e157 3 (some .int), Cond.methodLink RJx4a65c 123 yJx4a65c_elementData_915e3, Cond.instanceMethod yJx4a65c_elementData_915e3, Cond.selects RJx4a65c yJx4a65c_elementData_915e3 yJx4a65c_elementData_915e3, Cond.code yJx4a65c_elementData_915e3 cJx4a65c_elementData_915e3 2 (some (.object "java/lang/Object")), Cond.fieldLink RJx4a65c 9 "java/util/ArrayList" "elementData" "[Ljava/lang/Object;", Cond.methodLink RX8 100 yX5_become, Cond.instanceMethod yX5_become, Cond.selects RX5 yX5_become yX5_become, Cond.initialized RX5, Cond.code yX5_become cX5_become 2 none, Cond.fieldLink RX5 9 "ForkWatch$Statement" "bytes" "[I", Cond.methodLink RX5 15 arraycopyName, Cond.native arraycopyName, Cond.static arraycopyName, Cond.initialized "java/lang/System"]
def wsX8_graft : List Cond := .code yX8_graft cX8_graft 4 (some .boolean) :: ((wsX8_graft_r1 ++ wsX8_graft_r2) ++ wsX80 ++ wsX70 ++ wsJx4a65c0 ++ wsX50)
def wsX8_isStatementByte : List Cond := .code yX8_isStatementByte cX8_isStatementByte 1 (some .boolean) :: ([])
def wsX8_isMask : List Cond := .code yX8_isMask cX8_isMask 1 (some .boolean) :: ([])
def wsX8_poke_r1 : List Cond := [Cond.fieldLink RX8 30 "ForkWatch" "worlds" "Ljava/util/ArrayList;", Cond.classLink RX8 73 "ForkWatch$World", Cond.fieldLink RX8 97 "ForkWatch$World" "told" "[LForkWatch$Statement;", Cond.fieldLink RX8 169 "ForkWatch$Statement" "bytes" "[I", Cond.fieldLink RX8 63 "ForkWatch" "changed" "Z", Cond.methodLink RX8 153 yX8_isWorld, Cond.instanceMethod yX8_isWorld, Cond.selects RX8 yX8_isWorld yX8_isWorld, Cond.initialized RX8, Cond.code yX8_isWorld cX8_isWorld 2 (some .boolean), Cond.methodLink RX8 156 yJx4a65c_size_8abf5, Cond.instanceMethod yJx4a65c_size_8abf5, Cond.selects RJx4a65c yJx4a65c_size_8abf5 yJx4a65c_size_8abf5, Cond.initialized RJx4a65c, Cond.code yJx4a65c_size_8abf5 cJx4a65c_size_8abf5 1 (some .int), Cond.fieldLink RJx4a65c 48 "java/util/ArrayList" "size" "I", Cond.methodLink RX8 108 yX8_isClient, Cond.static yX8_isClient, Cond.code yX8_isClient cX8_isClient 1 (some .boolean), Cond.methodLink RX8 163 yX8_isStatementByte, Cond.static yX8_isStatementByte, Cond.code yX8_isStatementByte cX8_isStatementByte 1 (some .boolean), Cond.methodLink RX8 166 yX8_isMask, Cond.static yX8_isMask]
def wsX8_poke_r2 : List Cond := [Cond.code yX8_isMask cX8_isMask 1 (some .boolean), Cond.methodLink RX8 115 yJx4a65c_get_915e3, Cond.instanceMethod yJx4a65c_get_915e3, Cond.selects RJx4a65c yJx4a65c_get_915e3 yJx4a65c_get_915e3, Cond.code yJx4a65c_get_915e3 cJx4a65c_get_915e3 2 (some (.object "java/lang/Object")), Cond.methodLink RJx4a65c 118 yJ15_checkIndex_7cf53, Cond.static yJ15_checkIndex_7cf53, Cond.initialized RJ15, Cond.code yJ15_checkIndex_7cf53 cJ15_checkIndex_7cf53 2 (some .int), Cond.methodLink RJ15 105 yJ3_checkIndex_8e157, Cond.static yJ3_checkIndex_8e157, Cond.initialized RJ3, Cond.code yJ3_checkIndex_8e157 cJ3_checkIndex_8e157 3 (some .int), Cond.methodLink RJx4a65c 123 yJx4a65c_elementData_915e3, Cond.instanceMethod yJx4a65c_elementData_915e3, Cond.selects RJx4a65c yJx4a65c_elementData_915e3 yJx4a65c_elementData_915e3, Cond.code yJx4a65c_elementData_915e3 cJx4a65c_elementData_915e3 2 (some (.object "java/lang/Object")), Cond.fieldLink RJx4a65c 9 "java/util/ArrayList" "elementData" "[Ljava/lang/Object;"]
def wsX8_poke : List Cond := .code yX8_poke cX8_poke 5 (some .boolean) :: ((wsX8_poke_r1 ++ wsX8_poke_r2) ++ wsX80 ++ wsX70 ++ wsX50 ++ wsJx4a65c0)
def wsX8_spoil_r1 : List Cond := [Cond.fieldLink RX8 30 "ForkWatch" "worlds" "Ljava/util/ArrayList;", Cond.classLink RX8 73 "ForkWatch$World", Cond.fieldLink RX8 80 "ForkWatch$World" "files" "LForkWatch$Files;", Cond.fieldLink RX8 139 "ForkWatch$Files" "length" "[I", Cond.fieldLink RX8 10 "ForkWatch" "sha" "LForkWatch$Sha256;", Cond.fieldLink RX8 63 "ForkWatch" "changed" "Z", Cond.methodLink RX8 153 yX8_isWorld, Cond.instanceMethod yX8_isWorld, Cond.selects RX8 yX8_isWorld yX8_isWorld, Cond.initialized RX8, Cond.code yX8_isWorld cX8_isWorld 2 (some .boolean), Cond.methodLink RX8 156 yJx4a65c_size_8abf5, Cond.instanceMethod yJx4a65c_size_8abf5, Cond.selects RJx4a65c yJx4a65c_size_8abf5 yJx4a65c_size_8abf5, Cond.initialized RJx4a65c, Cond.code yJx4a65c_size_8abf5 cJx4a65c_size_8abf5 1 (some .int), Cond.fieldLink RJx4a65c 48 "java/util/ArrayList" "size" "I", Cond.methodLink RX8 112 yX8_isFile, Cond.static yX8_isFile, Cond.code yX8_isFile cX8_isFile 1 (some .boolean), Cond.methodLink RX8 166 yX8_isMask, Cond.static yX8_isMask, Cond.code yX8_isMask cX8_isMask 1 (some .boolean), Cond.methodLink RX8 115 yJx4a65c_get_915e3]
def wsX8_spoil_r2 : List Cond := [Cond.instanceMethod yJx4a65c_get_915e3, Cond.selects RJx4a65c yJx4a65c_get_915e3 yJx4a65c_get_915e3, Cond.code yJx4a65c_get_915e3 cJx4a65c_get_915e3 2 (some (.object "java/lang/Object")), Cond.methodLink RJx4a65c 118 yJ15_checkIndex_7cf53, Cond.static yJ15_checkIndex_7cf53, Cond.initialized RJ15, Cond.code yJ15_checkIndex_7cf53 cJ15_checkIndex_7cf53 2 (some .int), Cond.methodLink RJ15 105 yJ3_checkIndex_8e157, Cond.static yJ3_checkIndex_8e157, Cond.initialized RJ3, Cond.code yJ3_checkIndex_8e157 cJ3_checkIndex_8e157 3 (some .int), Cond.methodLink RJx4a65c 123 yJx4a65c_elementData_915e3, Cond.instanceMethod yJx4a65c_elementData_915e3, Cond.selects RJx4a65c yJx4a65c_elementData_915e3 yJx4a65c_elementData_915e3, Cond.code yJx4a65c_elementData_915e3 cJx4a65c_elementData_915e3 2 (some (.object "java/lang/Object")), Cond.fieldLink RJx4a65c 9 "java/util/ArrayList" "elementData" "[Ljava/lang/Object;", Cond.methodLink RX8 172 yX7_flip, Cond.instanceMethod yX7_flip, Cond.selects RX7 yX7_flip yX7_flip, Cond.initialized RX7, Cond.code yX7_flip cX7_flip 5 none, Cond.fieldLink RX7 20 "ForkWatch$World" "files" "LForkWatch$Files;", Cond.fieldLink RX7 52 "ForkWatch$Files" "content" "[I", Cond.fieldLink RX7 27 "ForkWatch$World" "tree" "LForkWatch$Tree;"]
def wsX8_spoil_r3 : List Cond := [Cond.methodLink RX7 48 yX6_refresh, Cond.instanceMethod yX6_refresh, Cond.selects RX6 yX6_refresh yX6_refresh, Cond.initialized RX6, Cond.code yX6_refresh cX6_refresh 5 none, Cond.methodLink RX6 15 yX6_setLeaf, Cond.instanceMethod yX6_setLeaf, Cond.selects RX6 yX6_setLeaf yX6_setLeaf, Cond.code yX6_setLeaf cX6_setLeaf 4 none, Cond.fieldLink RX6 42 "ForkWatch$Files" "length" "[I", Cond.fieldLink RX6 47 "ForkWatch$Files" "content" "[I", Cond.fieldLink RX6 9 "ForkWatch$Tree" "nodes" "[I", Cond.methodLink RX6 33 yX4_start, Cond.instanceMethod yX4_start, Cond.selects RX4 yX4_start yX4_start, Cond.initialized RX4, Cond.code yX4_start cX4_start 1 none, Cond.fieldLink RX4 25 "ForkWatch$Sha256" "START" "[I", Cond.fieldLink RX4 9 "ForkWatch$Sha256" "state" "[I", Cond.methodLink RX4 28 arraycopyName, Cond.native arraycopyName, Cond.static arraycopyName, Cond.initialized "java/lang/System", Cond.fieldLink RX4 18 "ForkWatch$Sha256" "filled" "I"]
def wsX8_spoil_r4 : List Cond := [Cond.fieldLink RX4 22 "ForkWatch$Sha256" "taken" "I", Cond.methodLink RX6 38 yX4_take, Cond.instanceMethod yX4_take, Cond.selects RX4 yX4_take yX4_take, Cond.code yX4_take cX4_take 2 none, Cond.fieldLink RX4 15 "ForkWatch$Sha256" "words" "[I", Cond.methodLink RX4 34 yX4_spread, Cond.instanceMethod yX4_spread, Cond.selects RX4 yX4_spread yX4_spread, Cond.code yX4_spread cX4_spread 6 none, Cond.methodLink RX4 37 yX4_mix, Cond.instanceMethod yX4_mix, Cond.selects RX4 yX4_mix yX4_mix, Cond.code yX4_mix cX4_mix 15 none, Cond.fieldLink RX4 46 "ForkWatch$Sha256" "ROUND" "[I", Cond.methodLink RX6 50 yX4_takeRow, Cond.instanceMethod yX4_takeRow, Cond.selects RX4 yX4_takeRow yX4_takeRow, Cond.code yX4_takeRow cX4_takeRow 5 none, Cond.methodLink RX4 40 yX4_take, Cond.methodLink RX6 54 yX4_finish, Cond.instanceMethod yX4_finish, Cond.selects RX4 yX4_finish yX4_finish, Cond.code yX4_finish cX4_finish 6 none]
def wsX8_spoil_r5 : List Cond := [Cond.constantLong RX4 44 (8), Cond.methodLink RX6 19 yX6_setNode, Cond.instanceMethod yX6_setNode, Cond.selects RX6 yX6_setNode yX6_setNode, Cond.code yX6_setNode cX6_setNode 3 none]
def wsX8_spoil : List Cond := .code yX8_spoil cX8_spoil 6 (some .boolean) :: ((wsX8_spoil_r1 ++ (wsX8_spoil_r2 ++ (wsX8_spoil_r3 ++ (wsX8_spoil_r4 ++ wsX8_spoil_r5)))) ++ wsX80 ++ wsX70 ++ wsX00 ++ wsJx4a65c0 ++ wsX60 ++ wsX40)
def wsX8_exchange : List Cond := .code yX8_exchange cX8_exchange 3 (some .int) :: ([.fieldLink RX8 36 "ForkWatch" "remembered" "[LForkWatch$Statement;", .methodLink RX8 108 yX8_isClient, .static yX8_isClient, .initialized RX8, .code yX8_isClient cX8_isClient 1 (some .boolean), .methodLink RX8 176 yX5_isInLineWith, .instanceMethod yX5_isInLineWith, .selects RX5 yX5_isInLineWith yX5_isInLineWith, .initialized RX5, .code yX5_isInLineWith cX5_isInLineWith 2 (some .boolean), .methodLink RX5 25 yX5_isNotAbove, .instanceMethod yX5_isNotAbove, .selects RX5 yX5_isNotAbove yX5_isNotAbove, .code yX5_isNotAbove cX5_isNotAbove 3 (some .boolean), .methodLink RX5 21 yX5_countOf, .instanceMethod yX5_countOf, .selects RX5 yX5_countOf yX5_countOf, .code yX5_countOf cX5_countOf 5 (some .long), .fieldLink RX5 9 "ForkWatch$Statement" "bytes" "[I"] ++ wsX80 ++ wsX50)
def wsX8_statement_r1 : List Cond := [Cond.fieldLink RX8 36 "ForkWatch" "remembered" "[LForkWatch$Statement;", Cond.fieldLink RX8 169 "ForkWatch$Statement" "bytes" "[I", Cond.fieldLink RX8 30 "ForkWatch" "worlds" "Ljava/util/ArrayList;", Cond.classLink RX8 73 "ForkWatch$World", Cond.fieldLink RX8 97 "ForkWatch$World" "told" "[LForkWatch$Statement;", Cond.methodLink RX8 108 yX8_isClient, Cond.static yX8_isClient, Cond.initialized RX8, Cond.code yX8_isClient cX8_isClient 1 (some .boolean), Cond.methodLink RX8 163 yX8_isStatementByte, Cond.static yX8_isStatementByte, Cond.code yX8_isStatementByte cX8_isStatementByte 1 (some .boolean), Cond.methodLink RX8 153 yX8_isWorld, Cond.instanceMethod yX8_isWorld, Cond.selects RX8 yX8_isWorld yX8_isWorld, Cond.code yX8_isWorld cX8_isWorld 2 (some .boolean), Cond.methodLink RX8 156 yJx4a65c_size_8abf5, Cond.instanceMethod yJx4a65c_size_8abf5, Cond.selects RJx4a65c yJx4a65c_size_8abf5 yJx4a65c_size_8abf5, Cond.initialized RJx4a65c, Cond.code yJx4a65c_size_8abf5 cJx4a65c_size_8abf5 1 (some .int), Cond.fieldLink RJx4a65c 48 "java/util/ArrayList" "size" "I", Cond.methodLink RX8 115 yJx4a65c_get_915e3, Cond.instanceMethod yJx4a65c_get_915e3]
def wsX8_statement_r2 : List Cond := [Cond.selects RJx4a65c yJx4a65c_get_915e3 yJx4a65c_get_915e3, Cond.code yJx4a65c_get_915e3 cJx4a65c_get_915e3 2 (some (.object "java/lang/Object")), Cond.methodLink RJx4a65c 118 yJ15_checkIndex_7cf53, Cond.static yJ15_checkIndex_7cf53, Cond.initialized RJ15, Cond.code yJ15_checkIndex_7cf53 cJ15_checkIndex_7cf53 2 (some .int), Cond.methodLink RJ15 105 yJ3_checkIndex_8e157, Cond.static yJ3_checkIndex_8e157, Cond.initialized RJ3, Cond.code yJ3_checkIndex_8e157 cJ3_checkIndex_8e157 3 (some .int), Cond.methodLink RJx4a65c 123 yJx4a65c_elementData_915e3, Cond.instanceMethod yJx4a65c_elementData_915e3, Cond.selects RJx4a65c yJx4a65c_elementData_915e3 yJx4a65c_elementData_915e3, Cond.code yJx4a65c_elementData_915e3 cJx4a65c_elementData_915e3 2 (some (.object "java/lang/Object")), Cond.fieldLink RJx4a65c 9 "java/util/ArrayList" "elementData" "[Ljava/lang/Object;"]
def wsX8_statement : List Cond := .code yX8_statement cX8_statement 4 (some .int) :: ((wsX8_statement_r1 ++ wsX8_statement_r2) ++ wsX80 ++ wsX50 ++ wsX70 ++ wsJx4a65c0)
def wsX8_seen : List Cond := .code yX8_seen cX8_seen 3 (some .int) :: ([.fieldLink RX8 36 "ForkWatch" "remembered" "[LForkWatch$Statement;", .methodLink RX8 108 yX8_isClient, .static yX8_isClient, .initialized RX8, .code yX8_isClient cX8_isClient 1 (some .boolean), .methodLink RX8 180 yX5_countOf, .instanceMethod yX5_countOf, .selects RX5 yX5_countOf yX5_countOf, .initialized RX5, .code yX5_countOf cX5_countOf 5 (some .long), .fieldLink RX5 9 "ForkWatch$Statement" "bytes" "[I"] ++ wsX80 ++ wsX50)
def wsX8_digest_r1 : List Cond := [Cond.fieldLink RX8 10 "ForkWatch" "sha" "LForkWatch$Sha256;", Cond.fieldLink RX8 43 "ForkWatch" "collected" "[I", Cond.fieldLink RX8 46 "ForkWatch" "collectedLength" "I", Cond.fieldLink RX8 23 "ForkWatch" "digestRow" "[I", Cond.fieldLink RX8 19 "ForkWatch" "mac" "LForkWatch$Mac;", Cond.methodLink RX8 184 yX4_start, Cond.instanceMethod yX4_start, Cond.selects RX4 yX4_start yX4_start, Cond.initialized RX4, Cond.code yX4_start cX4_start 1 none, Cond.fieldLink RX4 25 "ForkWatch$Sha256" "START" "[I", Cond.fieldLink RX4 9 "ForkWatch$Sha256" "state" "[I", Cond.methodLink RX4 28 arraycopyName, Cond.native arraycopyName, Cond.static arraycopyName, Cond.initialized "java/lang/System", Cond.fieldLink RX4 18 "ForkWatch$Sha256" "filled" "I", Cond.fieldLink RX4 22 "ForkWatch$Sha256" "taken" "I", Cond.methodLink RX8 187 yX4_takeRow, Cond.instanceMethod yX4_takeRow, Cond.selects RX4 yX4_takeRow yX4_takeRow, Cond.code yX4_takeRow cX4_takeRow 5 none, Cond.methodLink RX4 40 yX4_take, Cond.instanceMethod yX4_take]
def wsX8_digest_r2 : List Cond := [Cond.selects RX4 yX4_take yX4_take, Cond.code yX4_take cX4_take 2 none, Cond.fieldLink RX4 15 "ForkWatch$Sha256" "words" "[I", Cond.methodLink RX4 34 yX4_spread, Cond.instanceMethod yX4_spread, Cond.selects RX4 yX4_spread yX4_spread, Cond.code yX4_spread cX4_spread 6 none, Cond.methodLink RX4 37 yX4_mix, Cond.instanceMethod yX4_mix, Cond.selects RX4 yX4_mix yX4_mix, Cond.code yX4_mix cX4_mix 15 none, Cond.fieldLink RX4 46 "ForkWatch$Sha256" "ROUND" "[I", Cond.methodLink RX8 191 yX4_finish, Cond.instanceMethod yX4_finish, Cond.selects RX4 yX4_finish yX4_finish, Cond.code yX4_finish cX4_finish 6 none, Cond.constantLong RX4 44 (8), Cond.methodLink RX8 195 yX2_make, Cond.instanceMethod yX2_make, Cond.selects RX2 yX2_make yX2_make, Cond.initialized RX2, Cond.code yX2_make cX2_make 5 none, Cond.fieldLink RX2 12 "ForkWatch$Mac" "sha" "LForkWatch$Sha256;", Cond.fieldLink RX2 18 "ForkWatch$Mac" "inside" "[I"]
def wsX8_digest_r3 : List Cond := [Cond.methodLink RX2 22 yX2_startWithKey, Cond.instanceMethod yX2_startWithKey, Cond.selects RX2 yX2_startWithKey yX2_startWithKey, Cond.code yX2_startWithKey cX2_startWithKey 3 none, Cond.methodLink RX2 34 yX4_start, Cond.methodLink RX2 37 yX4_take, Cond.methodLink RX2 26 yX4_takeRow, Cond.methodLink RX2 30 yX4_finish]
def wsX8_digest : List Cond := .code yX8_digest cX8_digest 3 (some .int) :: ((wsX8_digest_r1 ++ (wsX8_digest_r2 ++ wsX8_digest_r3)) ++ wsX80 ++ wsX40 ++ wsX20)
def wsX8_plain_r1 : List Cond := [Cond.fieldLink RX8 63 "ForkWatch" "changed" "Z", Cond.fieldLink RX8 59 "ForkWatch" "history" "LForkWatch$History;", Cond.fieldLink RX8 36 "ForkWatch" "remembered" "[LForkWatch$Statement;", Cond.methodLink RX8 199 yX1_isAnsweredPlainly, Cond.instanceMethod yX1_isAnsweredPlainly, Cond.selects RX1 yX1_isAnsweredPlainly yX1_isAnsweredPlainly, Cond.initialized RX1, Cond.code yX1_isAnsweredPlainly cX1_isAnsweredPlainly 6 (some .boolean), Cond.fieldLink RX1 25 "ForkWatch$History" "store" "LForkWatch$Files;", Cond.fieldLink RX1 12 "ForkWatch$History" "operations" "Ljava/util/ArrayList;", Cond.classLink RX1 33 "ForkWatch$Operation", Cond.fieldLink RX1 59 "ForkWatch$Operation" "writes" "Z", Cond.fieldLink RX1 63 "ForkWatch$Operation" "file" "I", Cond.fieldLink RX1 67 "ForkWatch$Operation" "content" "[I", Cond.fieldLink RX1 74 "ForkWatch$Operation" "client" "I", Cond.methodLink RX1 48 yX0_clear, Cond.instanceMethod yX0_clear, Cond.selects RX0 yX0_clear yX0_clear, Cond.initialized RX0, Cond.code yX0_clear cX0_clear 1 none, Cond.fieldLink RX0 15 "ForkWatch$Files" "length" "[I", Cond.methodLink RX0 24 yJ7_fill_53178, Cond.static yJ7_fill_53178, Cond.initialized RJ7]
def wsX8_plain_r2 : List Cond := [Cond.code yJ7_fill_53178 cJ7_fill_53178 4 none, Cond.methodLink RX1 29 yJx4a65c_size_8abf5, Cond.instanceMethod yJx4a65c_size_8abf5, Cond.selects RJx4a65c yJx4a65c_size_8abf5 yJx4a65c_size_8abf5, Cond.initialized RJx4a65c, Cond.code yJx4a65c_size_8abf5 cJx4a65c_size_8abf5 1 (some .int), Cond.fieldLink RJx4a65c 48 "java/util/ArrayList" "size" "I", Cond.methodLink RX1 51 yJx4a65c_get_915e3, Cond.instanceMethod yJx4a65c_get_915e3, Cond.selects RJx4a65c yJx4a65c_get_915e3 yJx4a65c_get_915e3, Cond.code yJx4a65c_get_915e3 cJx4a65c_get_915e3 2 (some (.object "java/lang/Object")), Cond.methodLink RJx4a65c 118 yJ15_checkIndex_7cf53, Cond.static yJ15_checkIndex_7cf53, Cond.initialized RJ15, Cond.code yJ15_checkIndex_7cf53 cJ15_checkIndex_7cf53 2 (some .int), Cond.methodLink RJ15 105 yJ3_checkIndex_8e157, Cond.static yJ3_checkIndex_8e157, Cond.initialized RJ3, Cond.code yJ3_checkIndex_8e157 cJ3_checkIndex_8e157 3 (some .int), Cond.methodLink RJx4a65c 123 yJx4a65c_elementData_915e3, Cond.instanceMethod yJx4a65c_elementData_915e3, Cond.selects RJx4a65c yJx4a65c_elementData_915e3 yJx4a65c_elementData_915e3, Cond.code yJx4a65c_elementData_915e3 cJx4a65c_elementData_915e3 2 (some (.object "java/lang/Object")), Cond.fieldLink RJx4a65c 9 "java/util/ArrayList" "elementData" "[Ljava/lang/Object;"]
def wsX8_plain_r3 : List Cond := [Cond.methodLink RX1 55 yX3_isCountedBy, Cond.instanceMethod yX3_isCountedBy, Cond.selects RX3 yX3_isCountedBy yX3_isCountedBy, Cond.initialized RX3, Cond.code yX3_isCountedBy cX3_isCountedBy 2 (some .boolean), Cond.fieldLink RX3 17 "ForkWatch$Operation" "number" "I", Cond.fieldLink RX3 13 "ForkWatch$Operation" "client" "I", Cond.methodLink RX3 27 yX5_countOf, Cond.instanceMethod yX5_countOf, Cond.selects RX5 yX5_countOf yX5_countOf, Cond.initialized RX5, Cond.code yX5_countOf cX5_countOf 5 (some .long), Cond.fieldLink RX5 9 "ForkWatch$Statement" "bytes" "[I", Cond.methodLink RX1 70 yX0_put, Cond.instanceMethod yX0_put, Cond.selects RX0 yX0_put yX0_put, Cond.code yX0_put cX0_put 4 none, Cond.fieldLink RX0 9 "ForkWatch$Files" "content" "[I", Cond.methodLink RX0 18 arraycopyName, Cond.native arraycopyName, Cond.static arraycopyName, Cond.initialized "java/lang/System", Cond.methodLink RX1 77 yX0_holds, Cond.instanceMethod yX0_holds]
def wsX8_plain_r4 : List Cond := [Cond.selects RX0 yX0_holds yX0_holds, Cond.code yX0_holds cX0_holds 3 (some .boolean), Cond.static yX8_sameRow, Cond.initialized RX8, Cond.code yX8_sameRow cX8_sameRow 6 (some .boolean), Cond.methodLink RX8 176 yX5_isInLineWith, Cond.instanceMethod yX5_isInLineWith, Cond.selects RX5 yX5_isInLineWith yX5_isInLineWith, Cond.code yX5_isInLineWith cX5_isInLineWith 2 (some .boolean), Cond.methodLink RX5 25 yX5_isNotAbove, Cond.instanceMethod yX5_isNotAbove, Cond.selects RX5 yX5_isNotAbove yX5_isNotAbove, Cond.code yX5_isNotAbove cX5_isNotAbove 3 (some .boolean), Cond.methodLink RX5 21 yX5_countOf, Cond.methodLink RX8 203 yX1_oneBeginsTheOther, Cond.instanceMethod yX1_oneBeginsTheOther, Cond.selects RX1 yX1_oneBeginsTheOther yX1_oneBeginsTheOther, Cond.code yX1_oneBeginsTheOther cX1_oneBeginsTheOther 8 (some .boolean)]
def wsX8_plain : List Cond := .code yX8_plain cX8_plain 3 (some .boolean) :: ((wsX8_plain_r1 ++ (wsX8_plain_r2 ++ (wsX8_plain_r3 ++ wsX8_plain_r4))) ++ wsX80 ++ wsX10 ++ wsX30 ++ wsX00 ++ wsJx4a65c0 ++ wsX50)
def wsX8_count : List Cond := .code yX8_count cX8_count 2 (some .int) :: ([.fieldLink RX8 30 "ForkWatch" "worlds" "Ljava/util/ArrayList;", .fieldLink RX8 67 "ForkWatch" "wellDone" "I", .fieldLink RX8 70 "ForkWatch" "stopped" "I", .fieldLink RX8 46 "ForkWatch" "collectedLength" "I", .fieldLink RX8 40 "ForkWatch" "shown" "[I", .methodLink RX8 156 yJx4a65c_size_8abf5, .instanceMethod yJx4a65c_size_8abf5, .selects RJx4a65c yJx4a65c_size_8abf5 yJx4a65c_size_8abf5, .initialized RJx4a65c, .code yJx4a65c_size_8abf5 cJx4a65c_size_8abf5 1 (some .int), .fieldLink RJx4a65c 48 "java/util/ArrayList" "size" "I"] ++ wsX80 ++ wsJx4a65c0)
def wsX9_add : List Cond := .code yX9_add cX9_add 2 none :: ([.fieldLink RX9 113 "ForkWatchModel" "message" "[I", .fieldLink RX9 145 "ForkWatchModel" "size" "I"] ++ wsX90)
def wsX9_right : List Cond := .code yX9_right cX9_right 2 (some .int) :: ([])
def wsX9_mix : List Cond := .code yX9_mix cX9_mix 13 none :: ([.fieldLink RX9 122 "ForkWatchModel" "words" "[I", .fieldLink RX9 113 "ForkWatchModel" "message" "[I", .fieldLink RX9 125 "ForkWatchModel" "state" "[I", .fieldLink RX9 71 "ForkWatchModel" "constants" "[I", .methodLink RX9 148 yX9_right, .static yX9_right, .initialized RX9, .code yX9_right cX9_right 2 (some .int)] ++ wsX90)
def wsX9_hash : List Cond := .code yX9_hash cX9_hash 3 none :: ([.fieldLink RX9 145 "ForkWatchModel" "size" "I", .fieldLink RX9 125 "ForkWatchModel" "state" "[I", .fieldLink RX9 85 "ForkWatchModel" "begins" "[I", .fieldLink RX9 116 "ForkWatchModel" "digest" "[I", .methodLink RX9 152 yX9_add, .instanceMethod yX9_add, .selects RX9 yX9_add yX9_add, .initialized RX9, .code yX9_add cX9_add 2 none, .fieldLink RX9 113 "ForkWatchModel" "message" "[I", .methodLink RX9 155 yX9_mix, .instanceMethod yX9_mix, .selects RX9 yX9_mix yX9_mix, .code yX9_mix cX9_mix 13 none, .fieldLink RX9 122 "ForkWatchModel" "words" "[I", .fieldLink RX9 71 "ForkWatchModel" "constants" "[I", .methodLink RX9 148 yX9_right, .static yX9_right, .code yX9_right cX9_right 2 (some .int)] ++ wsX90)
def wsX9_findRoot_r1 : List Cond := [Cond.fieldLink RX9 145 "ForkWatchModel" "size" "I", Cond.fieldLink RX9 97 "ForkWatchModel" "lengths" "[I", Cond.fieldLink RX9 94 "ForkWatchModel" "files" "[I", Cond.fieldLink RX9 128 "ForkWatchModel" "tree" "[I", Cond.fieldLink RX9 116 "ForkWatchModel" "digest" "[I", Cond.methodLink RX9 152 yX9_add, Cond.instanceMethod yX9_add, Cond.selects RX9 yX9_add yX9_add, Cond.initialized RX9, Cond.code yX9_add cX9_add 2 none, Cond.fieldLink RX9 113 "ForkWatchModel" "message" "[I", Cond.methodLink RX9 164 yX9_hash, Cond.instanceMethod yX9_hash, Cond.selects RX9 yX9_hash yX9_hash, Cond.code yX9_hash cX9_hash 3 none, Cond.fieldLink RX9 125 "ForkWatchModel" "state" "[I", Cond.fieldLink RX9 85 "ForkWatchModel" "begins" "[I", Cond.methodLink RX9 155 yX9_mix, Cond.instanceMethod yX9_mix, Cond.selects RX9 yX9_mix yX9_mix, Cond.code yX9_mix cX9_mix 13 none, Cond.fieldLink RX9 122 "ForkWatchModel" "words" "[I", Cond.fieldLink RX9 71 "ForkWatchModel" "constants" "[I", Cond.methodLink RX9 148 yX9_right]
def wsX9_findRoot_r2 : List Cond := [Cond.static yX9_right, Cond.code yX9_right cX9_right 2 (some .int)]
def wsX9_findRoot : List Cond := .code yX9_findRoot cX9_findRoot 5 none :: ((wsX9_findRoot_r1 ++ wsX9_findRoot_r2) ++ wsX90)
def wsX9_addKey : List Cond := .code yX9_addKey cX9_addKey 3 none :: ([.methodLink RX9 152 yX9_add, .instanceMethod yX9_add, .selects RX9 yX9_add yX9_add, .initialized RX9, .code yX9_add cX9_add 2 none, .fieldLink RX9 113 "ForkWatchModel" "message" "[I", .fieldLink RX9 145 "ForkWatchModel" "size" "I"] ++ wsX90)
def wsX9_mac_r1 : List Cond := [Cond.fieldLink RX9 145 "ForkWatchModel" "size" "I", Cond.fieldLink RX9 161 "ForkWatchModel" "plainSize" "I", Cond.fieldLink RX9 131 "ForkWatchModel" "plain" "[I", Cond.fieldLink RX9 119 "ForkWatchModel" "inner" "[I", Cond.fieldLink RX9 116 "ForkWatchModel" "digest" "[I", Cond.methodLink RX9 158 yX9_addKey, Cond.instanceMethod yX9_addKey, Cond.selects RX9 yX9_addKey yX9_addKey, Cond.initialized RX9, Cond.code yX9_addKey cX9_addKey 3 none, Cond.methodLink RX9 152 yX9_add, Cond.instanceMethod yX9_add, Cond.selects RX9 yX9_add yX9_add, Cond.code yX9_add cX9_add 2 none, Cond.fieldLink RX9 113 "ForkWatchModel" "message" "[I", Cond.methodLink RX9 164 yX9_hash, Cond.instanceMethod yX9_hash, Cond.selects RX9 yX9_hash yX9_hash, Cond.code yX9_hash cX9_hash 3 none, Cond.fieldLink RX9 125 "ForkWatchModel" "state" "[I", Cond.fieldLink RX9 85 "ForkWatchModel" "begins" "[I", Cond.methodLink RX9 155 yX9_mix, Cond.instanceMethod yX9_mix, Cond.selects RX9 yX9_mix yX9_mix]
def wsX9_mac_r2 : List Cond := [Cond.code yX9_mix cX9_mix 13 none, Cond.fieldLink RX9 122 "ForkWatchModel" "words" "[I", Cond.fieldLink RX9 71 "ForkWatchModel" "constants" "[I", Cond.methodLink RX9 148 yX9_right, Cond.static yX9_right, Cond.code yX9_right cX9_right 2 (some .int)]
def wsX9_mac : List Cond := .code yX9_mac cX9_mac 2 none :: ((wsX9_mac_r1 ++ wsX9_mac_r2) ++ wsX90)
def wsX9_sign_r1 : List Cond := [Cond.fieldLink RX9 91 "ForkWatchModel" "remembered" "[I", Cond.fieldLink RX9 128 "ForkWatchModel" "tree" "[I", Cond.fieldLink RX9 161 "ForkWatchModel" "plainSize" "I", Cond.fieldLink RX9 131 "ForkWatchModel" "plain" "[I", Cond.fieldLink RX9 116 "ForkWatchModel" "digest" "[I", Cond.methodLink RX9 167 yX9_mac, Cond.instanceMethod yX9_mac, Cond.selects RX9 yX9_mac yX9_mac, Cond.initialized RX9, Cond.code yX9_mac cX9_mac 2 none, Cond.fieldLink RX9 145 "ForkWatchModel" "size" "I", Cond.fieldLink RX9 119 "ForkWatchModel" "inner" "[I", Cond.methodLink RX9 158 yX9_addKey, Cond.instanceMethod yX9_addKey, Cond.selects RX9 yX9_addKey yX9_addKey, Cond.code yX9_addKey cX9_addKey 3 none, Cond.methodLink RX9 152 yX9_add, Cond.instanceMethod yX9_add, Cond.selects RX9 yX9_add yX9_add, Cond.code yX9_add cX9_add 2 none, Cond.fieldLink RX9 113 "ForkWatchModel" "message" "[I", Cond.methodLink RX9 164 yX9_hash, Cond.instanceMethod yX9_hash, Cond.selects RX9 yX9_hash yX9_hash]
def wsX9_sign_r2 : List Cond := [Cond.code yX9_hash cX9_hash 3 none, Cond.fieldLink RX9 125 "ForkWatchModel" "state" "[I", Cond.fieldLink RX9 85 "ForkWatchModel" "begins" "[I", Cond.methodLink RX9 155 yX9_mix, Cond.instanceMethod yX9_mix, Cond.selects RX9 yX9_mix yX9_mix, Cond.code yX9_mix cX9_mix 13 none, Cond.fieldLink RX9 122 "ForkWatchModel" "words" "[I", Cond.fieldLink RX9 71 "ForkWatchModel" "constants" "[I", Cond.methodLink RX9 148 yX9_right, Cond.static yX9_right, Cond.code yX9_right cX9_right 2 (some .int)]
def wsX9_sign : List Cond := .code yX9_sign cX9_sign 4 none :: ((wsX9_sign_r1 ++ wsX9_sign_r2) ++ wsX90)
def wsX9_placeOf : List Cond := .code yX9_placeOf cX9_placeOf 2 (some .int) :: ([])
def wsX9_tell : List Cond := .code yX9_tell cX9_tell 4 none :: ([.fieldLink RX9 88 "ForkWatchModel" "statements" "[I", .fieldLink RX9 91 "ForkWatchModel" "remembered" "[I", .methodLink RX9 170 yX9_placeOf, .static yX9_placeOf, .initialized RX9, .code yX9_placeOf cX9_placeOf 2 (some .int)] ++ wsX90)
def wsX9_init_r1 : List Cond := [Cond.methodLink RX9 1 objectInit, Cond.instanceMethod objectInit, Cond.code objectInit ⟨#[0xb1]⟩ 1 none, Cond.arrayClass .int, Cond.constant RX9 7 (1116352408), Cond.constant RX9 8 (1899447441), Cond.constant RX9 9 (-1245643825), Cond.constant RX9 10 (-373957723), Cond.constant RX9 11 (961987163), Cond.constant RX9 12 (1508970993), Cond.constant RX9 13 (-1841331548), Cond.constant RX9 14 (-1424204075), Cond.constant RX9 15 (-670586216), Cond.constant RX9 16 (310598401), Cond.constant RX9 17 (607225278), Cond.constant RX9 18 (1426881987), Cond.constant RX9 19 (1925078388), Cond.constant RX9 20 (-2132889090), Cond.constant RX9 21 (-1680079193), Cond.constant RX9 22 (-1046744716), Cond.constant RX9 23 (-459576895), Cond.constant RX9 24 (-272742522), Cond.constant RX9 25 (264347078), Cond.constant RX9 26 (604807628)]
def wsX9_init_r2 : List Cond := [Cond.constant RX9 27 (770255983), Cond.constant RX9 28 (1249150122), Cond.constant RX9 29 (1555081692), Cond.constant RX9 30 (1996064986), Cond.constant RX9 31 (-1740746414), Cond.constant RX9 32 (-1473132947), Cond.constant RX9 33 (-1341970488), Cond.constant RX9 34 (-1084653625), Cond.constant RX9 35 (-958395405), Cond.constant RX9 36 (-710438585), Cond.constant RX9 37 (113926993), Cond.constant RX9 38 (338241895), Cond.constant RX9 39 (666307205), Cond.constant RX9 40 (773529912), Cond.constant RX9 41 (1294757372), Cond.constant RX9 42 (1396182291), Cond.constant RX9 43 (1695183700), Cond.constant RX9 44 (1986661051), Cond.constant RX9 45 (-2117940946), Cond.constant RX9 46 (-1838011259), Cond.constant RX9 47 (-1564481375), Cond.constant RX9 48 (-1474664885), Cond.constant RX9 49 (-1035236496), Cond.constant RX9 50 (-949202525)]
def wsX9_init_r3 : List Cond := [Cond.constant RX9 51 (-778901479), Cond.constant RX9 52 (-694614492), Cond.constant RX9 53 (-200395387), Cond.constant RX9 54 (275423344), Cond.constant RX9 55 (430227734), Cond.constant RX9 56 (506948616), Cond.constant RX9 57 (659060556), Cond.constant RX9 58 (883997877), Cond.constant RX9 59 (958139571), Cond.constant RX9 60 (1322822218), Cond.constant RX9 61 (1537002063), Cond.constant RX9 62 (1747873779), Cond.constant RX9 63 (1955562222), Cond.constant RX9 64 (2024104815), Cond.constant RX9 65 (-2067236844), Cond.constant RX9 66 (-1933114872), Cond.constant RX9 67 (-1866530822), Cond.constant RX9 68 (-1538233109), Cond.constant RX9 69 (-1090935817), Cond.constant RX9 70 (-965641998), Cond.fieldLink RX9 71 "ForkWatchModel" "constants" "[I", Cond.constant RX9 77 (1779033703), Cond.constant RX9 78 (-1150833019), Cond.constant RX9 79 (1013904242)]
def wsX9_init_r4 : List Cond := [Cond.constant RX9 80 (-1521486534), Cond.constant RX9 81 (1359893119), Cond.constant RX9 82 (-1694144372), Cond.constant RX9 83 (528734635), Cond.constant RX9 84 (1541459225), Cond.fieldLink RX9 85 "ForkWatchModel" "begins" "[I", Cond.fieldLink RX9 88 "ForkWatchModel" "statements" "[I", Cond.fieldLink RX9 91 "ForkWatchModel" "remembered" "[I", Cond.fieldLink RX9 94 "ForkWatchModel" "files" "[I", Cond.fieldLink RX9 97 "ForkWatchModel" "lengths" "[I", Cond.fieldLink RX9 100 "ForkWatchModel" "worlds" "I", Cond.fieldLink RX9 104 "ForkWatchModel" "shown" "[I", Cond.fieldLink RX9 107 "ForkWatchModel" "collected" "[I", Cond.fieldLink RX9 110 "ForkWatchModel" "got" "[I", Cond.fieldLink RX9 113 "ForkWatchModel" "message" "[I", Cond.fieldLink RX9 116 "ForkWatchModel" "digest" "[I", Cond.fieldLink RX9 119 "ForkWatchModel" "inner" "[I", Cond.fieldLink RX9 122 "ForkWatchModel" "words" "[I", Cond.fieldLink RX9 125 "ForkWatchModel" "state" "[I", Cond.fieldLink RX9 128 "ForkWatchModel" "tree" "[I", Cond.fieldLink RX9 131 "ForkWatchModel" "plain" "[I", Cond.methodLink RX9 134 yX9_findRoot, Cond.instanceMethod yX9_findRoot, Cond.selects RX9 yX9_findRoot yX9_findRoot]
def wsX9_init_r5 : List Cond := [Cond.initialized RX9, Cond.code yX9_findRoot cX9_findRoot 5 none, Cond.fieldLink RX9 145 "ForkWatchModel" "size" "I", Cond.methodLink RX9 152 yX9_add, Cond.instanceMethod yX9_add, Cond.selects RX9 yX9_add yX9_add, Cond.code yX9_add cX9_add 2 none, Cond.methodLink RX9 164 yX9_hash, Cond.instanceMethod yX9_hash, Cond.selects RX9 yX9_hash yX9_hash, Cond.code yX9_hash cX9_hash 3 none, Cond.methodLink RX9 155 yX9_mix, Cond.instanceMethod yX9_mix, Cond.selects RX9 yX9_mix yX9_mix, Cond.code yX9_mix cX9_mix 13 none, Cond.methodLink RX9 148 yX9_right, Cond.static yX9_right, Cond.code yX9_right cX9_right 2 (some .int), Cond.methodLink RX9 138 yX9_sign, Cond.instanceMethod yX9_sign, Cond.selects RX9 yX9_sign yX9_sign, Cond.code yX9_sign cX9_sign 4 none, Cond.fieldLink RX9 161 "ForkWatchModel" "plainSize" "I", Cond.methodLink RX9 167 yX9_mac]
def wsX9_init_r6 : List Cond := [Cond.instanceMethod yX9_mac, Cond.selects RX9 yX9_mac yX9_mac, Cond.code yX9_mac cX9_mac 2 none, Cond.methodLink RX9 158 yX9_addKey, Cond.instanceMethod yX9_addKey, Cond.selects RX9 yX9_addKey yX9_addKey, Cond.code yX9_addKey cX9_addKey 3 none, Cond.methodLink RX9 141 yX9_tell, Cond.instanceMethod yX9_tell, Cond.selects RX9 yX9_tell yX9_tell, Cond.code yX9_tell cX9_tell 4 none, Cond.methodLink RX9 170 yX9_placeOf, Cond.static yX9_placeOf, Cond.code yX9_placeOf cX9_placeOf 2 (some .int)]
def wsX9_init : List Cond := .code yX9_init cX9_init 3 none :: ((wsX9_init_r1 ++ (wsX9_init_r2 ++ (wsX9_init_r3 ++ (wsX9_init_r4 ++ (wsX9_init_r5 ++ wsX9_init_r6))))) ++ wsX90)
def wsX9_countAt : List Cond := .code yX9_countAt cX9_countAt 6 (some .long) :: ([])
def wsX9_isNotAbove : List Cond := .code yX9_isNotAbove cX9_isNotAbove 5 (some .boolean) :: ([.methodLink RX9 173 yX9_countAt, .static yX9_countAt, .initialized RX9, .code yX9_countAt cX9_countAt 6 (some .long)])
def wsX9_isSigned_r1 : List Cond := [Cond.fieldLink RX9 161 "ForkWatchModel" "plainSize" "I", Cond.fieldLink RX9 131 "ForkWatchModel" "plain" "[I", Cond.fieldLink RX9 88 "ForkWatchModel" "statements" "[I", Cond.fieldLink RX9 116 "ForkWatchModel" "digest" "[I", Cond.methodLink RX9 170 yX9_placeOf, Cond.static yX9_placeOf, Cond.initialized RX9, Cond.code yX9_placeOf cX9_placeOf 2 (some .int), Cond.methodLink RX9 167 yX9_mac, Cond.instanceMethod yX9_mac, Cond.selects RX9 yX9_mac yX9_mac, Cond.code yX9_mac cX9_mac 2 none, Cond.fieldLink RX9 145 "ForkWatchModel" "size" "I", Cond.fieldLink RX9 119 "ForkWatchModel" "inner" "[I", Cond.methodLink RX9 158 yX9_addKey, Cond.instanceMethod yX9_addKey, Cond.selects RX9 yX9_addKey yX9_addKey, Cond.code yX9_addKey cX9_addKey 3 none, Cond.methodLink RX9 152 yX9_add, Cond.instanceMethod yX9_add, Cond.selects RX9 yX9_add yX9_add, Cond.code yX9_add cX9_add 2 none, Cond.fieldLink RX9 113 "ForkWatchModel" "message" "[I", Cond.methodLink RX9 164 yX9_hash]
def wsX9_isSigned_r2 : List Cond := [Cond.instanceMethod yX9_hash, Cond.selects RX9 yX9_hash yX9_hash, Cond.code yX9_hash cX9_hash 3 none, Cond.fieldLink RX9 125 "ForkWatchModel" "state" "[I", Cond.fieldLink RX9 85 "ForkWatchModel" "begins" "[I", Cond.methodLink RX9 155 yX9_mix, Cond.instanceMethod yX9_mix, Cond.selects RX9 yX9_mix yX9_mix, Cond.code yX9_mix cX9_mix 13 none, Cond.fieldLink RX9 122 "ForkWatchModel" "words" "[I", Cond.fieldLink RX9 71 "ForkWatchModel" "constants" "[I", Cond.methodLink RX9 148 yX9_right, Cond.static yX9_right, Cond.code yX9_right cX9_right 2 (some .int)]
def wsX9_isSigned : List Cond := .code yX9_isSigned cX9_isSigned 6 (some .boolean) :: ((wsX9_isSigned_r1 ++ wsX9_isSigned_r2) ++ wsX90)
def wsX9_greatest : List Cond := .code yX9_greatest cX9_greatest 6 (some .int) :: ([.fieldLink RX9 88 "ForkWatchModel" "statements" "[I", .methodLink RX9 170 yX9_placeOf, .static yX9_placeOf, .initialized RX9, .code yX9_placeOf cX9_placeOf 2 (some .int), .methodLink RX9 177 yX9_isNotAbove, .static yX9_isNotAbove, .code yX9_isNotAbove cX9_isNotAbove 5 (some .boolean), .methodLink RX9 173 yX9_countAt, .static yX9_countAt, .code yX9_countAt cX9_countAt 6 (some .long)] ++ wsX90)
def wsX9_check_r1 : List Cond := [Cond.fieldLink RX9 104 "ForkWatchModel" "shown" "[I", Cond.fieldLink RX9 88 "ForkWatchModel" "statements" "[I", Cond.fieldLink RX9 91 "ForkWatchModel" "remembered" "[I", Cond.fieldLink RX9 128 "ForkWatchModel" "tree" "[I", Cond.methodLink RX9 181 yX9_isSigned, Cond.instanceMethod yX9_isSigned, Cond.selects RX9 yX9_isSigned yX9_isSigned, Cond.initialized RX9, Cond.code yX9_isSigned cX9_isSigned 6 (some .boolean), Cond.fieldLink RX9 161 "ForkWatchModel" "plainSize" "I", Cond.fieldLink RX9 131 "ForkWatchModel" "plain" "[I", Cond.fieldLink RX9 116 "ForkWatchModel" "digest" "[I", Cond.methodLink RX9 170 yX9_placeOf, Cond.static yX9_placeOf, Cond.code yX9_placeOf cX9_placeOf 2 (some .int), Cond.methodLink RX9 167 yX9_mac, Cond.instanceMethod yX9_mac, Cond.selects RX9 yX9_mac yX9_mac, Cond.code yX9_mac cX9_mac 2 none, Cond.fieldLink RX9 145 "ForkWatchModel" "size" "I", Cond.fieldLink RX9 119 "ForkWatchModel" "inner" "[I", Cond.methodLink RX9 158 yX9_addKey, Cond.instanceMethod yX9_addKey, Cond.selects RX9 yX9_addKey yX9_addKey]
def wsX9_check_r2 : List Cond := [Cond.code yX9_addKey cX9_addKey 3 none, Cond.methodLink RX9 152 yX9_add, Cond.instanceMethod yX9_add, Cond.selects RX9 yX9_add yX9_add, Cond.code yX9_add cX9_add 2 none, Cond.fieldLink RX9 113 "ForkWatchModel" "message" "[I", Cond.methodLink RX9 164 yX9_hash, Cond.instanceMethod yX9_hash, Cond.selects RX9 yX9_hash yX9_hash, Cond.code yX9_hash cX9_hash 3 none, Cond.fieldLink RX9 125 "ForkWatchModel" "state" "[I", Cond.fieldLink RX9 85 "ForkWatchModel" "begins" "[I", Cond.methodLink RX9 155 yX9_mix, Cond.instanceMethod yX9_mix, Cond.selects RX9 yX9_mix yX9_mix, Cond.code yX9_mix cX9_mix 13 none, Cond.fieldLink RX9 122 "ForkWatchModel" "words" "[I", Cond.fieldLink RX9 71 "ForkWatchModel" "constants" "[I", Cond.methodLink RX9 148 yX9_right, Cond.static yX9_right, Cond.code yX9_right cX9_right 2 (some .int), Cond.methodLink RX9 177 yX9_isNotAbove, Cond.static yX9_isNotAbove, Cond.code yX9_isNotAbove cX9_isNotAbove 5 (some .boolean)]
def wsX9_check_r3 : List Cond := [Cond.methodLink RX9 173 yX9_countAt, Cond.static yX9_countAt, Cond.code yX9_countAt cX9_countAt 6 (some .long), Cond.methodLink RX9 134 yX9_findRoot, Cond.instanceMethod yX9_findRoot, Cond.selects RX9 yX9_findRoot yX9_findRoot, Cond.code yX9_findRoot cX9_findRoot 5 none, Cond.fieldLink RX9 97 "ForkWatchModel" "lengths" "[I", Cond.fieldLink RX9 94 "ForkWatchModel" "files" "[I", Cond.methodLink RX9 185 yX9_greatest, Cond.instanceMethod yX9_greatest, Cond.selects RX9 yX9_greatest yX9_greatest, Cond.code yX9_greatest cX9_greatest 6 (some .int)]
def wsX9_check : List Cond := .code yX9_check cX9_check 7 (some .int) :: ((wsX9_check_r1 ++ (wsX9_check_r2 ++ wsX9_check_r3)) ++ wsX90)
def wsX9_advance_r1 : List Cond := [Cond.fieldLink RX9 104 "ForkWatchModel" "shown" "[I", Cond.fieldLink RX9 91 "ForkWatchModel" "remembered" "[I", Cond.fieldLink RX9 88 "ForkWatchModel" "statements" "[I", Cond.fieldLink RX9 189 "ForkWatchModel" "well" "I", Cond.methodLink RX9 185 yX9_greatest, Cond.instanceMethod yX9_greatest, Cond.selects RX9 yX9_greatest yX9_greatest, Cond.initialized RX9, Cond.code yX9_greatest cX9_greatest 6 (some .int), Cond.methodLink RX9 170 yX9_placeOf, Cond.static yX9_placeOf, Cond.code yX9_placeOf cX9_placeOf 2 (some .int), Cond.methodLink RX9 177 yX9_isNotAbove, Cond.static yX9_isNotAbove, Cond.code yX9_isNotAbove cX9_isNotAbove 5 (some .boolean), Cond.methodLink RX9 173 yX9_countAt, Cond.static yX9_countAt, Cond.code yX9_countAt cX9_countAt 6 (some .long), Cond.methodLink RX9 134 yX9_findRoot, Cond.instanceMethod yX9_findRoot, Cond.selects RX9 yX9_findRoot yX9_findRoot, Cond.code yX9_findRoot cX9_findRoot 5 none, Cond.fieldLink RX9 145 "ForkWatchModel" "size" "I", Cond.fieldLink RX9 97 "ForkWatchModel" "lengths" "[I"]
def wsX9_advance_r2 : List Cond := [Cond.fieldLink RX9 94 "ForkWatchModel" "files" "[I", Cond.fieldLink RX9 128 "ForkWatchModel" "tree" "[I", Cond.fieldLink RX9 116 "ForkWatchModel" "digest" "[I", Cond.methodLink RX9 152 yX9_add, Cond.instanceMethod yX9_add, Cond.selects RX9 yX9_add yX9_add, Cond.code yX9_add cX9_add 2 none, Cond.fieldLink RX9 113 "ForkWatchModel" "message" "[I", Cond.methodLink RX9 164 yX9_hash, Cond.instanceMethod yX9_hash, Cond.selects RX9 yX9_hash yX9_hash, Cond.code yX9_hash cX9_hash 3 none, Cond.fieldLink RX9 125 "ForkWatchModel" "state" "[I", Cond.fieldLink RX9 85 "ForkWatchModel" "begins" "[I", Cond.methodLink RX9 155 yX9_mix, Cond.instanceMethod yX9_mix, Cond.selects RX9 yX9_mix yX9_mix, Cond.code yX9_mix cX9_mix 13 none, Cond.fieldLink RX9 122 "ForkWatchModel" "words" "[I", Cond.fieldLink RX9 71 "ForkWatchModel" "constants" "[I", Cond.methodLink RX9 148 yX9_right, Cond.static yX9_right, Cond.code yX9_right cX9_right 2 (some .int), Cond.methodLink RX9 138 yX9_sign]
def wsX9_advance_r3 : List Cond := [Cond.instanceMethod yX9_sign, Cond.selects RX9 yX9_sign yX9_sign, Cond.code yX9_sign cX9_sign 4 none, Cond.fieldLink RX9 161 "ForkWatchModel" "plainSize" "I", Cond.fieldLink RX9 131 "ForkWatchModel" "plain" "[I", Cond.methodLink RX9 167 yX9_mac, Cond.instanceMethod yX9_mac, Cond.selects RX9 yX9_mac yX9_mac, Cond.code yX9_mac cX9_mac 2 none, Cond.fieldLink RX9 119 "ForkWatchModel" "inner" "[I", Cond.methodLink RX9 158 yX9_addKey, Cond.instanceMethod yX9_addKey, Cond.selects RX9 yX9_addKey yX9_addKey, Cond.code yX9_addKey cX9_addKey 3 none, Cond.methodLink RX9 141 yX9_tell, Cond.instanceMethod yX9_tell, Cond.selects RX9 yX9_tell yX9_tell, Cond.code yX9_tell cX9_tell 4 none]
def wsX9_advance : List Cond := .code yX9_advance cX9_advance 7 none :: ((wsX9_advance_r1 ++ (wsX9_advance_r2 ++ wsX9_advance_r3)) ++ wsX90)
def wsX9_isIn : List Cond := .code yX9_isIn cX9_isIn 2 (some .boolean) :: ([])
def wsX9_feed : List Cond := .code yX9_feed cX9_feed 2 (some .boolean) :: ([.fieldLink RX9 192 "ForkWatchModel" "count" "I", .fieldLink RX9 107 "ForkWatchModel" "collected" "[I"] ++ wsX90)
def wsX9_write_r1 : List Cond := [Cond.fieldLink RX9 192 "ForkWatchModel" "count" "I", Cond.fieldLink RX9 201 "ForkWatchModel" "stopped" "I", Cond.fieldLink RX9 104 "ForkWatchModel" "shown" "[I", Cond.fieldLink RX9 97 "ForkWatchModel" "lengths" "[I", Cond.fieldLink RX9 94 "ForkWatchModel" "files" "[I", Cond.fieldLink RX9 107 "ForkWatchModel" "collected" "[I", Cond.methodLink RX9 195 yX9_isIn, Cond.static yX9_isIn, Cond.initialized RX9, Cond.code yX9_isIn cX9_isIn 2 (some .boolean), Cond.methodLink RX9 198 yX9_check, Cond.instanceMethod yX9_check, Cond.selects RX9 yX9_check yX9_check, Cond.code yX9_check cX9_check 7 (some .int), Cond.fieldLink RX9 88 "ForkWatchModel" "statements" "[I", Cond.fieldLink RX9 91 "ForkWatchModel" "remembered" "[I", Cond.fieldLink RX9 128 "ForkWatchModel" "tree" "[I", Cond.methodLink RX9 181 yX9_isSigned, Cond.instanceMethod yX9_isSigned, Cond.selects RX9 yX9_isSigned yX9_isSigned, Cond.code yX9_isSigned cX9_isSigned 6 (some .boolean), Cond.fieldLink RX9 161 "ForkWatchModel" "plainSize" "I", Cond.fieldLink RX9 131 "ForkWatchModel" "plain" "[I", Cond.fieldLink RX9 116 "ForkWatchModel" "digest" "[I"]
def wsX9_write_r2 : List Cond := [Cond.methodLink RX9 170 yX9_placeOf, Cond.static yX9_placeOf, Cond.code yX9_placeOf cX9_placeOf 2 (some .int), Cond.methodLink RX9 167 yX9_mac, Cond.instanceMethod yX9_mac, Cond.selects RX9 yX9_mac yX9_mac, Cond.code yX9_mac cX9_mac 2 none, Cond.fieldLink RX9 145 "ForkWatchModel" "size" "I", Cond.fieldLink RX9 119 "ForkWatchModel" "inner" "[I", Cond.methodLink RX9 158 yX9_addKey, Cond.instanceMethod yX9_addKey, Cond.selects RX9 yX9_addKey yX9_addKey, Cond.code yX9_addKey cX9_addKey 3 none, Cond.methodLink RX9 152 yX9_add, Cond.instanceMethod yX9_add, Cond.selects RX9 yX9_add yX9_add, Cond.code yX9_add cX9_add 2 none, Cond.fieldLink RX9 113 "ForkWatchModel" "message" "[I", Cond.methodLink RX9 164 yX9_hash, Cond.instanceMethod yX9_hash, Cond.selects RX9 yX9_hash yX9_hash, Cond.code yX9_hash cX9_hash 3 none, Cond.fieldLink RX9 125 "ForkWatchModel" "state" "[I", Cond.fieldLink RX9 85 "ForkWatchModel" "begins" "[I"]
def wsX9_write_r3 : List Cond := [Cond.methodLink RX9 155 yX9_mix, Cond.instanceMethod yX9_mix, Cond.selects RX9 yX9_mix yX9_mix, Cond.code yX9_mix cX9_mix 13 none, Cond.fieldLink RX9 122 "ForkWatchModel" "words" "[I", Cond.fieldLink RX9 71 "ForkWatchModel" "constants" "[I", Cond.methodLink RX9 148 yX9_right, Cond.static yX9_right, Cond.code yX9_right cX9_right 2 (some .int), Cond.methodLink RX9 177 yX9_isNotAbove, Cond.static yX9_isNotAbove, Cond.code yX9_isNotAbove cX9_isNotAbove 5 (some .boolean), Cond.methodLink RX9 173 yX9_countAt, Cond.static yX9_countAt, Cond.code yX9_countAt cX9_countAt 6 (some .long), Cond.methodLink RX9 134 yX9_findRoot, Cond.instanceMethod yX9_findRoot, Cond.selects RX9 yX9_findRoot yX9_findRoot, Cond.code yX9_findRoot cX9_findRoot 5 none, Cond.methodLink RX9 185 yX9_greatest, Cond.instanceMethod yX9_greatest, Cond.selects RX9 yX9_greatest yX9_greatest, Cond.code yX9_greatest cX9_greatest 6 (some .int), Cond.methodLink RX9 204 yX9_advance]
def wsX9_write_r4 : List Cond := [Cond.instanceMethod yX9_advance, Cond.selects RX9 yX9_advance yX9_advance, Cond.code yX9_advance cX9_advance 7 none, Cond.fieldLink RX9 189 "ForkWatchModel" "well" "I", Cond.methodLink RX9 138 yX9_sign, Cond.instanceMethod yX9_sign, Cond.selects RX9 yX9_sign yX9_sign, Cond.code yX9_sign cX9_sign 4 none, Cond.methodLink RX9 141 yX9_tell, Cond.instanceMethod yX9_tell, Cond.selects RX9 yX9_tell yX9_tell, Cond.code yX9_tell cX9_tell 4 none]
def wsX9_write : List Cond := .code yX9_write cX9_write 6 (some .int) :: ((wsX9_write_r1 ++ (wsX9_write_r2 ++ (wsX9_write_r3 ++ wsX9_write_r4))) ++ wsX90)
def wsX9_read_r1 : List Cond := [Cond.fieldLink RX9 201 "ForkWatchModel" "stopped" "I", Cond.fieldLink RX9 104 "ForkWatchModel" "shown" "[I", Cond.fieldLink RX9 97 "ForkWatchModel" "lengths" "[I", Cond.fieldLink RX9 207 "ForkWatchModel" "gotSize" "I", Cond.fieldLink RX9 110 "ForkWatchModel" "got" "[I", Cond.fieldLink RX9 94 "ForkWatchModel" "files" "[I", Cond.methodLink RX9 195 yX9_isIn, Cond.static yX9_isIn, Cond.initialized RX9, Cond.code yX9_isIn cX9_isIn 2 (some .boolean), Cond.methodLink RX9 198 yX9_check, Cond.instanceMethod yX9_check, Cond.selects RX9 yX9_check yX9_check, Cond.code yX9_check cX9_check 7 (some .int), Cond.fieldLink RX9 88 "ForkWatchModel" "statements" "[I", Cond.fieldLink RX9 91 "ForkWatchModel" "remembered" "[I", Cond.fieldLink RX9 128 "ForkWatchModel" "tree" "[I", Cond.methodLink RX9 181 yX9_isSigned, Cond.instanceMethod yX9_isSigned, Cond.selects RX9 yX9_isSigned yX9_isSigned, Cond.code yX9_isSigned cX9_isSigned 6 (some .boolean), Cond.fieldLink RX9 161 "ForkWatchModel" "plainSize" "I", Cond.fieldLink RX9 131 "ForkWatchModel" "plain" "[I", Cond.fieldLink RX9 116 "ForkWatchModel" "digest" "[I"]
def wsX9_read_r2 : List Cond := [Cond.methodLink RX9 170 yX9_placeOf, Cond.static yX9_placeOf, Cond.code yX9_placeOf cX9_placeOf 2 (some .int), Cond.methodLink RX9 167 yX9_mac, Cond.instanceMethod yX9_mac, Cond.selects RX9 yX9_mac yX9_mac, Cond.code yX9_mac cX9_mac 2 none, Cond.fieldLink RX9 145 "ForkWatchModel" "size" "I", Cond.fieldLink RX9 119 "ForkWatchModel" "inner" "[I", Cond.methodLink RX9 158 yX9_addKey, Cond.instanceMethod yX9_addKey, Cond.selects RX9 yX9_addKey yX9_addKey, Cond.code yX9_addKey cX9_addKey 3 none, Cond.methodLink RX9 152 yX9_add, Cond.instanceMethod yX9_add, Cond.selects RX9 yX9_add yX9_add, Cond.code yX9_add cX9_add 2 none, Cond.fieldLink RX9 113 "ForkWatchModel" "message" "[I", Cond.methodLink RX9 164 yX9_hash, Cond.instanceMethod yX9_hash, Cond.selects RX9 yX9_hash yX9_hash, Cond.code yX9_hash cX9_hash 3 none, Cond.fieldLink RX9 125 "ForkWatchModel" "state" "[I", Cond.fieldLink RX9 85 "ForkWatchModel" "begins" "[I"]
def wsX9_read_r3 : List Cond := [Cond.methodLink RX9 155 yX9_mix, Cond.instanceMethod yX9_mix, Cond.selects RX9 yX9_mix yX9_mix, Cond.code yX9_mix cX9_mix 13 none, Cond.fieldLink RX9 122 "ForkWatchModel" "words" "[I", Cond.fieldLink RX9 71 "ForkWatchModel" "constants" "[I", Cond.methodLink RX9 148 yX9_right, Cond.static yX9_right, Cond.code yX9_right cX9_right 2 (some .int), Cond.methodLink RX9 177 yX9_isNotAbove, Cond.static yX9_isNotAbove, Cond.code yX9_isNotAbove cX9_isNotAbove 5 (some .boolean), Cond.methodLink RX9 173 yX9_countAt, Cond.static yX9_countAt, Cond.code yX9_countAt cX9_countAt 6 (some .long), Cond.methodLink RX9 134 yX9_findRoot, Cond.instanceMethod yX9_findRoot, Cond.selects RX9 yX9_findRoot yX9_findRoot, Cond.code yX9_findRoot cX9_findRoot 5 none, Cond.methodLink RX9 185 yX9_greatest, Cond.instanceMethod yX9_greatest, Cond.selects RX9 yX9_greatest yX9_greatest, Cond.code yX9_greatest cX9_greatest 6 (some .int), Cond.methodLink RX9 204 yX9_advance]
def wsX9_read_r4 : List Cond := [Cond.instanceMethod yX9_advance, Cond.selects RX9 yX9_advance yX9_advance, Cond.code yX9_advance cX9_advance 7 none, Cond.fieldLink RX9 189 "ForkWatchModel" "well" "I", Cond.methodLink RX9 138 yX9_sign, Cond.instanceMethod yX9_sign, Cond.selects RX9 yX9_sign yX9_sign, Cond.code yX9_sign cX9_sign 4 none, Cond.methodLink RX9 141 yX9_tell, Cond.instanceMethod yX9_tell, Cond.selects RX9 yX9_tell yX9_tell, Cond.code yX9_tell cX9_tell 4 none]
def wsX9_read : List Cond := .code yX9_read cX9_read 6 (some .int) :: ((wsX9_read_r1 ++ (wsX9_read_r2 ++ (wsX9_read_r3 ++ wsX9_read_r4))) ++ wsX90)
def wsX9_got : List Cond := .code yX9_got cX9_got 2 (some .int) :: ([.fieldLink RX9 207 "ForkWatchModel" "gotSize" "I", .fieldLink RX9 110 "ForkWatchModel" "got" "[I", .methodLink RX9 195 yX9_isIn, .static yX9_isIn, .initialized RX9, .code yX9_isIn cX9_isIn 2 (some .boolean)] ++ wsX90)
def wsX9_split : List Cond := .code yX9_split cX9_split 3 (some .int) :: ([.fieldLink RX9 100 "ForkWatchModel" "worlds" "I", .fieldLink RX9 88 "ForkWatchModel" "statements" "[I", .fieldLink RX9 94 "ForkWatchModel" "files" "[I", .fieldLink RX9 97 "ForkWatchModel" "lengths" "[I", .methodLink RX9 195 yX9_isIn, .static yX9_isIn, .initialized RX9, .code yX9_isIn cX9_isIn 2 (some .boolean)] ++ wsX90)
def wsX9_show : List Cond := .code yX9_show cX9_show 4 (some .int) :: ([.fieldLink RX9 100 "ForkWatchModel" "worlds" "I", .fieldLink RX9 104 "ForkWatchModel" "shown" "[I", .methodLink RX9 195 yX9_isIn, .static yX9_isIn, .initialized RX9, .code yX9_isIn cX9_isIn 2 (some .boolean)] ++ wsX90)
def wsX9_graft : List Cond := .code yX9_graft cX9_graft 5 (some .boolean) :: ([.fieldLink RX9 100 "ForkWatchModel" "worlds" "I", .fieldLink RX9 88 "ForkWatchModel" "statements" "[I", .methodLink RX9 195 yX9_isIn, .static yX9_isIn, .initialized RX9, .code yX9_isIn cX9_isIn 2 (some .boolean), .methodLink RX9 170 yX9_placeOf, .static yX9_placeOf, .code yX9_placeOf cX9_placeOf 2 (some .int)] ++ wsX90)
def wsX9_poke : List Cond := .code yX9_poke cX9_poke 5 (some .boolean) :: ([.fieldLink RX9 100 "ForkWatchModel" "worlds" "I", .fieldLink RX9 88 "ForkWatchModel" "statements" "[I", .methodLink RX9 195 yX9_isIn, .static yX9_isIn, .initialized RX9, .code yX9_isIn cX9_isIn 2 (some .boolean), .methodLink RX9 170 yX9_placeOf, .static yX9_placeOf, .code yX9_placeOf cX9_placeOf 2 (some .int)] ++ wsX90)
def wsX9_spoil : List Cond := .code yX9_spoil cX9_spoil 6 (some .boolean) :: ([.fieldLink RX9 100 "ForkWatchModel" "worlds" "I", .fieldLink RX9 97 "ForkWatchModel" "lengths" "[I", .fieldLink RX9 94 "ForkWatchModel" "files" "[I", .methodLink RX9 195 yX9_isIn, .static yX9_isIn, .initialized RX9, .code yX9_isIn cX9_isIn 2 (some .boolean)] ++ wsX90)
def wsX9_exchange : List Cond := .code yX9_exchange cX9_exchange 3 (some .int) :: ([.fieldLink RX9 91 "ForkWatchModel" "remembered" "[I", .methodLink RX9 195 yX9_isIn, .static yX9_isIn, .initialized RX9, .code yX9_isIn cX9_isIn 2 (some .boolean), .methodLink RX9 177 yX9_isNotAbove, .static yX9_isNotAbove, .code yX9_isNotAbove cX9_isNotAbove 5 (some .boolean), .methodLink RX9 173 yX9_countAt, .static yX9_countAt, .code yX9_countAt cX9_countAt 6 (some .long)] ++ wsX90)
def wsX9_statement : List Cond := .code yX9_statement cX9_statement 4 (some .int) :: ([.fieldLink RX9 100 "ForkWatchModel" "worlds" "I", .fieldLink RX9 91 "ForkWatchModel" "remembered" "[I", .fieldLink RX9 88 "ForkWatchModel" "statements" "[I", .methodLink RX9 195 yX9_isIn, .static yX9_isIn, .initialized RX9, .code yX9_isIn cX9_isIn 2 (some .boolean), .methodLink RX9 170 yX9_placeOf, .static yX9_placeOf, .code yX9_placeOf cX9_placeOf 2 (some .int)] ++ wsX90)
def wsX9_seen : List Cond := .code yX9_seen cX9_seen 3 (some .int) :: ([.fieldLink RX9 91 "ForkWatchModel" "remembered" "[I", .methodLink RX9 195 yX9_isIn, .static yX9_isIn, .initialized RX9, .code yX9_isIn cX9_isIn 2 (some .boolean), .methodLink RX9 173 yX9_countAt, .static yX9_countAt, .code yX9_countAt cX9_countAt 6 (some .long)] ++ wsX90)
def wsX9_digest_r1 : List Cond := [Cond.fieldLink RX9 192 "ForkWatchModel" "count" "I", Cond.fieldLink RX9 161 "ForkWatchModel" "plainSize" "I", Cond.fieldLink RX9 131 "ForkWatchModel" "plain" "[I", Cond.fieldLink RX9 107 "ForkWatchModel" "collected" "[I", Cond.fieldLink RX9 145 "ForkWatchModel" "size" "I", Cond.fieldLink RX9 116 "ForkWatchModel" "digest" "[I", Cond.methodLink RX9 195 yX9_isIn, Cond.static yX9_isIn, Cond.initialized RX9, Cond.code yX9_isIn cX9_isIn 2 (some .boolean), Cond.methodLink RX9 167 yX9_mac, Cond.instanceMethod yX9_mac, Cond.selects RX9 yX9_mac yX9_mac, Cond.code yX9_mac cX9_mac 2 none, Cond.fieldLink RX9 119 "ForkWatchModel" "inner" "[I", Cond.methodLink RX9 158 yX9_addKey, Cond.instanceMethod yX9_addKey, Cond.selects RX9 yX9_addKey yX9_addKey, Cond.code yX9_addKey cX9_addKey 3 none, Cond.methodLink RX9 152 yX9_add, Cond.instanceMethod yX9_add, Cond.selects RX9 yX9_add yX9_add, Cond.code yX9_add cX9_add 2 none, Cond.fieldLink RX9 113 "ForkWatchModel" "message" "[I"]
def wsX9_digest_r2 : List Cond := [Cond.methodLink RX9 164 yX9_hash, Cond.instanceMethod yX9_hash, Cond.selects RX9 yX9_hash yX9_hash, Cond.code yX9_hash cX9_hash 3 none, Cond.fieldLink RX9 125 "ForkWatchModel" "state" "[I", Cond.fieldLink RX9 85 "ForkWatchModel" "begins" "[I", Cond.methodLink RX9 155 yX9_mix, Cond.instanceMethod yX9_mix, Cond.selects RX9 yX9_mix yX9_mix, Cond.code yX9_mix cX9_mix 13 none, Cond.fieldLink RX9 122 "ForkWatchModel" "words" "[I", Cond.fieldLink RX9 71 "ForkWatchModel" "constants" "[I", Cond.methodLink RX9 148 yX9_right, Cond.static yX9_right, Cond.code yX9_right cX9_right 2 (some .int)]
def wsX9_digest : List Cond := .code yX9_digest cX9_digest 4 (some .int) :: ((wsX9_digest_r1 ++ wsX9_digest_r2) ++ wsX90)
def wsX9_plain : List Cond := .code yX9_plain cX9_plain 1 (some .boolean) :: ([])
def wsX9_count : List Cond := .code yX9_count cX9_count 2 (some .int) :: ([.fieldLink RX9 100 "ForkWatchModel" "worlds" "I", .fieldLink RX9 189 "ForkWatchModel" "well" "I", .fieldLink RX9 201 "ForkWatchModel" "stopped" "I", .fieldLink RX9 192 "ForkWatchModel" "count" "I", .fieldLink RX9 104 "ForkWatchModel" "shown" "[I"] ++ wsX90)
def wsJ9_max_7cf53 : List Cond := .code yJ9_max_7cf53 cJ9_max_7cf53 2 (some .int) :: ([])
def wsJ9_min_7cf53 : List Cond := .code yJ9_min_7cf53 cJ9_min_7cf53 2 (some .int) :: ([])
abbrev vwCl : List vw_C := [(RJx4a65c, TJx4a65c, 3), (RX0, TX0, 2), (RX1, TX1, 3), (RX2, TX2, 2), (RX3, TX3, 5), (RX4, TX4, 4), (RX5, TX5, 1), (RX6, TX6, 1), (RX7, TX7, 3), (RX8, TX8, 14), (RX9, TX9, 23)]
end
section
theorem dJ9_max_7cf53_0 : decode cJ9_max_7cf53 0 = .ok (.iload_n 0, 1) := by decide +kernel
theorem dJ9_max_7cf53_1 : decode cJ9_max_7cf53 1 = .ok (.iload_n 1, 1) := by decide +kernel
theorem dJ9_max_7cf53_2 : decode cJ9_max_7cf53 2 = .ok (.if_icmp .lt 7, 3) := by decide +kernel
theorem dJ9_max_7cf53_5 : decode cJ9_max_7cf53 5 = .ok (.iload_n 0, 1) := by decide +kernel
theorem dJ9_max_7cf53_6 : decode cJ9_max_7cf53 6 = .ok (.goto 4, 3) := by decide +kernel
theorem dJ9_max_7cf53_9 : decode cJ9_max_7cf53 9 = .ok (.iload_n 1, 1) := by decide +kernel
theorem dJ9_max_7cf53_10 : decode cJ9_max_7cf53 10 = .ok (.ireturn, 1) := by decide +kernel
theorem dJ9_min_7cf53_0 : decode cJ9_min_7cf53 0 = .ok (.iload_n 0, 1) := by decide +kernel
theorem dJ9_min_7cf53_1 : decode cJ9_min_7cf53 1 = .ok (.iload_n 1, 1) := by decide +kernel
theorem dJ9_min_7cf53_2 : decode cJ9_min_7cf53 2 = .ok (.if_icmp .gt 7, 3) := by decide +kernel
theorem dJ9_min_7cf53_5 : decode cJ9_min_7cf53 5 = .ok (.iload_n 0, 1) := by decide +kernel
theorem dJ9_min_7cf53_6 : decode cJ9_min_7cf53 6 = .ok (.goto 4, 3) := by decide +kernel
theorem dJ9_min_7cf53_9 : decode cJ9_min_7cf53 9 = .ok (.iload_n 1, 1) := by decide +kernel
theorem dJ9_min_7cf53_10 : decode cJ9_min_7cf53 10 = .ok (.ireturn, 1) := by decide +kernel
theorem dJxa1e45_init_da8c8_0 : decode cJxa1e45_init_da8c8 0 = .ok (.aload_n 0, 1) := by decide +kernel
theorem dJxa1e45_init_da8c8_1 : decode cJxa1e45_init_da8c8 1 = .ok (.invokespecial 1, 3) := by decide +kernel
theorem dJxa1e45_init_da8c8_4 : decode cJxa1e45_init_da8c8 4 = .ok (.return_, 1) := by decide +kernel
set_option maxRecDepth 20000 in
theorem ggJxc12de_init_da8c8_Jxa1e45_init_da8c8 : GoodIn wsJxc12de_init_da8c8 wsJxa1e45_init_da8c8 := goodIn_r _ [5, 6, 7, 8] (by decide +kernel) (by decide +kernel)
set_option maxRecDepth 20000 in
theorem gJxc12de_init_da8c8_Jxa1e45_init_da8c8 : GoodIn wsJxc12de_init_da8c8 (wsJxa1e45_init_da8c8) := ggJxc12de_init_da8c8_Jxa1e45_init_da8c8
theorem dJxc12de_init_da8c8_0 : decode cJxc12de_init_da8c8 0 = .ok (.aload_n 0, 1) := by decide +kernel
theorem dJxc12de_init_da8c8_1 : decode cJxc12de_init_da8c8 1 = .ok (.invokespecial 1, 3) := by decide +kernel
theorem dJxc12de_init_da8c8_4 : decode cJxc12de_init_da8c8 4 = .ok (.aload_n 0, 1) := by decide +kernel
theorem dJxc12de_init_da8c8_5 : decode cJxc12de_init_da8c8 5 = .ok (.iconst 0, 1) := by decide +kernel
theorem dJxc12de_init_da8c8_6 : decode cJxc12de_init_da8c8 6 = .ok (.putfield 7, 3) := by decide +kernel
theorem dJxc12de_init_da8c8_9 : decode cJxc12de_init_da8c8 9 = .ok (.return_, 1) := by decide +kernel
set_option maxRecDepth 20000 in
theorem ggJx4a65c_init_da8c8_Jxc12de_init_da8c8 : GoodIn wsJx4a65c_init_da8c8 wsJxc12de_init_da8c8 := goodIn_r _ [6, 7, 8, 9, 10, 11, 12, 13, 14, 15, 16, 17] (by decide +kernel) (by decide +kernel)
set_option maxRecDepth 20000 in
theorem gJx4a65c_init_da8c8_Jxc12de_init_da8c8 : GoodIn wsJx4a65c_init_da8c8 (wsJxc12de_init_da8c8) := ggJx4a65c_init_da8c8_Jxc12de_init_da8c8
theorem dJx4a65c_init_da8c8_0 : decode cJx4a65c_init_da8c8 0 = .ok (.aload_n 0, 1) := by decide +kernel
theorem dJx4a65c_init_da8c8_1 : decode cJx4a65c_init_da8c8 1 = .ok (.invokespecial 1, 3) := by decide +kernel
theorem dJx4a65c_init_da8c8_4 : decode cJx4a65c_init_da8c8 4 = .ok (.aload_n 0, 1) := by decide +kernel
theorem dJx4a65c_init_da8c8_5 : decode cJx4a65c_init_da8c8 5 = .ok (.getstatic 39, 3) := by decide +kernel
theorem dJx4a65c_init_da8c8_8 : decode cJx4a65c_init_da8c8 8 = .ok (.putfield 9, 3) := by decide +kernel
theorem dJx4a65c_init_da8c8_11 : decode cJx4a65c_init_da8c8 11 = .ok (.return_, 1) := by decide +kernel
set_option maxRecDepth 20000 in
theorem ggJx4a65c_grow_92f84_J8_newLength_cabcc : GoodIn wsJx4a65c_grow_92f84 wsJ8_newLength_cabcc := goodIn_r _ [11, 12, 4, 5, 6, 13, 14, 15, 10, 16] (by decide +kernel) (by decide +kernel)
set_option maxRecDepth 20000 in
theorem gJx4a65c_grow_92f84_J8_newLength_cabcc : GoodIn wsJx4a65c_grow_92f84 (va_wsS RJx4a65c 73 yJ8_newLength_cabcc wsJ8_newLength_cabcc) := goodIn_app (goodIn_of _ (by decide +kernel)) ggJx4a65c_grow_92f84_J8_newLength_cabcc
set_option maxRecDepth 20000 in
theorem ggJx4a65c_grow_92f84_J7_copyOf_1904c : GoodIn wsJx4a65c_grow_92f84 wsJ7_copyOf_1904c := goodIn_r _ [20, 21, 22, 23, 24, 25, 26, 19, 27, 28, 29, 30, 31, 5, 32, 33, 34, 35, 36] (by decide +kernel) (by decide +kernel)
set_option maxRecDepth 20000 in
theorem gJx4a65c_grow_92f84_J7_copyOf_1904c : GoodIn wsJx4a65c_grow_92f84 (va_wsS RJx4a65c 66 yJ7_copyOf_1904c wsJ7_copyOf_1904c) := goodIn_app (goodIn_of _ (by decide +kernel)) ggJx4a65c_grow_92f84_J7_copyOf_1904c
theorem dJx4a65c_grow_92f84_0 : decode cJx4a65c_grow_92f84 0 = .ok (.aload_n 0, 1) := by decide +kernel
theorem dJx4a65c_grow_92f84_1 : decode cJx4a65c_grow_92f84 1 = .ok (.getfield 9, 3) := by decide +kernel
theorem dJx4a65c_grow_92f84_4 : decode cJx4a65c_grow_92f84 4 = .ok (.arraylength, 1) := by decide +kernel
theorem dJx4a65c_grow_92f84_5 : decode cJx4a65c_grow_92f84 5 = .ok (.istore_n 2, 1) := by decide +kernel
theorem dJx4a65c_grow_92f84_6 : decode cJx4a65c_grow_92f84 6 = .ok (.iload_n 2, 1) := by decide +kernel
theorem dJx4a65c_grow_92f84_7 : decode cJx4a65c_grow_92f84 7 = .ok (.ifCond .gt 13, 3) := by decide +kernel
theorem dJx4a65c_grow_92f84_10 : decode cJx4a65c_grow_92f84 10 = .ok (.aload_n 0, 1) := by decide +kernel
theorem dJx4a65c_grow_92f84_11 : decode cJx4a65c_grow_92f84 11 = .ok (.getfield 9, 3) := by decide +kernel
theorem dJx4a65c_grow_92f84_14 : decode cJx4a65c_grow_92f84 14 = .ok (.getstatic 39, 3) := by decide +kernel
theorem dJx4a65c_grow_92f84_17 : decode cJx4a65c_grow_92f84 17 = .ok (.if_acmp .eq 28, 3) := by decide +kernel
theorem dJx4a65c_grow_92f84_20 : decode cJx4a65c_grow_92f84 20 = .ok (.iload_n 2, 1) := by decide +kernel
theorem dJx4a65c_grow_92f84_21 : decode cJx4a65c_grow_92f84 21 = .ok (.iload_n 1, 1) := by decide +kernel
theorem dJx4a65c_grow_92f84_22 : decode cJx4a65c_grow_92f84 22 = .ok (.iload_n 2, 1) := by decide +kernel
theorem dJx4a65c_grow_92f84_23 : decode cJx4a65c_grow_92f84 23 = .ok (.isub, 1) := by decide +kernel
theorem dJx4a65c_grow_92f84_24 : decode cJx4a65c_grow_92f84 24 = .ok (.iload_n 2, 1) := by decide +kernel
theorem dJx4a65c_grow_92f84_25 : decode cJx4a65c_grow_92f84 25 = .ok (.iconst 1, 1) := by decide +kernel
theorem dJx4a65c_grow_92f84_26 : decode cJx4a65c_grow_92f84 26 = .ok (.ishr, 1) := by decide +kernel
theorem dJx4a65c_grow_92f84_27 : decode cJx4a65c_grow_92f84 27 = .ok (.invokestatic 73, 3) := by decide +kernel
theorem dJx4a65c_grow_92f84_30 : decode cJx4a65c_grow_92f84 30 = .ok (.istore_n 3, 1) := by decide +kernel
theorem dJx4a65c_grow_92f84_31 : decode cJx4a65c_grow_92f84 31 = .ok (.aload_n 0, 1) := by decide +kernel
theorem dJx4a65c_grow_92f84_32 : decode cJx4a65c_grow_92f84 32 = .ok (.aload_n 0, 1) := by decide +kernel
theorem dJx4a65c_grow_92f84_33 : decode cJx4a65c_grow_92f84 33 = .ok (.getfield 9, 3) := by decide +kernel
theorem dJx4a65c_grow_92f84_36 : decode cJx4a65c_grow_92f84 36 = .ok (.iload_n 3, 1) := by decide +kernel
theorem dJx4a65c_grow_92f84_37 : decode cJx4a65c_grow_92f84 37 = .ok (.invokestatic 66, 3) := by decide +kernel
theorem dJx4a65c_grow_92f84_40 : decode cJx4a65c_grow_92f84 40 = .ok (.dup_x1, 1) := by decide +kernel
theorem dJx4a65c_grow_92f84_41 : decode cJx4a65c_grow_92f84 41 = .ok (.putfield 9, 3) := by decide +kernel
theorem dJx4a65c_grow_92f84_44 : decode cJx4a65c_grow_92f84 44 = .ok (.areturn, 1) := by decide +kernel
theorem dJx4a65c_grow_92f84_45 : decode cJx4a65c_grow_92f84 45 = .ok (.aload_n 0, 1) := by decide +kernel
theorem dJx4a65c_grow_92f84_46 : decode cJx4a65c_grow_92f84 46 = .ok (.bipush 10, 2) := by decide +kernel
theorem dJx4a65c_grow_92f84_48 : decode cJx4a65c_grow_92f84 48 = .ok (.iload_n 1, 1) := by decide +kernel
theorem dJx4a65c_grow_92f84_49 : decode cJx4a65c_grow_92f84 49 = .ok (.invokestatic 79, 3) := by decide +kernel
theorem dJx4a65c_grow_92f84_52 : decode cJx4a65c_grow_92f84 52 = .ok (.anewarray 7, 3) := by decide +kernel
theorem dJx4a65c_grow_92f84_55 : decode cJx4a65c_grow_92f84 55 = .ok (.dup_x1, 1) := by decide +kernel
theorem dJx4a65c_grow_92f84_56 : decode cJx4a65c_grow_92f84 56 = .ok (.putfield 9, 3) := by decide +kernel
theorem dJx4a65c_grow_92f84_59 : decode cJx4a65c_grow_92f84 59 = .ok (.areturn, 1) := by decide +kernel
set_option maxRecDepth 20000 in
theorem ggJx4a65c_grow_d5877_Jx4a65c_grow_92f84 : GoodIn wsJx4a65c_grow_d5877 wsJx4a65c_grow_92f84 := goodIn_r _ [6, 7, 8, 9, 10, 11, 12, 13, 14, 15, 16, 17, 18, 19, 20, 21, 22, 23, 24, 25, 26, 27, 28, 29, 30, 31, 32, 33, 34, 35, 36, 37, 38, 39, 40, 41, 42, 43, 44, 45] (by decide +kernel) (by decide +kernel)
set_option maxRecDepth 20000 in
theorem gJx4a65c_grow_d5877_Jx4a65c_grow_92f84 : GoodIn wsJx4a65c_grow_d5877 (wsV RJx4a65c 69 RJx4a65c yJx4a65c_grow_92f84 wsJx4a65c_grow_92f84) := goodIn_app (goodIn_of _ (by decide +kernel)) ggJx4a65c_grow_d5877_Jx4a65c_grow_92f84
theorem dJx4a65c_grow_d5877_0 : decode cJx4a65c_grow_d5877 0 = .ok (.aload_n 0, 1) := by decide +kernel
theorem dJx4a65c_grow_d5877_1 : decode cJx4a65c_grow_d5877 1 = .ok (.aload_n 0, 1) := by decide +kernel
theorem dJx4a65c_grow_d5877_2 : decode cJx4a65c_grow_d5877 2 = .ok (.getfield 48, 3) := by decide +kernel
theorem dJx4a65c_grow_d5877_5 : decode cJx4a65c_grow_d5877 5 = .ok (.iconst 1, 1) := by decide +kernel
theorem dJx4a65c_grow_d5877_6 : decode cJx4a65c_grow_d5877 6 = .ok (.iadd, 1) := by decide +kernel
theorem dJx4a65c_grow_d5877_7 : decode cJx4a65c_grow_d5877 7 = .ok (.invokevirtual 69, 3) := by decide +kernel
theorem dJx4a65c_grow_d5877_10 : decode cJx4a65c_grow_d5877 10 = .ok (.areturn, 1) := by decide +kernel
theorem dJx4a65c_size_8abf5_0 : decode cJx4a65c_size_8abf5 0 = .ok (.aload_n 0, 1) := by decide +kernel
theorem dJx4a65c_size_8abf5_1 : decode cJx4a65c_size_8abf5 1 = .ok (.getfield 48, 3) := by decide +kernel
theorem dJx4a65c_size_8abf5_4 : decode cJx4a65c_size_8abf5 4 = .ok (.ireturn, 1) := by decide +kernel
theorem dJx4a65c_elementData_915e3_0 : decode cJx4a65c_elementData_915e3 0 = .ok (.aload_n 0, 1) := by decide +kernel
theorem dJx4a65c_elementData_915e3_1 : decode cJx4a65c_elementData_915e3 1 = .ok (.getfield 9, 3) := by decide +kernel
theorem dJx4a65c_elementData_915e3_4 : decode cJx4a65c_elementData_915e3 4 = .ok (.iload_n 1, 1) := by decide +kernel
theorem dJx4a65c_elementData_915e3_5 : decode cJx4a65c_elementData_915e3 5 = .ok (.aaload, 1) := by decide +kernel
theorem dJx4a65c_elementData_915e3_6 : decode cJx4a65c_elementData_915e3 6 = .ok (.areturn, 1) := by decide +kernel
set_option maxRecDepth 20000 in
theorem ggJx4a65c_get_915e3_J15_checkIndex_7cf53 : GoodIn wsJx4a65c_get_915e3 wsJ15_checkIndex_7cf53 := goodIn_r _ [5, 6, 7, 8, 9] (by decide +kernel) (by decide +kernel)
set_option maxRecDepth 20000 in
theorem gJx4a65c_get_915e3_J15_checkIndex_7cf53 : GoodIn wsJx4a65c_get_915e3 (va_wsS RJx4a65c 118 yJ15_checkIndex_7cf53 wsJ15_checkIndex_7cf53) := goodIn_app (goodIn_of _ (by decide +kernel)) ggJx4a65c_get_915e3_J15_checkIndex_7cf53
set_option maxRecDepth 20000 in
theorem ggJx4a65c_get_915e3_Jx4a65c_elementData_915e3 : GoodIn wsJx4a65c_get_915e3 wsJx4a65c_elementData_915e3 := goodIn_r _ [14, 15, 16, 17, 18] (by decide +kernel) (by decide +kernel)
set_option maxRecDepth 20000 in
theorem gJx4a65c_get_915e3_Jx4a65c_elementData_915e3 : GoodIn wsJx4a65c_get_915e3 (wsV RJx4a65c 123 RJx4a65c yJx4a65c_elementData_915e3 wsJx4a65c_elementData_915e3) := goodIn_app (goodIn_of _ (by decide +kernel)) ggJx4a65c_get_915e3_Jx4a65c_elementData_915e3
theorem dJx4a65c_get_915e3_0 : decode cJx4a65c_get_915e3 0 = .ok (.iload_n 1, 1) := by decide +kernel
theorem dJx4a65c_get_915e3_1 : decode cJx4a65c_get_915e3 1 = .ok (.aload_n 0, 1) := by decide +kernel
theorem dJx4a65c_get_915e3_2 : decode cJx4a65c_get_915e3 2 = .ok (.getfield 48, 3) := by decide +kernel
theorem dJx4a65c_get_915e3_5 : decode cJx4a65c_get_915e3 5 = .ok (.invokestatic 118, 3) := by decide +kernel
theorem dJx4a65c_get_915e3_8 : decode cJx4a65c_get_915e3 8 = .ok (.pop, 1) := by decide +kernel
theorem dJx4a65c_get_915e3_9 : decode cJx4a65c_get_915e3 9 = .ok (.aload_n 0, 1) := by decide +kernel
theorem dJx4a65c_get_915e3_10 : decode cJx4a65c_get_915e3 10 = .ok (.iload_n 1, 1) := by decide +kernel
theorem dJx4a65c_get_915e3_11 : decode cJx4a65c_get_915e3 11 = .ok (.invokevirtual 123, 3) := by decide +kernel
theorem dJx4a65c_get_915e3_14 : decode cJx4a65c_get_915e3 14 = .ok (.areturn, 1) := by decide +kernel
set_option maxRecDepth 20000 in
theorem ggJx4a65c_add_72be8_Jx4a65c_grow_d5877 : GoodIn wsJx4a65c_add_72be8 wsJx4a65c_grow_d5877 := goodIn_r _ [6, 1, 7, 8, 9, 5, 10, 11, 12, 13, 14, 15, 16, 17, 18, 19, 20, 21, 22, 23, 24, 25, 26, 27, 28, 29, 30, 31, 32, 33, 34, 35, 36, 37, 38, 39, 40, 41, 42, 43, 44, 45, 46, 47, 48, 49] (by decide +kernel) (by decide +kernel)
set_option maxRecDepth 20000 in
theorem gJx4a65c_add_72be8_Jx4a65c_grow_d5877 : GoodIn wsJx4a65c_add_72be8 (wsV RJx4a65c 129 RJx4a65c yJx4a65c_grow_d5877 wsJx4a65c_grow_d5877) := goodIn_app (goodIn_of _ (by decide +kernel)) ggJx4a65c_add_72be8_Jx4a65c_grow_d5877
theorem dJx4a65c_add_72be8_0 : decode cJx4a65c_add_72be8 0 = .ok (.iload_n 3, 1) := by decide +kernel
theorem dJx4a65c_add_72be8_1 : decode cJx4a65c_add_72be8 1 = .ok (.aload_n 2, 1) := by decide +kernel
theorem dJx4a65c_add_72be8_2 : decode cJx4a65c_add_72be8 2 = .ok (.arraylength, 1) := by decide +kernel
theorem dJx4a65c_add_72be8_3 : decode cJx4a65c_add_72be8 3 = .ok (.if_icmp .ne 8, 3) := by decide +kernel
theorem dJx4a65c_add_72be8_6 : decode cJx4a65c_add_72be8 6 = .ok (.aload_n 0, 1) := by decide +kernel
theorem dJx4a65c_add_72be8_7 : decode cJx4a65c_add_72be8 7 = .ok (.invokevirtual 129, 3) := by decide +kernel
theorem dJx4a65c_add_72be8_10 : decode cJx4a65c_add_72be8 10 = .ok (.astore_n 2, 1) := by decide +kernel
theorem dJx4a65c_add_72be8_11 : decode cJx4a65c_add_72be8 11 = .ok (.aload_n 2, 1) := by decide +kernel
theorem dJx4a65c_add_72be8_12 : decode cJx4a65c_add_72be8 12 = .ok (.iload_n 3, 1) := by decide +kernel
theorem dJx4a65c_add_72be8_13 : decode cJx4a65c_add_72be8 13 = .ok (.aload_n 1, 1) := by decide +kernel
theorem dJx4a65c_add_72be8_14 : decode cJx4a65c_add_72be8 14 = .ok (.aastore, 1) := by decide +kernel
theorem dJx4a65c_add_72be8_15 : decode cJx4a65c_add_72be8 15 = .ok (.aload_n 0, 1) := by decide +kernel
theorem dJx4a65c_add_72be8_16 : decode cJx4a65c_add_72be8 16 = .ok (.iload_n 3, 1) := by decide +kernel
theorem dJx4a65c_add_72be8_17 : decode cJx4a65c_add_72be8 17 = .ok (.iconst 1, 1) := by decide +kernel
theorem dJx4a65c_add_72be8_18 : decode cJx4a65c_add_72be8 18 = .ok (.iadd, 1) := by decide +kernel
theorem dJx4a65c_add_72be8_19 : decode cJx4a65c_add_72be8 19 = .ok (.putfield 48, 3) := by decide +kernel
theorem dJx4a65c_add_72be8_22 : decode cJx4a65c_add_72be8 22 = .ok (.return_, 1) := by decide +kernel
set_option maxRecDepth 20000 in
theorem ggJx4a65c_add_9ea2d_Jx4a65c_add_72be8 : GoodIn wsJx4a65c_add_9ea2d wsJx4a65c_add_72be8 := goodIn_r _ [9, 4, 10, 11, 12, 8, 13, 14, 15, 16, 17, 3, 18, 19, 20, 21, 22, 23, 24, 25, 26, 27, 28, 29, 30, 31, 32, 33, 34, 35, 36, 37, 38, 39, 40, 41, 42, 43, 44, 45, 46, 47, 48, 49, 50, 51, 52, 53, 54, 55] (by decide +kernel) (by decide +kernel)
set_option maxRecDepth 20000 in
theorem gJx4a65c_add_9ea2d_Jx4a65c_add_72be8 : GoodIn wsJx4a65c_add_9ea2d (wsV RJx4a65c 131 RJx4a65c yJx4a65c_add_72be8 wsJx4a65c_add_72be8) := goodIn_app (goodIn_of _ (by decide +kernel)) ggJx4a65c_add_9ea2d_Jx4a65c_add_72be8
theorem dJx4a65c_add_9ea2d_0 : decode cJx4a65c_add_9ea2d 0 = .ok (.aload_n 0, 1) := by decide +kernel
theorem dJx4a65c_add_9ea2d_1 : decode cJx4a65c_add_9ea2d 1 = .ok (.dup, 1) := by decide +kernel
theorem dJx4a65c_add_9ea2d_2 : decode cJx4a65c_add_9ea2d 2 = .ok (.getfield 63, 3) := by decide +kernel
theorem dJx4a65c_add_9ea2d_5 : decode cJx4a65c_add_9ea2d 5 = .ok (.iconst 1, 1) := by decide +kernel
theorem dJx4a65c_add_9ea2d_6 : decode cJx4a65c_add_9ea2d 6 = .ok (.iadd, 1) := by decide +kernel
theorem dJx4a65c_add_9ea2d_7 : decode cJx4a65c_add_9ea2d 7 = .ok (.putfield 63, 3) := by decide +kernel
theorem dJx4a65c_add_9ea2d_10 : decode cJx4a65c_add_9ea2d 10 = .ok (.aload_n 0, 1) := by decide +kernel
theorem dJx4a65c_add_9ea2d_11 : decode cJx4a65c_add_9ea2d 11 = .ok (.aload_n 1, 1) := by decide +kernel
theorem dJx4a65c_add_9ea2d_12 : decode cJx4a65c_add_9ea2d 12 = .ok (.aload_n 0, 1) := by decide +kernel
theorem dJx4a65c_add_9ea2d_13 : decode cJx4a65c_add_9ea2d 13 = .ok (.getfield 9, 3) := by decide +kernel
theorem dJx4a65c_add_9ea2d_16 : decode cJx4a65c_add_9ea2d 16 = .ok (.aload_n 0, 1) := by decide +kernel
theorem dJx4a65c_add_9ea2d_17 : decode cJx4a65c_add_9ea2d 17 = .ok (.getfield 48, 3) := by decide +kernel
theorem dJx4a65c_add_9ea2d_20 : decode cJx4a65c_add_9ea2d 20 = .ok (.invokevirtual 131, 3) := by decide +kernel
theorem dJx4a65c_add_9ea2d_23 : decode cJx4a65c_add_9ea2d 23 = .ok (.iconst 1, 1) := by decide +kernel
theorem dJx4a65c_add_9ea2d_24 : decode cJx4a65c_add_9ea2d 24 = .ok (.ireturn, 1) := by decide +kernel
theorem dJ7_fill_53178_0 : decode cJ7_fill_53178 0 = .ok (.iconst 0, 1) := by decide +kernel
theorem dJ7_fill_53178_1 : decode cJ7_fill_53178 1 = .ok (.istore_n 2, 1) := by decide +kernel
theorem dJ7_fill_53178_2 : decode cJ7_fill_53178 2 = .ok (.aload_n 0, 1) := by decide +kernel
theorem dJ7_fill_53178_3 : decode cJ7_fill_53178 3 = .ok (.arraylength, 1) := by decide +kernel
theorem dJ7_fill_53178_4 : decode cJ7_fill_53178 4 = .ok (.istore_n 3, 1) := by decide +kernel
theorem dJ7_fill_53178_5 : decode cJ7_fill_53178 5 = .ok (.iload_n 2, 1) := by decide +kernel
theorem dJ7_fill_53178_6 : decode cJ7_fill_53178 6 = .ok (.iload_n 3, 1) := by decide +kernel
theorem dJ7_fill_53178_7 : decode cJ7_fill_53178 7 = .ok (.if_icmp .ge 13, 3) := by decide +kernel
theorem dJ7_fill_53178_10 : decode cJ7_fill_53178 10 = .ok (.aload_n 0, 1) := by decide +kernel
theorem dJ7_fill_53178_11 : decode cJ7_fill_53178 11 = .ok (.iload_n 2, 1) := by decide +kernel
theorem dJ7_fill_53178_12 : decode cJ7_fill_53178 12 = .ok (.iload_n 1, 1) := by decide +kernel
theorem dJ7_fill_53178_13 : decode cJ7_fill_53178 13 = .ok (.iastore, 1) := by decide +kernel
theorem dJ7_fill_53178_14 : decode cJ7_fill_53178 14 = .ok (.iinc 2 1, 3) := by decide +kernel
theorem dJ7_fill_53178_17 : decode cJ7_fill_53178 17 = .ok (.goto (-12), 3) := by decide +kernel
theorem dJ7_fill_53178_20 : decode cJ7_fill_53178 20 = .ok (.return_, 1) := by decide +kernel
set_option maxRecDepth 20000 in
theorem ggJ7_copyOf_1904c_J7_copyOf_6403c : GoodIn wsJ7_copyOf_1904c wsJ7_copyOf_6403c := goodIn_r _ [8, 9, 10, 11, 12, 13, 14, 15, 16, 17, 18] (by decide +kernel) (by decide +kernel)
set_option maxRecDepth 20000 in
theorem gJ7_copyOf_1904c_J7_copyOf_6403c : GoodIn wsJ7_copyOf_1904c (va_wsS RJ7 300 yJ7_copyOf_6403c wsJ7_copyOf_6403c) := goodIn_app (goodIn_of _ (by decide +kernel)) ggJ7_copyOf_1904c_J7_copyOf_6403c
theorem dJ7_copyOf_1904c_0 : decode cJ7_copyOf_1904c 0 = .ok (.aload_n 0, 1) := by decide +kernel
theorem dJ7_copyOf_1904c_1 : decode cJ7_copyOf_1904c 1 = .ok (.iload_n 1, 1) := by decide +kernel
theorem dJ7_copyOf_1904c_2 : decode cJ7_copyOf_1904c 2 = .ok (.aload_n 0, 1) := by decide +kernel
theorem dJ7_copyOf_1904c_3 : decode cJ7_copyOf_1904c 3 = .ok (.invokevirtual 86, 3) := by decide +kernel
theorem dJ7_copyOf_1904c_6 : decode cJ7_copyOf_1904c 6 = .ok (.invokestatic 300, 3) := by decide +kernel
theorem dJ7_copyOf_1904c_9 : decode cJ7_copyOf_1904c 9 = .ok (.areturn, 1) := by decide +kernel
theorem dJ7_copyOf_6403c_0 : decode cJ7_copyOf_6403c 0 = .ok (.aload_n 2, 1) := by decide +kernel
theorem dJ7_copyOf_6403c_1 : decode cJ7_copyOf_6403c 1 = .ok (.ldc 110, 2) := by decide +kernel
theorem dJ7_copyOf_6403c_3 : decode cJ7_copyOf_6403c 3 = .ok (.if_acmp .ne 10, 3) := by decide +kernel
theorem dJ7_copyOf_6403c_6 : decode cJ7_copyOf_6403c 6 = .ok (.iload_n 1, 1) := by decide +kernel
theorem dJ7_copyOf_6403c_7 : decode cJ7_copyOf_6403c 7 = .ok (.anewarray 2, 3) := by decide +kernel
theorem dJ7_copyOf_6403c_10 : decode cJ7_copyOf_6403c 10 = .ok (.goto 14, 3) := by decide +kernel
theorem dJ7_copyOf_6403c_13 : decode cJ7_copyOf_6403c 13 = .ok (.aload_n 2, 1) := by decide +kernel
theorem dJ7_copyOf_6403c_14 : decode cJ7_copyOf_6403c 14 = .ok (.invokevirtual 90, 3) := by decide +kernel
theorem dJ7_copyOf_6403c_17 : decode cJ7_copyOf_6403c 17 = .ok (.iload_n 1, 1) := by decide +kernel
theorem dJ7_copyOf_6403c_18 : decode cJ7_copyOf_6403c 18 = .ok (.invokestatic 95, 3) := by decide +kernel
theorem dJ7_copyOf_6403c_21 : decode cJ7_copyOf_6403c 21 = .ok (.checkcast 110, 3) := by decide +kernel
theorem dJ7_copyOf_6403c_24 : decode cJ7_copyOf_6403c 24 = .ok (.astore_n 3, 1) := by decide +kernel
theorem dJ7_copyOf_6403c_25 : decode cJ7_copyOf_6403c 25 = .ok (.aload_n 0, 1) := by decide +kernel
theorem dJ7_copyOf_6403c_26 : decode cJ7_copyOf_6403c 26 = .ok (.iconst 0, 1) := by decide +kernel
theorem dJ7_copyOf_6403c_27 : decode cJ7_copyOf_6403c 27 = .ok (.aload_n 3, 1) := by decide +kernel
theorem dJ7_copyOf_6403c_28 : decode cJ7_copyOf_6403c 28 = .ok (.iconst 0, 1) := by decide +kernel
theorem dJ7_copyOf_6403c_29 : decode cJ7_copyOf_6403c 29 = .ok (.aload_n 0, 1) := by decide +kernel
theorem dJ7_copyOf_6403c_30 : decode cJ7_copyOf_6403c 30 = .ok (.arraylength, 1) := by decide +kernel
theorem dJ7_copyOf_6403c_31 : decode cJ7_copyOf_6403c 31 = .ok (.iload_n 1, 1) := by decide +kernel
theorem dJ7_copyOf_6403c_32 : decode cJ7_copyOf_6403c 32 = .ok (.invokestatic 304, 3) := by decide +kernel
theorem dJ7_copyOf_6403c_35 : decode cJ7_copyOf_6403c 35 = .ok (.invokestatic 150, 3) := by decide +kernel
theorem dJ7_copyOf_6403c_38 : decode cJ7_copyOf_6403c 38 = .ok (.aload_n 3, 1) := by decide +kernel
theorem dJ7_copyOf_6403c_39 : decode cJ7_copyOf_6403c 39 = .ok (.areturn, 1) := by decide +kernel
theorem dJ7_copyOf_59c91_0 : decode cJ7_copyOf_59c91 0 = .ok (.iload_n 1, 1) := by decide +kernel
theorem dJ7_copyOf_59c91_1 : decode cJ7_copyOf_59c91 1 = .ok (.aload_n 0, 1) := by decide +kernel
theorem dJ7_copyOf_59c91_2 : decode cJ7_copyOf_59c91 2 = .ok (.arraylength, 1) := by decide +kernel
theorem dJ7_copyOf_59c91_3 : decode cJ7_copyOf_59c91 3 = .ok (.if_icmp .ne 11, 3) := by decide +kernel
theorem dJ7_copyOf_59c91_6 : decode cJ7_copyOf_59c91 6 = .ok (.aload_n 0, 1) := by decide +kernel
theorem dJ7_copyOf_59c91_7 : decode cJ7_copyOf_59c91 7 = .ok (.invokevirtual 316, 3) := by decide +kernel
theorem dJ7_copyOf_59c91_10 : decode cJ7_copyOf_59c91 10 = .ok (.checkcast 317, 3) := by decide +kernel
theorem dJ7_copyOf_59c91_13 : decode cJ7_copyOf_59c91 13 = .ok (.areturn, 1) := by decide +kernel
theorem dJ7_copyOf_59c91_14 : decode cJ7_copyOf_59c91 14 = .ok (.iload_n 1, 1) := by decide +kernel
theorem dJ7_copyOf_59c91_15 : decode cJ7_copyOf_59c91 15 = .ok (.newarray .int, 2) := by decide +kernel
theorem dJ7_copyOf_59c91_17 : decode cJ7_copyOf_59c91 17 = .ok (.astore_n 2, 1) := by decide +kernel
theorem dJ7_copyOf_59c91_18 : decode cJ7_copyOf_59c91 18 = .ok (.aload_n 0, 1) := by decide +kernel
theorem dJ7_copyOf_59c91_19 : decode cJ7_copyOf_59c91 19 = .ok (.iconst 0, 1) := by decide +kernel
theorem dJ7_copyOf_59c91_20 : decode cJ7_copyOf_59c91 20 = .ok (.aload_n 2, 1) := by decide +kernel
theorem dJ7_copyOf_59c91_21 : decode cJ7_copyOf_59c91 21 = .ok (.iconst 0, 1) := by decide +kernel
theorem dJ7_copyOf_59c91_22 : decode cJ7_copyOf_59c91 22 = .ok (.aload_n 0, 1) := by decide +kernel
theorem dJ7_copyOf_59c91_23 : decode cJ7_copyOf_59c91 23 = .ok (.arraylength, 1) := by decide +kernel
theorem dJ7_copyOf_59c91_24 : decode cJ7_copyOf_59c91 24 = .ok (.iload_n 1, 1) := by decide +kernel
theorem dJ7_copyOf_59c91_25 : decode cJ7_copyOf_59c91 25 = .ok (.invokestatic 304, 3) := by decide +kernel
theorem dJ7_copyOf_59c91_28 : decode cJ7_copyOf_59c91 28 = .ok (.invokestatic 150, 3) := by decide +kernel
theorem dJ7_copyOf_59c91_31 : decode cJ7_copyOf_59c91 31 = .ok (.aload_n 2, 1) := by decide +kernel
theorem dJ7_copyOf_59c91_32 : decode cJ7_copyOf_59c91 32 = .ok (.areturn, 1) := by decide +kernel
set_option maxRecDepth 20000 in
theorem ggJ15_checkIndex_7cf53_J3_checkIndex_8e157 : GoodIn wsJ15_checkIndex_7cf53 wsJ3_checkIndex_8e157 := goodIn_r _ [4] (by decide +kernel) (by decide +kernel)
set_option maxRecDepth 20000 in
theorem gJ15_checkIndex_7cf53_J3_checkIndex_8e157 : GoodIn wsJ15_checkIndex_7cf53 (va_wsS RJ15 105 yJ3_checkIndex_8e157 wsJ3_checkIndex_8e157) := goodIn_app (goodIn_of _ (by decide +kernel)) ggJ15_checkIndex_7cf53_J3_checkIndex_8e157
theorem dJ15_checkIndex_7cf53_0 : decode cJ15_checkIndex_7cf53 0 = .ok (.iload_n 0, 1) := by decide +kernel
theorem dJ15_checkIndex_7cf53_1 : decode cJ15_checkIndex_7cf53 1 = .ok (.iload_n 1, 1) := by decide +kernel
theorem dJ15_checkIndex_7cf53_2 : decode cJ15_checkIndex_7cf53 2 = .ok (.aconst_null, 1) := by decide +kernel
theorem dJ15_checkIndex_7cf53_3 : decode cJ15_checkIndex_7cf53 3 = .ok (.invokestatic 105, 3) := by decide +kernel
theorem dJ15_checkIndex_7cf53_6 : decode cJ15_checkIndex_7cf53 6 = .ok (.ireturn, 1) := by decide +kernel
set_option maxRecDepth 20000 in
theorem ggJ8_newLength_cabcc_J8_hugeLength_7cf53 : GoodIn wsJ8_newLength_cabcc wsJ8_hugeLength_7cf53 := goodIn_r _ [9, 5] (by decide +kernel) (by decide +kernel)
set_option maxRecDepth 20000 in
theorem gJ8_newLength_cabcc_J8_hugeLength_7cf53 : GoodIn wsJ8_newLength_cabcc (va_wsS RJ8 201 yJ8_hugeLength_7cf53 wsJ8_hugeLength_7cf53) := goodIn_app (goodIn_of _ (by decide +kernel)) ggJ8_newLength_cabcc_J8_hugeLength_7cf53
theorem dJ8_newLength_cabcc_0 : decode cJ8_newLength_cabcc 0 = .ok (.iload_n 0, 1) := by decide +kernel
theorem dJ8_newLength_cabcc_1 : decode cJ8_newLength_cabcc 1 = .ok (.iload_n 1, 1) := by decide +kernel
theorem dJ8_newLength_cabcc_2 : decode cJ8_newLength_cabcc 2 = .ok (.iload_n 2, 1) := by decide +kernel
theorem dJ8_newLength_cabcc_3 : decode cJ8_newLength_cabcc 3 = .ok (.invokestatic 194, 3) := by decide +kernel
theorem dJ8_newLength_cabcc_6 : decode cJ8_newLength_cabcc 6 = .ok (.iadd, 1) := by decide +kernel
theorem dJ8_newLength_cabcc_7 : decode cJ8_newLength_cabcc 7 = .ok (.istore_n 3, 1) := by decide +kernel
theorem dJ8_newLength_cabcc_8 : decode cJ8_newLength_cabcc 8 = .ok (.iconst 0, 1) := by decide +kernel
theorem dJ8_newLength_cabcc_9 : decode cJ8_newLength_cabcc 9 = .ok (.iload_n 3, 1) := by decide +kernel
theorem dJ8_newLength_cabcc_10 : decode cJ8_newLength_cabcc 10 = .ok (.if_icmp .ge 11, 3) := by decide +kernel
theorem dJ8_newLength_cabcc_13 : decode cJ8_newLength_cabcc 13 = .ok (.iload_n 3, 1) := by decide +kernel
theorem dJ8_newLength_cabcc_14 : decode cJ8_newLength_cabcc 14 = .ok (.ldc 200, 2) := by decide +kernel
theorem dJ8_newLength_cabcc_16 : decode cJ8_newLength_cabcc 16 = .ok (.if_icmp .gt 5, 3) := by decide +kernel
theorem dJ8_newLength_cabcc_19 : decode cJ8_newLength_cabcc 19 = .ok (.iload_n 3, 1) := by decide +kernel
theorem dJ8_newLength_cabcc_20 : decode cJ8_newLength_cabcc 20 = .ok (.ireturn, 1) := by decide +kernel
theorem dJ8_newLength_cabcc_21 : decode cJ8_newLength_cabcc 21 = .ok (.iload_n 0, 1) := by decide +kernel
theorem dJ8_newLength_cabcc_22 : decode cJ8_newLength_cabcc 22 = .ok (.iload_n 1, 1) := by decide +kernel
theorem dJ8_newLength_cabcc_23 : decode cJ8_newLength_cabcc 23 = .ok (.invokestatic 201, 3) := by decide +kernel
theorem dJ8_newLength_cabcc_26 : decode cJ8_newLength_cabcc 26 = .ok (.ireturn, 1) := by decide +kernel
theorem dJ8_hugeLength_7cf53_0 : decode cJ8_hugeLength_7cf53 0 = .ok (.iload_n 0, 1) := by decide +kernel
theorem dJ8_hugeLength_7cf53_1 : decode cJ8_hugeLength_7cf53 1 = .ok (.iload_n 1, 1) := by decide +kernel
theorem dJ8_hugeLength_7cf53_2 : decode cJ8_hugeLength_7cf53 2 = .ok (.iadd, 1) := by decide +kernel
theorem dJ8_hugeLength_7cf53_3 : decode cJ8_hugeLength_7cf53 3 = .ok (.istore_n 2, 1) := by decide +kernel
theorem dJ8_hugeLength_7cf53_4 : decode cJ8_hugeLength_7cf53 4 = .ok (.iload_n 2, 1) := by decide +kernel
theorem dJ8_hugeLength_7cf53_5 : decode cJ8_hugeLength_7cf53 5 = .ok (.ifCond .ge 44, 3) := by decide +kernel
theorem dJ8_hugeLength_7cf53_8 : decode cJ8_hugeLength_7cf53 8 = .ok (.new 204, 3) := by decide +kernel
theorem dJ8_hugeLength_7cf53_11 : decode cJ8_hugeLength_7cf53 11 = .ok (.dup, 1) := by decide +kernel
theorem dJ8_hugeLength_7cf53_12 : decode cJ8_hugeLength_7cf53 12 = .ok (.new 89, 3) := by decide +kernel
theorem dJ8_hugeLength_7cf53_15 : decode cJ8_hugeLength_7cf53 15 = .ok (.dup, 1) := by decide +kernel
theorem dJ8_hugeLength_7cf53_16 : decode cJ8_hugeLength_7cf53 16 = .ok (.invokespecial 91, 3) := by decide +kernel
theorem dJ8_hugeLength_7cf53_19 : decode cJ8_hugeLength_7cf53 19 = .ok (.ldc 206, 2) := by decide +kernel
theorem dJ8_hugeLength_7cf53_21 : decode cJ8_hugeLength_7cf53 21 = .ok (.invokevirtual 94, 3) := by decide +kernel
theorem dJ8_hugeLength_7cf53_24 : decode cJ8_hugeLength_7cf53 24 = .ok (.iload_n 0, 1) := by decide +kernel
theorem dJ8_hugeLength_7cf53_25 : decode cJ8_hugeLength_7cf53 25 = .ok (.invokevirtual 98, 3) := by decide +kernel
theorem dJ8_hugeLength_7cf53_28 : decode cJ8_hugeLength_7cf53 28 = .ok (.ldc 208, 2) := by decide +kernel
theorem dJ8_hugeLength_7cf53_30 : decode cJ8_hugeLength_7cf53 30 = .ok (.invokevirtual 94, 3) := by decide +kernel
theorem dJ8_hugeLength_7cf53_33 : decode cJ8_hugeLength_7cf53 33 = .ok (.iload_n 1, 1) := by decide +kernel
theorem dJ8_hugeLength_7cf53_34 : decode cJ8_hugeLength_7cf53 34 = .ok (.invokevirtual 98, 3) := by decide +kernel
theorem dJ8_hugeLength_7cf53_37 : decode cJ8_hugeLength_7cf53 37 = .ok (.ldc 210, 2) := by decide +kernel
theorem dJ8_hugeLength_7cf53_39 : decode cJ8_hugeLength_7cf53 39 = .ok (.invokevirtual 94, 3) := by decide +kernel
theorem dJ8_hugeLength_7cf53_42 : decode cJ8_hugeLength_7cf53 42 = .ok (.invokevirtual 101, 3) := by decide +kernel
theorem dJ8_hugeLength_7cf53_45 : decode cJ8_hugeLength_7cf53 45 = .ok (.invokespecial 212, 3) := by decide +kernel
theorem dJ8_hugeLength_7cf53_48 : decode cJ8_hugeLength_7cf53 48 = .ok (.athrow, 1) := by decide +kernel
theorem dJ8_hugeLength_7cf53_49 : decode cJ8_hugeLength_7cf53 49 = .ok (.iload_n 2, 1) := by decide +kernel
theorem dJ8_hugeLength_7cf53_50 : decode cJ8_hugeLength_7cf53 50 = .ok (.ldc 200, 2) := by decide +kernel
theorem dJ8_hugeLength_7cf53_52 : decode cJ8_hugeLength_7cf53 52 = .ok (.if_icmp .gt 6, 3) := by decide +kernel
theorem dJ8_hugeLength_7cf53_55 : decode cJ8_hugeLength_7cf53 55 = .ok (.ldc 200, 2) := by decide +kernel
theorem dJ8_hugeLength_7cf53_57 : decode cJ8_hugeLength_7cf53 57 = .ok (.ireturn, 1) := by decide +kernel
theorem dJ8_hugeLength_7cf53_58 : decode cJ8_hugeLength_7cf53 58 = .ok (.iload_n 2, 1) := by decide +kernel
theorem dJ8_hugeLength_7cf53_59 : decode cJ8_hugeLength_7cf53 59 = .ok (.ireturn, 1) := by decide +kernel
theorem dJ3_checkIndex_8e157_0 : decode cJ3_checkIndex_8e157 0 = .ok (.iload_n 0, 1) := by decide +kernel
theorem dJ3_checkIndex_8e157_1 : decode cJ3_checkIndex_8e157 1 = .ok (.ifCond .lt 8, 3) := by decide +kernel
theorem dJ3_checkIndex_8e157_4 : decode cJ3_checkIndex_8e157 4 = .ok (.iload_n 0, 1) := by decide +kernel
theorem dJ3_checkIndex_8e157_5 : decode cJ3_checkIndex_8e157 5 = .ok (.iload_n 1, 1) := by decide +kernel
theorem dJ3_checkIndex_8e157_6 : decode cJ3_checkIndex_8e157 6 = .ok (.if_icmp .lt 10, 3) := by decide +kernel
theorem dJ3_checkIndex_8e157_9 : decode cJ3_checkIndex_8e157 9 = .ok (.aload_n 2, 1) := by decide +kernel
theorem dJ3_checkIndex_8e157_10 : decode cJ3_checkIndex_8e157 10 = .ok (.iload_n 0, 1) := by decide +kernel
theorem dJ3_checkIndex_8e157_11 : decode cJ3_checkIndex_8e157 11 = .ok (.iload_n 1, 1) := by decide +kernel
theorem dJ3_checkIndex_8e157_12 : decode cJ3_checkIndex_8e157 12 = .ok (.invokestatic 95, 3) := by decide +kernel
theorem dJ3_checkIndex_8e157_15 : decode cJ3_checkIndex_8e157 15 = .ok (.athrow, 1) := by decide +kernel
theorem dJ3_checkIndex_8e157_16 : decode cJ3_checkIndex_8e157 16 = .ok (.iload_n 0, 1) := by decide +kernel
theorem dJ3_checkIndex_8e157_17 : decode cJ3_checkIndex_8e157 17 = .ok (.ireturn, 1) := by decide +kernel
end
section
theorem dX8_sameRow_0 : decode cX8_sameRow 0 = .ok (.iconst 0, 1) := by decide +kernel
theorem dX8_sameRow_1 : decode cX8_sameRow 1 = .ok (.istore 5, 2) := by decide +kernel
theorem dX8_sameRow_3 : decode cX8_sameRow 3 = .ok (.iload 5, 2) := by decide +kernel
theorem dX8_sameRow_5 : decode cX8_sameRow 5 = .ok (.iload 4, 2) := by decide +kernel
theorem dX8_sameRow_7 : decode cX8_sameRow 7 = .ok (.if_icmp .ge 26, 3) := by decide +kernel
theorem dX8_sameRow_10 : decode cX8_sameRow 10 = .ok (.aload_n 0, 1) := by decide +kernel
theorem dX8_sameRow_11 : decode cX8_sameRow 11 = .ok (.iload_n 1, 1) := by decide +kernel
theorem dX8_sameRow_12 : decode cX8_sameRow 12 = .ok (.iload 5, 2) := by decide +kernel
theorem dX8_sameRow_14 : decode cX8_sameRow 14 = .ok (.iadd, 1) := by decide +kernel
theorem dX8_sameRow_15 : decode cX8_sameRow 15 = .ok (.iaload, 1) := by decide +kernel
theorem dX8_sameRow_16 : decode cX8_sameRow 16 = .ok (.aload_n 2, 1) := by decide +kernel
theorem dX8_sameRow_17 : decode cX8_sameRow 17 = .ok (.iload_n 3, 1) := by decide +kernel
theorem dX8_sameRow_18 : decode cX8_sameRow 18 = .ok (.iload 5, 2) := by decide +kernel
theorem dX8_sameRow_20 : decode cX8_sameRow 20 = .ok (.iadd, 1) := by decide +kernel
theorem dX8_sameRow_21 : decode cX8_sameRow 21 = .ok (.iaload, 1) := by decide +kernel
theorem dX8_sameRow_22 : decode cX8_sameRow 22 = .ok (.if_icmp .eq 5, 3) := by decide +kernel
theorem dX8_sameRow_25 : decode cX8_sameRow 25 = .ok (.iconst 0, 1) := by decide +kernel
theorem dX8_sameRow_26 : decode cX8_sameRow 26 = .ok (.ireturn, 1) := by decide +kernel
theorem dX8_sameRow_27 : decode cX8_sameRow 27 = .ok (.iinc 5 1, 3) := by decide +kernel
theorem dX8_sameRow_30 : decode cX8_sameRow 30 = .ok (.goto (-27), 3) := by decide +kernel
theorem dX8_sameRow_33 : decode cX8_sameRow 33 = .ok (.iconst 1, 1) := by decide +kernel
theorem dX8_sameRow_34 : decode cX8_sameRow 34 = .ok (.ireturn, 1) := by decide +kernel
end
section
theorem dX0_init_0 : decode cX0_init 0 = .ok (.aload_n 0, 1) := by decide +kernel
theorem dX0_init_1 : decode cX0_init 1 = .ok (.invokespecial 3, 3) := by decide +kernel
theorem dX0_init_4 : decode cX0_init 4 = .ok (.aload_n 0, 1) := by decide +kernel
theorem dX0_init_5 : decode cX0_init 5 = .ok (.sipush 192, 3) := by decide +kernel
theorem dX0_init_8 : decode cX0_init 8 = .ok (.newarray .int, 2) := by decide +kernel
theorem dX0_init_10 : decode cX0_init 10 = .ok (.putfield 9, 3) := by decide +kernel
theorem dX0_init_13 : decode cX0_init 13 = .ok (.aload_n 0, 1) := by decide +kernel
theorem dX0_init_14 : decode cX0_init 14 = .ok (.bipush 16, 2) := by decide +kernel
theorem dX0_init_16 : decode cX0_init 16 = .ok (.newarray .int, 2) := by decide +kernel
theorem dX0_init_18 : decode cX0_init 18 = .ok (.putfield 15, 3) := by decide +kernel
theorem dX0_init_21 : decode cX0_init 21 = .ok (.return_, 1) := by decide +kernel
theorem dX0_put_0 : decode cX0_put 0 = .ok (.aload_n 2, 1) := by decide +kernel
theorem dX0_put_1 : decode cX0_put 1 = .ok (.iconst 0, 1) := by decide +kernel
theorem dX0_put_2 : decode cX0_put 2 = .ok (.aload_n 0, 1) := by decide +kernel
theorem dX0_put_3 : decode cX0_put 3 = .ok (.getfield 9, 3) := by decide +kernel
theorem dX0_put_6 : decode cX0_put 6 = .ok (.iload_n 1, 1) := by decide +kernel
theorem dX0_put_7 : decode cX0_put 7 = .ok (.bipush 12, 2) := by decide +kernel
theorem dX0_put_9 : decode cX0_put 9 = .ok (.imul, 1) := by decide +kernel
theorem dX0_put_10 : decode cX0_put 10 = .ok (.iload_n 3, 1) := by decide +kernel
theorem dX0_put_11 : decode cX0_put 11 = .ok (.invokestatic 18, 3) := by decide +kernel
theorem dX0_put_14 : decode cX0_put 14 = .ok (.aload_n 0, 1) := by decide +kernel
theorem dX0_put_15 : decode cX0_put 15 = .ok (.getfield 15, 3) := by decide +kernel
theorem dX0_put_18 : decode cX0_put 18 = .ok (.iload_n 1, 1) := by decide +kernel
theorem dX0_put_19 : decode cX0_put 19 = .ok (.iload_n 3, 1) := by decide +kernel
theorem dX0_put_20 : decode cX0_put 20 = .ok (.iastore, 1) := by decide +kernel
theorem dX0_put_21 : decode cX0_put 21 = .ok (.return_, 1) := by decide +kernel
theorem dX0_become_0 : decode cX0_become 0 = .ok (.aload_n 1, 1) := by decide +kernel
theorem dX0_become_1 : decode cX0_become 1 = .ok (.getfield 9, 3) := by decide +kernel
theorem dX0_become_4 : decode cX0_become 4 = .ok (.iconst 0, 1) := by decide +kernel
theorem dX0_become_5 : decode cX0_become 5 = .ok (.aload_n 0, 1) := by decide +kernel
theorem dX0_become_6 : decode cX0_become 6 = .ok (.getfield 9, 3) := by decide +kernel
theorem dX0_become_9 : decode cX0_become 9 = .ok (.iconst 0, 1) := by decide +kernel
theorem dX0_become_10 : decode cX0_become 10 = .ok (.aload_n 0, 1) := by decide +kernel
theorem dX0_become_11 : decode cX0_become 11 = .ok (.getfield 9, 3) := by decide +kernel
theorem dX0_become_14 : decode cX0_become 14 = .ok (.arraylength, 1) := by decide +kernel
theorem dX0_become_15 : decode cX0_become 15 = .ok (.invokestatic 18, 3) := by decide +kernel
theorem dX0_become_18 : decode cX0_become 18 = .ok (.aload_n 1, 1) := by decide +kernel
theorem dX0_become_19 : decode cX0_become 19 = .ok (.getfield 15, 3) := by decide +kernel
theorem dX0_become_22 : decode cX0_become 22 = .ok (.iconst 0, 1) := by decide +kernel
theorem dX0_become_23 : decode cX0_become 23 = .ok (.aload_n 0, 1) := by decide +kernel
theorem dX0_become_24 : decode cX0_become 24 = .ok (.getfield 15, 3) := by decide +kernel
theorem dX0_become_27 : decode cX0_become 27 = .ok (.iconst 0, 1) := by decide +kernel
theorem dX0_become_28 : decode cX0_become 28 = .ok (.bipush 16, 2) := by decide +kernel
theorem dX0_become_30 : decode cX0_become 30 = .ok (.invokestatic 18, 3) := by decide +kernel
theorem dX0_become_33 : decode cX0_become 33 = .ok (.return_, 1) := by decide +kernel
set_option maxRecDepth 20000 in
theorem ggX0_clear_J7_fill_53178 : GoodIn wsX0_clear wsJ7_fill_53178 := goodIn_r _ [5] (by decide +kernel) (by decide +kernel)
set_option maxRecDepth 20000 in
theorem gX0_clear_J7_fill_53178 : GoodIn wsX0_clear (va_wsS RX0 24 yJ7_fill_53178 wsJ7_fill_53178) := goodIn_app (goodIn_of _ (by decide +kernel)) ggX0_clear_J7_fill_53178
theorem dX0_clear_0 : decode cX0_clear 0 = .ok (.aload_n 0, 1) := by decide +kernel
theorem dX0_clear_1 : decode cX0_clear 1 = .ok (.getfield 15, 3) := by decide +kernel
theorem dX0_clear_4 : decode cX0_clear 4 = .ok (.iconst 0, 1) := by decide +kernel
theorem dX0_clear_5 : decode cX0_clear 5 = .ok (.invokestatic 24, 3) := by decide +kernel
theorem dX0_clear_8 : decode cX0_clear 8 = .ok (.return_, 1) := by decide +kernel
set_option maxRecDepth 20000 in
theorem ggX0_holds_X8_sameRow : GoodIn wsX0_holds wsX8_sameRow := goodIn_r _ [5] (by decide +kernel) (by decide +kernel)
set_option maxRecDepth 20000 in
theorem gX0_holds_X8_sameRow_n30 : GoodIn wsX0_holds (wsX8_sameRow) := ggX0_holds_X8_sameRow
theorem dX0_holds_0 : decode cX0_holds 0 = .ok (.aload_n 0, 1) := by decide +kernel
theorem dX0_holds_1 : decode cX0_holds 1 = .ok (.getfield 15, 3) := by decide +kernel
theorem dX0_holds_4 : decode cX0_holds 4 = .ok (.iload_n 1, 1) := by decide +kernel
theorem dX0_holds_5 : decode cX0_holds 5 = .ok (.iaload, 1) := by decide +kernel
theorem dX0_holds_6 : decode cX0_holds 6 = .ok (.aload_n 2, 1) := by decide +kernel
theorem dX0_holds_7 : decode cX0_holds 7 = .ok (.arraylength, 1) := by decide +kernel
theorem dX0_holds_8 : decode cX0_holds 8 = .ok (.if_icmp .ne 25, 3) := by decide +kernel
theorem dX0_holds_11 : decode cX0_holds 11 = .ok (.aload_n 0, 1) := by decide +kernel
theorem dX0_holds_12 : decode cX0_holds 12 = .ok (.getfield 9, 3) := by decide +kernel
theorem dX0_holds_15 : decode cX0_holds 15 = .ok (.iload_n 1, 1) := by decide +kernel
theorem dX0_holds_16 : decode cX0_holds 16 = .ok (.bipush 12, 2) := by decide +kernel
theorem dX0_holds_18 : decode cX0_holds 18 = .ok (.imul, 1) := by decide +kernel
theorem dX0_holds_19 : decode cX0_holds 19 = .ok (.aload_n 2, 1) := by decide +kernel
theorem dX0_holds_20 : decode cX0_holds 20 = .ok (.iconst 0, 1) := by decide +kernel
theorem dX0_holds_21 : decode cX0_holds 21 = .ok (.aload_n 2, 1) := by decide +kernel
theorem dX0_holds_22 : decode cX0_holds 22 = .ok (.arraylength, 1) := by decide +kernel
theorem dX0_holds_23 : decode cX0_holds 23 = .ok (.invokestatic 30, 3) := by decide +kernel
theorem dX0_holds_26 : decode cX0_holds 26 = .ok (.ifCond .eq 7, 3) := by decide +kernel
theorem dX0_holds_29 : decode cX0_holds 29 = .ok (.iconst 1, 1) := by decide +kernel
theorem dX0_holds_30 : decode cX0_holds 30 = .ok (.goto 4, 3) := by decide +kernel
theorem dX0_holds_33 : decode cX0_holds 33 = .ok (.iconst 0, 1) := by decide +kernel
theorem dX0_holds_34 : decode cX0_holds 34 = .ok (.ireturn, 1) := by decide +kernel
end
section
set_option maxRecDepth 20000 in
theorem ggX1_init_Jx4a65c_init_da8c8 : GoodIn wsX1_init wsJx4a65c_init_da8c8 := goodIn_r _ [16, 17, 18, 19, 20, 21, 22, 23, 24, 25, 26, 27, 28, 2, 3, 34, 35, 36] (by decide +kernel) (by decide +kernel)
set_option maxRecDepth 20000 in
theorem gX1_init_Jx4a65c_init_da8c8 : GoodIn wsX1_init (wsJx4a65c_init_da8c8) := ggX1_init_Jx4a65c_init_da8c8
set_option maxRecDepth 20000 in
theorem ggX1_init_X0_init : GoodIn wsX1_init wsX0_init := goodIn_r _ [30, 31, 2, 3, 8, 32, 33, 40, 41] (by decide +kernel) (by decide +kernel)
set_option maxRecDepth 20000 in
theorem gX1_init_X0_init_n24 : GoodIn wsX1_init (wsX0_init) := ggX1_init_X0_init
theorem dX1_init_0 : decode cX1_init 0 = .ok (.aload_n 0, 1) := by decide +kernel
theorem dX1_init_1 : decode cX1_init 1 = .ok (.invokespecial 3, 3) := by decide +kernel
theorem dX1_init_4 : decode cX1_init 4 = .ok (.aload_n 0, 1) := by decide +kernel
theorem dX1_init_5 : decode cX1_init 5 = .ok (.new 9, 3) := by decide +kernel
theorem dX1_init_8 : decode cX1_init 8 = .ok (.dup, 1) := by decide +kernel
theorem dX1_init_9 : decode cX1_init 9 = .ok (.invokespecial 11, 3) := by decide +kernel
theorem dX1_init_12 : decode cX1_init 12 = .ok (.putfield 12, 3) := by decide +kernel
theorem dX1_init_15 : decode cX1_init 15 = .ok (.aload_n 0, 1) := by decide +kernel
theorem dX1_init_16 : decode cX1_init 16 = .ok (.iconst 4, 1) := by decide +kernel
theorem dX1_init_17 : decode cX1_init 17 = .ok (.newarray .int, 2) := by decide +kernel
theorem dX1_init_19 : decode cX1_init 19 = .ok (.putfield 18, 3) := by decide +kernel
theorem dX1_init_22 : decode cX1_init 22 = .ok (.aload_n 0, 1) := by decide +kernel
theorem dX1_init_23 : decode cX1_init 23 = .ok (.new 22, 3) := by decide +kernel
theorem dX1_init_26 : decode cX1_init 26 = .ok (.dup, 1) := by decide +kernel
theorem dX1_init_27 : decode cX1_init 27 = .ok (.invokespecial 24, 3) := by decide +kernel
theorem dX1_init_30 : decode cX1_init 30 = .ok (.putfield 25, 3) := by decide +kernel
theorem dX1_init_33 : decode cX1_init 33 = .ok (.return_, 1) := by decide +kernel
set_option maxRecDepth 20000 in
theorem ggX1_note_Jx4a65c_size_8abf5 : GoodIn wsX1_note wsJx4a65c_size_8abf5 := goodIn_r _ [10, 11, 95, 96, 97] (by decide +kernel) (by decide +kernel)
set_option maxRecDepth 20000 in
theorem gX1_note_Jx4a65c_size_8abf5 : GoodIn wsX1_note (wsV RX1 29 RJx4a65c yJx4a65c_size_8abf5 wsJx4a65c_size_8abf5) := goodIn_app (goodIn_of _ (by decide +kernel)) ggX1_note_Jx4a65c_size_8abf5
set_option maxRecDepth 20000 in
theorem ggX1_note_J7_copyOf_59c91 : GoodIn wsX1_note wsJ7_copyOf_59c91 := goodIn_r _ [15, 16, 17, 18, 19, 20, 21, 22, 23, 24, 25, 26, 27, 28, 29, 30] (by decide +kernel) (by decide +kernel)
set_option maxRecDepth 20000 in
theorem gX1_note_J7_copyOf_59c91 : GoodIn wsX1_note (va_wsS RX1 35 yJ7_copyOf_59c91 wsJ7_copyOf_59c91) := goodIn_app (goodIn_of _ (by decide +kernel)) ggX1_note_J7_copyOf_59c91
set_option maxRecDepth 20000 in
theorem ggX1_note_X3_init : GoodIn wsX1_note wsX3_init := goodIn_r _ [33, 34, 35, 36, 37, 38, 39, 40, 41, 90, 91, 92, 93, 94] (by decide +kernel) (by decide +kernel)
set_option maxRecDepth 20000 in
theorem gX1_note_X3_init : GoodIn wsX1_note (wsX3_init) := ggX1_note_X3_init
set_option maxRecDepth 20000 in
theorem ggX1_note_Jx4a65c_add_9ea2d : GoodIn wsX1_note wsJx4a65c_add_9ea2d := goodIn_r _ [45, 46, 47, 48, 11, 49, 50, 51, 9, 52, 53, 54, 55, 56, 57, 58, 59, 60, 61, 62, 63, 25, 64, 65, 66, 67, 68, 69, 70, 71, 72, 73, 74, 75, 76, 14, 77, 78, 79, 80, 81, 82, 83, 84, 85, 86, 23, 24, 26, 27, 28, 29, 30, 95, 96, 97] (by decide +kernel) (by decide +kernel)
set_option maxRecDepth 20000 in
theorem gX1_note_Jx4a65c_add_9ea2d : GoodIn wsX1_note (wsV RX1 44 RJx4a65c yJx4a65c_add_9ea2d wsJx4a65c_add_9ea2d) := goodIn_app (goodIn_of _ (by decide +kernel)) ggX1_note_Jx4a65c_add_9ea2d
theorem dX1_note_0 : decode cX1_note 0 = .ok (.aload_n 0, 1) := by decide +kernel
theorem dX1_note_1 : decode cX1_note 1 = .ok (.getfield 12, 3) := by decide +kernel
theorem dX1_note_4 : decode cX1_note 4 = .ok (.invokevirtual 29, 3) := by decide +kernel
theorem dX1_note_7 : decode cX1_note 7 = .ok (.sipush 512, 3) := by decide +kernel
theorem dX1_note_10 : decode cX1_note 10 = .ok (.if_icmp .lt 4, 3) := by decide +kernel
theorem dX1_note_13 : decode cX1_note 13 = .ok (.return_, 1) := by decide +kernel
theorem dX1_note_14 : decode cX1_note 14 = .ok (.aload_n 0, 1) := by decide +kernel
theorem dX1_note_15 : decode cX1_note 15 = .ok (.getfield 18, 3) := by decide +kernel
theorem dX1_note_18 : decode cX1_note 18 = .ok (.iload_n 2, 1) := by decide +kernel
theorem dX1_note_19 : decode cX1_note 19 = .ok (.dup2, 1) := by decide +kernel
theorem dX1_note_20 : decode cX1_note 20 = .ok (.iaload, 1) := by decide +kernel
theorem dX1_note_21 : decode cX1_note 21 = .ok (.iconst 1, 1) := by decide +kernel
theorem dX1_note_22 : decode cX1_note 22 = .ok (.iadd, 1) := by decide +kernel
theorem dX1_note_23 : decode cX1_note 23 = .ok (.iastore, 1) := by decide +kernel
theorem dX1_note_24 : decode cX1_note 24 = .ok (.aload_n 0, 1) := by decide +kernel
theorem dX1_note_25 : decode cX1_note 25 = .ok (.getfield 12, 3) := by decide +kernel
theorem dX1_note_28 : decode cX1_note 28 = .ok (.new 33, 3) := by decide +kernel
theorem dX1_note_31 : decode cX1_note 31 = .ok (.dup, 1) := by decide +kernel
theorem dX1_note_32 : decode cX1_note 32 = .ok (.iload_n 1, 1) := by decide +kernel
theorem dX1_note_33 : decode cX1_note 33 = .ok (.iload_n 2, 1) := by decide +kernel
theorem dX1_note_34 : decode cX1_note 34 = .ok (.aload_n 0, 1) := by decide +kernel
theorem dX1_note_35 : decode cX1_note 35 = .ok (.getfield 18, 3) := by decide +kernel
theorem dX1_note_38 : decode cX1_note 38 = .ok (.iload_n 2, 1) := by decide +kernel
theorem dX1_note_39 : decode cX1_note 39 = .ok (.iaload, 1) := by decide +kernel
theorem dX1_note_40 : decode cX1_note 40 = .ok (.iload_n 3, 1) := by decide +kernel
theorem dX1_note_41 : decode cX1_note 41 = .ok (.aload 4, 2) := by decide +kernel
theorem dX1_note_43 : decode cX1_note 43 = .ok (.iload 5, 2) := by decide +kernel
theorem dX1_note_45 : decode cX1_note 45 = .ok (.invokestatic 35, 3) := by decide +kernel
theorem dX1_note_48 : decode cX1_note 48 = .ok (.invokespecial 41, 3) := by decide +kernel
theorem dX1_note_51 : decode cX1_note 51 = .ok (.invokevirtual 44, 3) := by decide +kernel
theorem dX1_note_54 : decode cX1_note 54 = .ok (.pop, 1) := by decide +kernel
theorem dX1_note_55 : decode cX1_note 55 = .ok (.return_, 1) := by decide +kernel
set_option maxRecDepth 20000 in
theorem ggX1_isAnsweredPlainly_X0_clear : GoodIn wsX1_isAnsweredPlainly wsX0_clear := goodIn_r _ [12, 13, 14, 15, 16, 17, 78, 79] (by decide +kernel) (by decide +kernel)
set_option maxRecDepth 20000 in
theorem gX1_isAnsweredPlainly_X0_clear : GoodIn wsX1_isAnsweredPlainly (wsV RX1 48 RX0 yX0_clear wsX0_clear) := goodIn_app (goodIn_of _ (by decide +kernel)) ggX1_isAnsweredPlainly_X0_clear
set_option maxRecDepth 20000 in
theorem ggX1_isAnsweredPlainly_Jx4a65c_size_8abf5 : GoodIn wsX1_isAnsweredPlainly wsJx4a65c_size_8abf5 := goodIn_r _ [22, 23, 80, 81, 82] (by decide +kernel) (by decide +kernel)
set_option maxRecDepth 20000 in
theorem gX1_isAnsweredPlainly_Jx4a65c_size_8abf5 : GoodIn wsX1_isAnsweredPlainly (wsV RX1 29 RJx4a65c yJx4a65c_size_8abf5 wsJx4a65c_size_8abf5) := goodIn_app (goodIn_of _ (by decide +kernel)) ggX1_isAnsweredPlainly_Jx4a65c_size_8abf5
set_option maxRecDepth 20000 in
theorem ggX1_isAnsweredPlainly_Jx4a65c_get_915e3 : GoodIn wsX1_isAnsweredPlainly wsJx4a65c_get_915e3 := goodIn_r _ [27, 23, 28, 29, 30, 31, 32, 33, 34, 35, 36, 37, 38, 21, 39, 40, 80, 81, 82] (by decide +kernel) (by decide +kernel)
set_option maxRecDepth 20000 in
theorem gX1_isAnsweredPlainly_Jx4a65c_get_915e3 : GoodIn wsX1_isAnsweredPlainly (wsV RX1 51 RJx4a65c yJx4a65c_get_915e3 wsJx4a65c_get_915e3) := goodIn_app (goodIn_of _ (by decide +kernel)) ggX1_isAnsweredPlainly_Jx4a65c_get_915e3
set_option maxRecDepth 20000 in
theorem ggX1_isAnsweredPlainly_X3_isCountedBy : GoodIn wsX1_isAnsweredPlainly wsX3_isCountedBy := goodIn_r _ [45, 46, 47, 48, 49, 50, 51, 52, 53, 73, 74, 75, 76, 77, 83] (by decide +kernel) (by decide +kernel)
set_option maxRecDepth 20000 in
theorem gX1_isAnsweredPlainly_X3_isCountedBy : GoodIn wsX1_isAnsweredPlainly (wsV RX1 55 RX3 yX3_isCountedBy wsX3_isCountedBy) := goodIn_app (goodIn_of _ (by decide +kernel)) ggX1_isAnsweredPlainly_X3_isCountedBy
set_option maxRecDepth 20000 in
theorem ggX1_isAnsweredPlainly_X0_put : GoodIn wsX1_isAnsweredPlainly wsX0_put := goodIn_r _ [57, 58, 59, 60, 61, 62, 13, 78, 79] (by decide +kernel) (by decide +kernel)
set_option maxRecDepth 20000 in
theorem gX1_isAnsweredPlainly_X0_put : GoodIn wsX1_isAnsweredPlainly (wsV RX1 70 RX0 yX0_put wsX0_put) := goodIn_app (goodIn_of _ (by decide +kernel)) ggX1_isAnsweredPlainly_X0_put
set_option maxRecDepth 20000 in
theorem ggX1_isAnsweredPlainly_X0_holds : GoodIn wsX1_isAnsweredPlainly wsX0_holds := goodIn_r _ [66, 13, 58, 67, 68, 69, 78, 79] (by decide +kernel) (by decide +kernel)
set_option maxRecDepth 20000 in
theorem gX1_isAnsweredPlainly_X0_holds : GoodIn wsX1_isAnsweredPlainly (wsV RX1 77 RX0 yX0_holds wsX0_holds) := goodIn_app (goodIn_of _ (by decide +kernel)) ggX1_isAnsweredPlainly_X0_holds
theorem dX1_isAnsweredPlainly_0 : decode cX1_isAnsweredPlainly 0 = .ok (.aload_n 0, 1) := by decide +kernel
theorem dX1_isAnsweredPlainly_1 : decode cX1_isAnsweredPlainly 1 = .ok (.getfield 25, 3) := by decide +kernel
theorem dX1_isAnsweredPlainly_4 : decode cX1_isAnsweredPlainly 4 = .ok (.invokevirtual 48, 3) := by decide +kernel
theorem dX1_isAnsweredPlainly_7 : decode cX1_isAnsweredPlainly 7 = .ok (.iconst 0, 1) := by decide +kernel
theorem dX1_isAnsweredPlainly_8 : decode cX1_isAnsweredPlainly 8 = .ok (.istore_n 3, 1) := by decide +kernel
theorem dX1_isAnsweredPlainly_9 : decode cX1_isAnsweredPlainly 9 = .ok (.iload_n 3, 1) := by decide +kernel
theorem dX1_isAnsweredPlainly_10 : decode cX1_isAnsweredPlainly 10 = .ok (.aload_n 0, 1) := by decide +kernel
theorem dX1_isAnsweredPlainly_11 : decode cX1_isAnsweredPlainly 11 = .ok (.getfield 12, 3) := by decide +kernel
theorem dX1_isAnsweredPlainly_14 : decode cX1_isAnsweredPlainly 14 = .ok (.invokevirtual 29, 3) := by decide +kernel
theorem dX1_isAnsweredPlainly_17 : decode cX1_isAnsweredPlainly 17 = .ok (.if_icmp .ge 102, 3) := by decide +kernel
theorem dX1_isAnsweredPlainly_20 : decode cX1_isAnsweredPlainly 20 = .ok (.aload_n 0, 1) := by decide +kernel
theorem dX1_isAnsweredPlainly_21 : decode cX1_isAnsweredPlainly 21 = .ok (.getfield 12, 3) := by decide +kernel
theorem dX1_isAnsweredPlainly_24 : decode cX1_isAnsweredPlainly 24 = .ok (.iload_n 3, 1) := by decide +kernel
theorem dX1_isAnsweredPlainly_25 : decode cX1_isAnsweredPlainly 25 = .ok (.invokevirtual 51, 3) := by decide +kernel
theorem dX1_isAnsweredPlainly_28 : decode cX1_isAnsweredPlainly 28 = .ok (.checkcast 33, 3) := by decide +kernel
theorem dX1_isAnsweredPlainly_31 : decode cX1_isAnsweredPlainly 31 = .ok (.astore 4, 2) := by decide +kernel
theorem dX1_isAnsweredPlainly_33 : decode cX1_isAnsweredPlainly 33 = .ok (.aload 4, 2) := by decide +kernel
theorem dX1_isAnsweredPlainly_35 : decode cX1_isAnsweredPlainly 35 = .ok (.aload_n 2, 1) := by decide +kernel
theorem dX1_isAnsweredPlainly_36 : decode cX1_isAnsweredPlainly 36 = .ok (.invokevirtual 55, 3) := by decide +kernel
theorem dX1_isAnsweredPlainly_39 : decode cX1_isAnsweredPlainly 39 = .ok (.istore 5, 2) := by decide +kernel
theorem dX1_isAnsweredPlainly_41 : decode cX1_isAnsweredPlainly 41 = .ok (.iload 5, 2) := by decide +kernel
theorem dX1_isAnsweredPlainly_43 : decode cX1_isAnsweredPlainly 43 = .ok (.ifCond .eq 34, 3) := by decide +kernel
theorem dX1_isAnsweredPlainly_46 : decode cX1_isAnsweredPlainly 46 = .ok (.aload 4, 2) := by decide +kernel
theorem dX1_isAnsweredPlainly_48 : decode cX1_isAnsweredPlainly 48 = .ok (.getfield 59, 3) := by decide +kernel
theorem dX1_isAnsweredPlainly_51 : decode cX1_isAnsweredPlainly 51 = .ok (.ifCond .eq 26, 3) := by decide +kernel
theorem dX1_isAnsweredPlainly_54 : decode cX1_isAnsweredPlainly 54 = .ok (.aload_n 0, 1) := by decide +kernel
theorem dX1_isAnsweredPlainly_55 : decode cX1_isAnsweredPlainly 55 = .ok (.getfield 25, 3) := by decide +kernel
theorem dX1_isAnsweredPlainly_58 : decode cX1_isAnsweredPlainly 58 = .ok (.aload 4, 2) := by decide +kernel
theorem dX1_isAnsweredPlainly_60 : decode cX1_isAnsweredPlainly 60 = .ok (.getfield 63, 3) := by decide +kernel
theorem dX1_isAnsweredPlainly_63 : decode cX1_isAnsweredPlainly 63 = .ok (.aload 4, 2) := by decide +kernel
theorem dX1_isAnsweredPlainly_65 : decode cX1_isAnsweredPlainly 65 = .ok (.getfield 67, 3) := by decide +kernel
theorem dX1_isAnsweredPlainly_68 : decode cX1_isAnsweredPlainly 68 = .ok (.aload 4, 2) := by decide +kernel
theorem dX1_isAnsweredPlainly_70 : decode cX1_isAnsweredPlainly 70 = .ok (.getfield 67, 3) := by decide +kernel
theorem dX1_isAnsweredPlainly_73 : decode cX1_isAnsweredPlainly 73 = .ok (.arraylength, 1) := by decide +kernel
theorem dX1_isAnsweredPlainly_74 : decode cX1_isAnsweredPlainly 74 = .ok (.invokevirtual 70, 3) := by decide +kernel
theorem dX1_isAnsweredPlainly_77 : decode cX1_isAnsweredPlainly 77 = .ok (.aload 4, 2) := by decide +kernel
theorem dX1_isAnsweredPlainly_79 : decode cX1_isAnsweredPlainly 79 = .ok (.getfield 74, 3) := by decide +kernel
theorem dX1_isAnsweredPlainly_82 : decode cX1_isAnsweredPlainly 82 = .ok (.iload_n 1, 1) := by decide +kernel
theorem dX1_isAnsweredPlainly_83 : decode cX1_isAnsweredPlainly 83 = .ok (.if_icmp .ne 30, 3) := by decide +kernel
theorem dX1_isAnsweredPlainly_86 : decode cX1_isAnsweredPlainly 86 = .ok (.iload 5, 2) := by decide +kernel
theorem dX1_isAnsweredPlainly_88 : decode cX1_isAnsweredPlainly 88 = .ok (.ifCond .eq 23, 3) := by decide +kernel
theorem dX1_isAnsweredPlainly_91 : decode cX1_isAnsweredPlainly 91 = .ok (.aload_n 0, 1) := by decide +kernel
theorem dX1_isAnsweredPlainly_92 : decode cX1_isAnsweredPlainly 92 = .ok (.getfield 25, 3) := by decide +kernel
theorem dX1_isAnsweredPlainly_95 : decode cX1_isAnsweredPlainly 95 = .ok (.aload 4, 2) := by decide +kernel
theorem dX1_isAnsweredPlainly_97 : decode cX1_isAnsweredPlainly 97 = .ok (.getfield 63, 3) := by decide +kernel
theorem dX1_isAnsweredPlainly_100 : decode cX1_isAnsweredPlainly 100 = .ok (.aload 4, 2) := by decide +kernel
theorem dX1_isAnsweredPlainly_102 : decode cX1_isAnsweredPlainly 102 = .ok (.getfield 67, 3) := by decide +kernel
theorem dX1_isAnsweredPlainly_105 : decode cX1_isAnsweredPlainly 105 = .ok (.invokevirtual 77, 3) := by decide +kernel
theorem dX1_isAnsweredPlainly_108 : decode cX1_isAnsweredPlainly 108 = .ok (.ifCond .ne 5, 3) := by decide +kernel
theorem dX1_isAnsweredPlainly_111 : decode cX1_isAnsweredPlainly 111 = .ok (.iconst 0, 1) := by decide +kernel
theorem dX1_isAnsweredPlainly_112 : decode cX1_isAnsweredPlainly 112 = .ok (.ireturn, 1) := by decide +kernel
theorem dX1_isAnsweredPlainly_113 : decode cX1_isAnsweredPlainly 113 = .ok (.iinc 3 1, 3) := by decide +kernel
theorem dX1_isAnsweredPlainly_116 : decode cX1_isAnsweredPlainly 116 = .ok (.goto (-107), 3) := by decide +kernel
theorem dX1_isAnsweredPlainly_119 : decode cX1_isAnsweredPlainly 119 = .ok (.iconst 1, 1) := by decide +kernel
theorem dX1_isAnsweredPlainly_120 : decode cX1_isAnsweredPlainly 120 = .ok (.ireturn, 1) := by decide +kernel
set_option maxRecDepth 20000 in
theorem ggX1_oneBeginsTheOther_Jx4a65c_size_8abf5 : GoodIn wsX1_oneBeginsTheOther wsJx4a65c_size_8abf5 := goodIn_r _ [7, 8, 42, 43, 44] (by decide +kernel) (by decide +kernel)
set_option maxRecDepth 20000 in
theorem gX1_oneBeginsTheOther_Jx4a65c_size_8abf5 : GoodIn wsX1_oneBeginsTheOther (wsV RX1 29 RJx4a65c yJx4a65c_size_8abf5 wsJx4a65c_size_8abf5) := goodIn_app (goodIn_of _ (by decide +kernel)) ggX1_oneBeginsTheOther_Jx4a65c_size_8abf5
set_option maxRecDepth 20000 in
theorem ggX1_oneBeginsTheOther_Jx4a65c_get_915e3 : GoodIn wsX1_oneBeginsTheOther wsJx4a65c_get_915e3 := goodIn_r _ [12, 8, 13, 14, 15, 16, 17, 18, 19, 20, 21, 22, 23, 6, 24, 25, 42, 43, 44] (by decide +kernel) (by decide +kernel)
set_option maxRecDepth 20000 in
theorem gX1_oneBeginsTheOther_Jx4a65c_get_915e3 : GoodIn wsX1_oneBeginsTheOther (wsV RX1 51 RJx4a65c yJx4a65c_get_915e3 wsJx4a65c_get_915e3) := goodIn_app (goodIn_of _ (by decide +kernel)) ggX1_oneBeginsTheOther_Jx4a65c_get_915e3
set_option maxRecDepth 20000 in
theorem ggX1_oneBeginsTheOther_X3_isCountedBy : GoodIn wsX1_oneBeginsTheOther wsX3_isCountedBy := goodIn_r _ [30, 31, 32, 33, 34, 35, 36, 37, 38, 45, 46, 47, 48, 49, 50] (by decide +kernel) (by decide +kernel)
set_option maxRecDepth 20000 in
theorem gX1_oneBeginsTheOther_X3_isCountedBy : GoodIn wsX1_oneBeginsTheOther (wsV RX1 55 RX3 yX3_isCountedBy wsX3_isCountedBy) := goodIn_app (goodIn_of _ (by decide +kernel)) ggX1_oneBeginsTheOther_X3_isCountedBy
theorem dX1_oneBeginsTheOther_0 : decode cX1_oneBeginsTheOther 0 = .ok (.iconst 0, 1) := by decide +kernel
theorem dX1_oneBeginsTheOther_1 : decode cX1_oneBeginsTheOther 1 = .ok (.istore_n 3, 1) := by decide +kernel
theorem dX1_oneBeginsTheOther_2 : decode cX1_oneBeginsTheOther 2 = .ok (.iconst 0, 1) := by decide +kernel
theorem dX1_oneBeginsTheOther_3 : decode cX1_oneBeginsTheOther 3 = .ok (.istore 4, 2) := by decide +kernel
theorem dX1_oneBeginsTheOther_5 : decode cX1_oneBeginsTheOther 5 = .ok (.iconst 0, 1) := by decide +kernel
theorem dX1_oneBeginsTheOther_6 : decode cX1_oneBeginsTheOther 6 = .ok (.istore 5, 2) := by decide +kernel
theorem dX1_oneBeginsTheOther_8 : decode cX1_oneBeginsTheOther 8 = .ok (.iload 5, 2) := by decide +kernel
theorem dX1_oneBeginsTheOther_10 : decode cX1_oneBeginsTheOther 10 = .ok (.aload_n 0, 1) := by decide +kernel
theorem dX1_oneBeginsTheOther_11 : decode cX1_oneBeginsTheOther 11 = .ok (.getfield 12, 3) := by decide +kernel
theorem dX1_oneBeginsTheOther_14 : decode cX1_oneBeginsTheOther 14 = .ok (.invokevirtual 29, 3) := by decide +kernel
theorem dX1_oneBeginsTheOther_17 : decode cX1_oneBeginsTheOther 17 = .ok (.if_icmp .ge 108, 3) := by decide +kernel
theorem dX1_oneBeginsTheOther_20 : decode cX1_oneBeginsTheOther 20 = .ok (.aload_n 0, 1) := by decide +kernel
theorem dX1_oneBeginsTheOther_21 : decode cX1_oneBeginsTheOther 21 = .ok (.getfield 12, 3) := by decide +kernel
theorem dX1_oneBeginsTheOther_24 : decode cX1_oneBeginsTheOther 24 = .ok (.iload 5, 2) := by decide +kernel
theorem dX1_oneBeginsTheOther_26 : decode cX1_oneBeginsTheOther 26 = .ok (.invokevirtual 51, 3) := by decide +kernel
theorem dX1_oneBeginsTheOther_29 : decode cX1_oneBeginsTheOther 29 = .ok (.checkcast 33, 3) := by decide +kernel
theorem dX1_oneBeginsTheOther_32 : decode cX1_oneBeginsTheOther 32 = .ok (.aload_n 1, 1) := by decide +kernel
theorem dX1_oneBeginsTheOther_33 : decode cX1_oneBeginsTheOther 33 = .ok (.invokevirtual 55, 3) := by decide +kernel
theorem dX1_oneBeginsTheOther_36 : decode cX1_oneBeginsTheOther 36 = .ok (.istore 6, 2) := by decide +kernel
theorem dX1_oneBeginsTheOther_38 : decode cX1_oneBeginsTheOther 38 = .ok (.aload_n 0, 1) := by decide +kernel
theorem dX1_oneBeginsTheOther_39 : decode cX1_oneBeginsTheOther 39 = .ok (.getfield 12, 3) := by decide +kernel
theorem dX1_oneBeginsTheOther_42 : decode cX1_oneBeginsTheOther 42 = .ok (.iload 5, 2) := by decide +kernel
theorem dX1_oneBeginsTheOther_44 : decode cX1_oneBeginsTheOther 44 = .ok (.invokevirtual 51, 3) := by decide +kernel
theorem dX1_oneBeginsTheOther_47 : decode cX1_oneBeginsTheOther 47 = .ok (.checkcast 33, 3) := by decide +kernel
theorem dX1_oneBeginsTheOther_50 : decode cX1_oneBeginsTheOther 50 = .ok (.aload_n 2, 1) := by decide +kernel
theorem dX1_oneBeginsTheOther_51 : decode cX1_oneBeginsTheOther 51 = .ok (.invokevirtual 55, 3) := by decide +kernel
theorem dX1_oneBeginsTheOther_54 : decode cX1_oneBeginsTheOther 54 = .ok (.istore 7, 2) := by decide +kernel
theorem dX1_oneBeginsTheOther_56 : decode cX1_oneBeginsTheOther 56 = .ok (.iload 6, 2) := by decide +kernel
theorem dX1_oneBeginsTheOther_58 : decode cX1_oneBeginsTheOther 58 = .ok (.ifCond .eq 7, 3) := by decide +kernel
theorem dX1_oneBeginsTheOther_61 : decode cX1_oneBeginsTheOther 61 = .ok (.iload_n 3, 1) := by decide +kernel
theorem dX1_oneBeginsTheOther_62 : decode cX1_oneBeginsTheOther 62 = .ok (.ifCond .ne 13, 3) := by decide +kernel
theorem dX1_oneBeginsTheOther_65 : decode cX1_oneBeginsTheOther 65 = .ok (.iload 7, 2) := by decide +kernel
theorem dX1_oneBeginsTheOther_67 : decode cX1_oneBeginsTheOther 67 = .ok (.ifCond .eq 10, 3) := by decide +kernel
theorem dX1_oneBeginsTheOther_70 : decode cX1_oneBeginsTheOther 70 = .ok (.iload 4, 2) := by decide +kernel
theorem dX1_oneBeginsTheOther_72 : decode cX1_oneBeginsTheOther 72 = .ok (.ifCond .eq 5, 3) := by decide +kernel
theorem dX1_oneBeginsTheOther_75 : decode cX1_oneBeginsTheOther 75 = .ok (.iconst 0, 1) := by decide +kernel
theorem dX1_oneBeginsTheOther_76 : decode cX1_oneBeginsTheOther 76 = .ok (.ireturn, 1) := by decide +kernel
theorem dX1_oneBeginsTheOther_77 : decode cX1_oneBeginsTheOther 77 = .ok (.iload_n 3, 1) := by decide +kernel
theorem dX1_oneBeginsTheOther_78 : decode cX1_oneBeginsTheOther 78 = .ok (.ifCond .ne 13, 3) := by decide +kernel
theorem dX1_oneBeginsTheOther_81 : decode cX1_oneBeginsTheOther 81 = .ok (.iload 7, 2) := by decide +kernel
theorem dX1_oneBeginsTheOther_83 : decode cX1_oneBeginsTheOther 83 = .ok (.ifCond .eq 12, 3) := by decide +kernel
theorem dX1_oneBeginsTheOther_86 : decode cX1_oneBeginsTheOther 86 = .ok (.iload 6, 2) := by decide +kernel
theorem dX1_oneBeginsTheOther_88 : decode cX1_oneBeginsTheOther 88 = .ok (.ifCond .ne 7, 3) := by decide +kernel
theorem dX1_oneBeginsTheOther_91 : decode cX1_oneBeginsTheOther 91 = .ok (.iconst 1, 1) := by decide +kernel
theorem dX1_oneBeginsTheOther_92 : decode cX1_oneBeginsTheOther 92 = .ok (.goto 4, 3) := by decide +kernel
theorem dX1_oneBeginsTheOther_95 : decode cX1_oneBeginsTheOther 95 = .ok (.iconst 0, 1) := by decide +kernel
theorem dX1_oneBeginsTheOther_96 : decode cX1_oneBeginsTheOther 96 = .ok (.istore_n 3, 1) := by decide +kernel
theorem dX1_oneBeginsTheOther_97 : decode cX1_oneBeginsTheOther 97 = .ok (.iload 4, 2) := by decide +kernel
theorem dX1_oneBeginsTheOther_99 : decode cX1_oneBeginsTheOther 99 = .ok (.ifCond .ne 13, 3) := by decide +kernel
theorem dX1_oneBeginsTheOther_102 : decode cX1_oneBeginsTheOther 102 = .ok (.iload 6, 2) := by decide +kernel
theorem dX1_oneBeginsTheOther_104 : decode cX1_oneBeginsTheOther 104 = .ok (.ifCond .eq 12, 3) := by decide +kernel
theorem dX1_oneBeginsTheOther_107 : decode cX1_oneBeginsTheOther 107 = .ok (.iload 7, 2) := by decide +kernel
theorem dX1_oneBeginsTheOther_109 : decode cX1_oneBeginsTheOther 109 = .ok (.ifCond .ne 7, 3) := by decide +kernel
theorem dX1_oneBeginsTheOther_112 : decode cX1_oneBeginsTheOther 112 = .ok (.iconst 1, 1) := by decide +kernel
theorem dX1_oneBeginsTheOther_113 : decode cX1_oneBeginsTheOther 113 = .ok (.goto 4, 3) := by decide +kernel
theorem dX1_oneBeginsTheOther_116 : decode cX1_oneBeginsTheOther 116 = .ok (.iconst 0, 1) := by decide +kernel
theorem dX1_oneBeginsTheOther_117 : decode cX1_oneBeginsTheOther 117 = .ok (.istore 4, 2) := by decide +kernel
theorem dX1_oneBeginsTheOther_119 : decode cX1_oneBeginsTheOther 119 = .ok (.iinc 5 1, 3) := by decide +kernel
theorem dX1_oneBeginsTheOther_122 : decode cX1_oneBeginsTheOther 122 = .ok (.goto (-114), 3) := by decide +kernel
theorem dX1_oneBeginsTheOther_125 : decode cX1_oneBeginsTheOther 125 = .ok (.iconst 1, 1) := by decide +kernel
theorem dX1_oneBeginsTheOther_126 : decode cX1_oneBeginsTheOther 126 = .ok (.ireturn, 1) := by decide +kernel
end
section
set_option maxRecDepth 20000 in
theorem ggX2_init_X4_init : GoodIn wsX2_init wsX4_init := goodIn_r _ [11, 12, 2, 3, 8, 13, 14, 15, 16, 17, 18, 19, 20] (by decide +kernel) (by decide +kernel)
set_option maxRecDepth 20000 in
theorem gX2_init_X4_init_n11 : GoodIn wsX2_init (wsX4_init) := ggX2_init_X4_init
theorem dX2_init_0 : decode cX2_init 0 = .ok (.aload_n 0, 1) := by decide +kernel
theorem dX2_init_1 : decode cX2_init 1 = .ok (.invokespecial 3, 3) := by decide +kernel
theorem dX2_init_4 : decode cX2_init 4 = .ok (.aload_n 0, 1) := by decide +kernel
theorem dX2_init_5 : decode cX2_init 5 = .ok (.new 9, 3) := by decide +kernel
theorem dX2_init_8 : decode cX2_init 8 = .ok (.dup, 1) := by decide +kernel
theorem dX2_init_9 : decode cX2_init 9 = .ok (.invokespecial 11, 3) := by decide +kernel
theorem dX2_init_12 : decode cX2_init 12 = .ok (.putfield 12, 3) := by decide +kernel
theorem dX2_init_15 : decode cX2_init 15 = .ok (.aload_n 0, 1) := by decide +kernel
theorem dX2_init_16 : decode cX2_init 16 = .ok (.bipush 32, 2) := by decide +kernel
theorem dX2_init_18 : decode cX2_init 18 = .ok (.newarray .int, 2) := by decide +kernel
theorem dX2_init_20 : decode cX2_init 20 = .ok (.putfield 18, 3) := by decide +kernel
theorem dX2_init_23 : decode cX2_init 23 = .ok (.return_, 1) := by decide +kernel
set_option maxRecDepth 20000 in
theorem ggX2_make_X2_startWithKey : GoodIn wsX2_make wsX2_startWithKey := goodIn_r _ [7, 1, 8, 9, 10, 11, 12, 13, 14, 15, 16, 17, 18, 19, 20, 21, 22, 23, 24, 25, 26, 27, 28, 29, 30, 31, 32, 33, 34, 45, 46, 47, 48, 49, 50] (by decide +kernel) (by decide +kernel)
set_option maxRecDepth 20000 in
theorem gX2_make_X2_startWithKey : GoodIn wsX2_make (wsV RX2 22 RX2 yX2_startWithKey wsX2_startWithKey) := goodIn_app (goodIn_of _ (by decide +kernel)) ggX2_make_X2_startWithKey
set_option maxRecDepth 20000 in
theorem ggX2_make_X4_takeRow : GoodIn wsX2_make wsX4_takeRow := goodIn_r _ [38, 39, 22, 23, 11, 24, 25, 19, 20, 26, 27, 28, 29, 30, 31, 32, 33, 14, 34, 47, 48, 49, 50] (by decide +kernel) (by decide +kernel)
set_option maxRecDepth 20000 in
theorem gX2_make_X4_takeRow : GoodIn wsX2_make (wsV RX2 26 RX4 yX4_takeRow wsX4_takeRow) := goodIn_app (goodIn_of _ (by decide +kernel)) ggX2_make_X4_takeRow
set_option maxRecDepth 20000 in
theorem ggX2_make_X4_finish : GoodIn wsX2_make wsX4_finish := goodIn_r _ [43, 44, 20, 19, 14, 39, 22, 23, 11, 24, 25, 26, 27, 28, 29, 30, 31, 32, 33, 34, 47, 48, 49, 50] (by decide +kernel) (by decide +kernel)
set_option maxRecDepth 20000 in
theorem gX2_make_X4_finish : GoodIn wsX2_make (wsV RX2 30 RX4 yX4_finish wsX4_finish) := goodIn_app (goodIn_of _ (by decide +kernel)) ggX2_make_X4_finish
theorem dX2_make_0 : decode cX2_make 0 = .ok (.aload_n 0, 1) := by decide +kernel
theorem dX2_make_1 : decode cX2_make 1 = .ok (.bipush 54, 2) := by decide +kernel
theorem dX2_make_3 : decode cX2_make 3 = .ok (.invokevirtual 22, 3) := by decide +kernel
theorem dX2_make_6 : decode cX2_make 6 = .ok (.aload_n 0, 1) := by decide +kernel
theorem dX2_make_7 : decode cX2_make 7 = .ok (.getfield 12, 3) := by decide +kernel
theorem dX2_make_10 : decode cX2_make 10 = .ok (.aload_n 1, 1) := by decide +kernel
theorem dX2_make_11 : decode cX2_make 11 = .ok (.iconst 0, 1) := by decide +kernel
theorem dX2_make_12 : decode cX2_make 12 = .ok (.iload_n 2, 1) := by decide +kernel
theorem dX2_make_13 : decode cX2_make 13 = .ok (.invokevirtual 26, 3) := by decide +kernel
theorem dX2_make_16 : decode cX2_make 16 = .ok (.aload_n 0, 1) := by decide +kernel
theorem dX2_make_17 : decode cX2_make 17 = .ok (.getfield 12, 3) := by decide +kernel
theorem dX2_make_20 : decode cX2_make 20 = .ok (.aload_n 0, 1) := by decide +kernel
theorem dX2_make_21 : decode cX2_make 21 = .ok (.getfield 18, 3) := by decide +kernel
theorem dX2_make_24 : decode cX2_make 24 = .ok (.iconst 0, 1) := by decide +kernel
theorem dX2_make_25 : decode cX2_make 25 = .ok (.invokevirtual 30, 3) := by decide +kernel
theorem dX2_make_28 : decode cX2_make 28 = .ok (.aload_n 0, 1) := by decide +kernel
theorem dX2_make_29 : decode cX2_make 29 = .ok (.bipush 92, 2) := by decide +kernel
theorem dX2_make_31 : decode cX2_make 31 = .ok (.invokevirtual 22, 3) := by decide +kernel
theorem dX2_make_34 : decode cX2_make 34 = .ok (.aload_n 0, 1) := by decide +kernel
theorem dX2_make_35 : decode cX2_make 35 = .ok (.getfield 12, 3) := by decide +kernel
theorem dX2_make_38 : decode cX2_make 38 = .ok (.aload_n 0, 1) := by decide +kernel
theorem dX2_make_39 : decode cX2_make 39 = .ok (.getfield 18, 3) := by decide +kernel
theorem dX2_make_42 : decode cX2_make 42 = .ok (.iconst 0, 1) := by decide +kernel
theorem dX2_make_43 : decode cX2_make 43 = .ok (.bipush 32, 2) := by decide +kernel
theorem dX2_make_45 : decode cX2_make 45 = .ok (.invokevirtual 26, 3) := by decide +kernel
theorem dX2_make_48 : decode cX2_make 48 = .ok (.aload_n 0, 1) := by decide +kernel
theorem dX2_make_49 : decode cX2_make 49 = .ok (.getfield 12, 3) := by decide +kernel
theorem dX2_make_52 : decode cX2_make 52 = .ok (.aload_n 3, 1) := by decide +kernel
theorem dX2_make_53 : decode cX2_make 53 = .ok (.iload 4, 2) := by decide +kernel
theorem dX2_make_55 : decode cX2_make 55 = .ok (.invokevirtual 30, 3) := by decide +kernel
theorem dX2_make_58 : decode cX2_make 58 = .ok (.return_, 1) := by decide +kernel
set_option maxRecDepth 20000 in
theorem ggX2_startWithKey_X4_start : GoodIn wsX2_startWithKey wsX4_start := goodIn_r _ [6, 7, 8, 9, 10, 11, 12, 13, 14, 31, 32, 33, 34] (by decide +kernel) (by decide +kernel)
set_option maxRecDepth 20000 in
theorem gX2_startWithKey_X4_start : GoodIn wsX2_startWithKey (wsV RX2 34 RX4 yX4_start wsX4_start) := goodIn_app (goodIn_of _ (by decide +kernel)) ggX2_startWithKey_X4_start
set_option maxRecDepth 20000 in
theorem ggX2_startWithKey_X4_take : GoodIn wsX2_startWithKey wsX4_take := goodIn_r _ [18, 19, 13, 14, 20, 21, 22, 5, 23, 24, 25, 26, 27, 8, 28, 31, 32, 33, 34] (by decide +kernel) (by decide +kernel)
set_option maxRecDepth 20000 in
theorem gX2_startWithKey_X4_take : GoodIn wsX2_startWithKey (wsV RX2 37 RX4 yX4_take wsX4_take) := goodIn_app (goodIn_of _ (by decide +kernel)) ggX2_startWithKey_X4_take
theorem dX2_startWithKey_0 : decode cX2_startWithKey 0 = .ok (.aload_n 0, 1) := by decide +kernel
theorem dX2_startWithKey_1 : decode cX2_startWithKey 1 = .ok (.getfield 12, 3) := by decide +kernel
theorem dX2_startWithKey_4 : decode cX2_startWithKey 4 = .ok (.invokevirtual 34, 3) := by decide +kernel
theorem dX2_startWithKey_7 : decode cX2_startWithKey 7 = .ok (.iconst 0, 1) := by decide +kernel
theorem dX2_startWithKey_8 : decode cX2_startWithKey 8 = .ok (.istore_n 2, 1) := by decide +kernel
theorem dX2_startWithKey_9 : decode cX2_startWithKey 9 = .ok (.iload_n 2, 1) := by decide +kernel
theorem dX2_startWithKey_10 : decode cX2_startWithKey 10 = .ok (.bipush 64, 2) := by decide +kernel
theorem dX2_startWithKey_12 : decode cX2_startWithKey 12 = .ok (.if_icmp .ge 31, 3) := by decide +kernel
theorem dX2_startWithKey_15 : decode cX2_startWithKey 15 = .ok (.aload_n 0, 1) := by decide +kernel
theorem dX2_startWithKey_16 : decode cX2_startWithKey 16 = .ok (.getfield 12, 3) := by decide +kernel
theorem dX2_startWithKey_19 : decode cX2_startWithKey 19 = .ok (.iload_n 2, 1) := by decide +kernel
theorem dX2_startWithKey_20 : decode cX2_startWithKey 20 = .ok (.bipush 32, 2) := by decide +kernel
theorem dX2_startWithKey_22 : decode cX2_startWithKey 22 = .ok (.if_icmp .ge 9, 3) := by decide +kernel
theorem dX2_startWithKey_25 : decode cX2_startWithKey 25 = .ok (.iload_n 2, 1) := by decide +kernel
theorem dX2_startWithKey_26 : decode cX2_startWithKey 26 = .ok (.iconst 1, 1) := by decide +kernel
theorem dX2_startWithKey_27 : decode cX2_startWithKey 27 = .ok (.iadd, 1) := by decide +kernel
theorem dX2_startWithKey_28 : decode cX2_startWithKey 28 = .ok (.goto 4, 3) := by decide +kernel
theorem dX2_startWithKey_31 : decode cX2_startWithKey 31 = .ok (.iconst 0, 1) := by decide +kernel
theorem dX2_startWithKey_32 : decode cX2_startWithKey 32 = .ok (.iload_n 1, 1) := by decide +kernel
theorem dX2_startWithKey_33 : decode cX2_startWithKey 33 = .ok (.ixor, 1) := by decide +kernel
theorem dX2_startWithKey_34 : decode cX2_startWithKey 34 = .ok (.invokevirtual 37, 3) := by decide +kernel
theorem dX2_startWithKey_37 : decode cX2_startWithKey 37 = .ok (.iinc 2 1, 3) := by decide +kernel
theorem dX2_startWithKey_40 : decode cX2_startWithKey 40 = .ok (.goto (-31), 3) := by decide +kernel
theorem dX2_startWithKey_43 : decode cX2_startWithKey 43 = .ok (.return_, 1) := by decide +kernel
end
section
theorem dX3_init_0 : decode cX3_init 0 = .ok (.aload_n 0, 1) := by decide +kernel
theorem dX3_init_1 : decode cX3_init 1 = .ok (.invokespecial 1, 3) := by decide +kernel
theorem dX3_init_4 : decode cX3_init 4 = .ok (.aload_n 0, 1) := by decide +kernel
theorem dX3_init_5 : decode cX3_init 5 = .ok (.iload_n 1, 1) := by decide +kernel
theorem dX3_init_6 : decode cX3_init 6 = .ok (.putfield 7, 3) := by decide +kernel
theorem dX3_init_9 : decode cX3_init 9 = .ok (.aload_n 0, 1) := by decide +kernel
theorem dX3_init_10 : decode cX3_init 10 = .ok (.iload_n 2, 1) := by decide +kernel
theorem dX3_init_11 : decode cX3_init 11 = .ok (.putfield 13, 3) := by decide +kernel
theorem dX3_init_14 : decode cX3_init 14 = .ok (.aload_n 0, 1) := by decide +kernel
theorem dX3_init_15 : decode cX3_init 15 = .ok (.iload_n 3, 1) := by decide +kernel
theorem dX3_init_16 : decode cX3_init 16 = .ok (.putfield 17, 3) := by decide +kernel
theorem dX3_init_19 : decode cX3_init 19 = .ok (.aload_n 0, 1) := by decide +kernel
theorem dX3_init_20 : decode cX3_init 20 = .ok (.iload 4, 2) := by decide +kernel
theorem dX3_init_22 : decode cX3_init 22 = .ok (.putfield 20, 3) := by decide +kernel
theorem dX3_init_25 : decode cX3_init 25 = .ok (.aload_n 0, 1) := by decide +kernel
theorem dX3_init_26 : decode cX3_init 26 = .ok (.aload 5, 2) := by decide +kernel
theorem dX3_init_28 : decode cX3_init 28 = .ok (.putfield 23, 3) := by decide +kernel
theorem dX3_init_31 : decode cX3_init 31 = .ok (.return_, 1) := by decide +kernel
set_option maxRecDepth 20000 in
theorem ggX3_isCountedBy_X5_countOf : GoodIn wsX3_isCountedBy wsX5_countOf := goodIn_r _ [7, 8, 14] (by decide +kernel) (by decide +kernel)
set_option maxRecDepth 20000 in
theorem gX3_isCountedBy_X5_countOf : GoodIn wsX3_isCountedBy (wsV RX3 27 RX5 yX5_countOf wsX5_countOf) := goodIn_app (goodIn_of _ (by decide +kernel)) ggX3_isCountedBy_X5_countOf
theorem dX3_isCountedBy_0 : decode cX3_isCountedBy 0 = .ok (.aload_n 0, 1) := by decide +kernel
theorem dX3_isCountedBy_1 : decode cX3_isCountedBy 1 = .ok (.getfield 17, 3) := by decide +kernel
theorem dX3_isCountedBy_4 : decode cX3_isCountedBy 4 = .ok (.i2l, 1) := by decide +kernel
theorem dX3_isCountedBy_5 : decode cX3_isCountedBy 5 = .ok (.aload_n 1, 1) := by decide +kernel
theorem dX3_isCountedBy_6 : decode cX3_isCountedBy 6 = .ok (.aload_n 0, 1) := by decide +kernel
theorem dX3_isCountedBy_7 : decode cX3_isCountedBy 7 = .ok (.getfield 13, 3) := by decide +kernel
theorem dX3_isCountedBy_10 : decode cX3_isCountedBy 10 = .ok (.invokevirtual 27, 3) := by decide +kernel
theorem dX3_isCountedBy_13 : decode cX3_isCountedBy 13 = .ok (.lcmp, 1) := by decide +kernel
theorem dX3_isCountedBy_14 : decode cX3_isCountedBy 14 = .ok (.ifCond .gt 7, 3) := by decide +kernel
theorem dX3_isCountedBy_17 : decode cX3_isCountedBy 17 = .ok (.iconst 1, 1) := by decide +kernel
theorem dX3_isCountedBy_18 : decode cX3_isCountedBy 18 = .ok (.goto 4, 3) := by decide +kernel
theorem dX3_isCountedBy_21 : decode cX3_isCountedBy 21 = .ok (.iconst 0, 1) := by decide +kernel
theorem dX3_isCountedBy_22 : decode cX3_isCountedBy 22 = .ok (.ireturn, 1) := by decide +kernel
end
section
theorem dX4_init_0 : decode cX4_init 0 = .ok (.aload_n 0, 1) := by decide +kernel
theorem dX4_init_1 : decode cX4_init 1 = .ok (.invokespecial 3, 3) := by decide +kernel
theorem dX4_init_4 : decode cX4_init 4 = .ok (.aload_n 0, 1) := by decide +kernel
theorem dX4_init_5 : decode cX4_init 5 = .ok (.bipush 8, 2) := by decide +kernel
theorem dX4_init_7 : decode cX4_init 7 = .ok (.newarray .int, 2) := by decide +kernel
theorem dX4_init_9 : decode cX4_init 9 = .ok (.putfield 9, 3) := by decide +kernel
theorem dX4_init_12 : decode cX4_init 12 = .ok (.aload_n 0, 1) := by decide +kernel
theorem dX4_init_13 : decode cX4_init 13 = .ok (.bipush 64, 2) := by decide +kernel
theorem dX4_init_15 : decode cX4_init 15 = .ok (.newarray .int, 2) := by decide +kernel
theorem dX4_init_17 : decode cX4_init 17 = .ok (.putfield 15, 3) := by decide +kernel
theorem dX4_init_20 : decode cX4_init 20 = .ok (.aload_n 0, 1) := by decide +kernel
theorem dX4_init_21 : decode cX4_init 21 = .ok (.iconst 0, 1) := by decide +kernel
theorem dX4_init_22 : decode cX4_init 22 = .ok (.putfield 18, 3) := by decide +kernel
theorem dX4_init_25 : decode cX4_init 25 = .ok (.aload_n 0, 1) := by decide +kernel
theorem dX4_init_26 : decode cX4_init 26 = .ok (.iconst 0, 1) := by decide +kernel
theorem dX4_init_27 : decode cX4_init 27 = .ok (.putfield 22, 3) := by decide +kernel
theorem dX4_init_30 : decode cX4_init 30 = .ok (.return_, 1) := by decide +kernel
theorem dX4_start_0 : decode cX4_start 0 = .ok (.getstatic 25, 3) := by decide +kernel
theorem dX4_start_3 : decode cX4_start 3 = .ok (.iconst 0, 1) := by decide +kernel
theorem dX4_start_4 : decode cX4_start 4 = .ok (.aload_n 0, 1) := by decide +kernel
theorem dX4_start_5 : decode cX4_start 5 = .ok (.getfield 9, 3) := by decide +kernel
theorem dX4_start_8 : decode cX4_start 8 = .ok (.iconst 0, 1) := by decide +kernel
theorem dX4_start_9 : decode cX4_start 9 = .ok (.getstatic 25, 3) := by decide +kernel
theorem dX4_start_12 : decode cX4_start 12 = .ok (.arraylength, 1) := by decide +kernel
theorem dX4_start_13 : decode cX4_start 13 = .ok (.invokestatic 28, 3) := by decide +kernel
theorem dX4_start_16 : decode cX4_start 16 = .ok (.aload_n 0, 1) := by decide +kernel
theorem dX4_start_17 : decode cX4_start 17 = .ok (.iconst 0, 1) := by decide +kernel
theorem dX4_start_18 : decode cX4_start 18 = .ok (.putfield 18, 3) := by decide +kernel
theorem dX4_start_21 : decode cX4_start 21 = .ok (.aload_n 0, 1) := by decide +kernel
theorem dX4_start_22 : decode cX4_start 22 = .ok (.iconst 0, 1) := by decide +kernel
theorem dX4_start_23 : decode cX4_start 23 = .ok (.putfield 22, 3) := by decide +kernel
theorem dX4_start_26 : decode cX4_start 26 = .ok (.return_, 1) := by decide +kernel
set_option maxRecDepth 20000 in
theorem ggX4_take_X4_spread : GoodIn wsX4_take wsX4_spread := goodIn_r _ [8, 1, 15, 16, 17, 18] (by decide +kernel) (by decide +kernel)
set_option maxRecDepth 20000 in
theorem gX4_take_X4_spread : GoodIn wsX4_take (wsV RX4 34 RX4 yX4_spread wsX4_spread) := goodIn_app (goodIn_of _ (by decide +kernel)) ggX4_take_X4_spread
set_option maxRecDepth 20000 in
theorem ggX4_take_X4_mix : GoodIn wsX4_take wsX4_mix := goodIn_r _ [12, 13, 14, 1, 15, 16, 17, 18] (by decide +kernel) (by decide +kernel)
set_option maxRecDepth 20000 in
theorem gX4_take_X4_mix : GoodIn wsX4_take (wsV RX4 37 RX4 yX4_mix wsX4_mix) := goodIn_app (goodIn_of _ (by decide +kernel)) ggX4_take_X4_mix
theorem dX4_take_0 : decode cX4_take 0 = .ok (.aload_n 0, 1) := by decide +kernel
theorem dX4_take_1 : decode cX4_take 1 = .ok (.getfield 15, 3) := by decide +kernel
theorem dX4_take_4 : decode cX4_take 4 = .ok (.aload_n 0, 1) := by decide +kernel
theorem dX4_take_5 : decode cX4_take 5 = .ok (.getfield 18, 3) := by decide +kernel
theorem dX4_take_8 : decode cX4_take 8 = .ok (.iconst 2, 1) := by decide +kernel
theorem dX4_take_9 : decode cX4_take 9 = .ok (.ishr, 1) := by decide +kernel
theorem dX4_take_10 : decode cX4_take 10 = .ok (.aload_n 0, 1) := by decide +kernel
theorem dX4_take_11 : decode cX4_take 11 = .ok (.getfield 15, 3) := by decide +kernel
theorem dX4_take_14 : decode cX4_take 14 = .ok (.aload_n 0, 1) := by decide +kernel
theorem dX4_take_15 : decode cX4_take 15 = .ok (.getfield 18, 3) := by decide +kernel
theorem dX4_take_18 : decode cX4_take 18 = .ok (.iconst 2, 1) := by decide +kernel
theorem dX4_take_19 : decode cX4_take 19 = .ok (.ishr, 1) := by decide +kernel
theorem dX4_take_20 : decode cX4_take 20 = .ok (.iaload, 1) := by decide +kernel
theorem dX4_take_21 : decode cX4_take 21 = .ok (.bipush 8, 2) := by decide +kernel
theorem dX4_take_23 : decode cX4_take 23 = .ok (.ishl, 1) := by decide +kernel
theorem dX4_take_24 : decode cX4_take 24 = .ok (.iload_n 1, 1) := by decide +kernel
theorem dX4_take_25 : decode cX4_take 25 = .ok (.ior, 1) := by decide +kernel
theorem dX4_take_26 : decode cX4_take 26 = .ok (.iastore, 1) := by decide +kernel
theorem dX4_take_27 : decode cX4_take 27 = .ok (.aload_n 0, 1) := by decide +kernel
theorem dX4_take_28 : decode cX4_take 28 = .ok (.dup, 1) := by decide +kernel
theorem dX4_take_29 : decode cX4_take 29 = .ok (.getfield 18, 3) := by decide +kernel
theorem dX4_take_32 : decode cX4_take 32 = .ok (.iconst 1, 1) := by decide +kernel
theorem dX4_take_33 : decode cX4_take 33 = .ok (.iadd, 1) := by decide +kernel
theorem dX4_take_34 : decode cX4_take 34 = .ok (.putfield 18, 3) := by decide +kernel
theorem dX4_take_37 : decode cX4_take 37 = .ok (.aload_n 0, 1) := by decide +kernel
theorem dX4_take_38 : decode cX4_take 38 = .ok (.dup, 1) := by decide +kernel
theorem dX4_take_39 : decode cX4_take 39 = .ok (.getfield 22, 3) := by decide +kernel
theorem dX4_take_42 : decode cX4_take 42 = .ok (.iconst 1, 1) := by decide +kernel
theorem dX4_take_43 : decode cX4_take 43 = .ok (.iadd, 1) := by decide +kernel
theorem dX4_take_44 : decode cX4_take 44 = .ok (.putfield 22, 3) := by decide +kernel
theorem dX4_take_47 : decode cX4_take 47 = .ok (.aload_n 0, 1) := by decide +kernel
theorem dX4_take_48 : decode cX4_take 48 = .ok (.getfield 18, 3) := by decide +kernel
theorem dX4_take_51 : decode cX4_take 51 = .ok (.bipush 64, 2) := by decide +kernel
theorem dX4_take_53 : decode cX4_take 53 = .ok (.if_icmp .ne 16, 3) := by decide +kernel
theorem dX4_take_56 : decode cX4_take 56 = .ok (.aload_n 0, 1) := by decide +kernel
theorem dX4_take_57 : decode cX4_take 57 = .ok (.invokevirtual 34, 3) := by decide +kernel
theorem dX4_take_60 : decode cX4_take 60 = .ok (.aload_n 0, 1) := by decide +kernel
theorem dX4_take_61 : decode cX4_take 61 = .ok (.invokevirtual 37, 3) := by decide +kernel
theorem dX4_take_64 : decode cX4_take 64 = .ok (.aload_n 0, 1) := by decide +kernel
theorem dX4_take_65 : decode cX4_take 65 = .ok (.iconst 0, 1) := by decide +kernel
theorem dX4_take_66 : decode cX4_take 66 = .ok (.putfield 18, 3) := by decide +kernel
theorem dX4_take_69 : decode cX4_take 69 = .ok (.return_, 1) := by decide +kernel
set_option maxRecDepth 20000 in
theorem ggX4_takeRow_X4_take : GoodIn wsX4_takeRow wsX4_take := goodIn_r _ [5, 6, 7, 8, 9, 10, 11, 4, 12, 13, 14, 15, 16, 17, 18, 19, 20, 21, 22] (by decide +kernel) (by decide +kernel)
set_option maxRecDepth 20000 in
theorem gX4_takeRow_X4_take : GoodIn wsX4_takeRow (wsV RX4 40 RX4 yX4_take wsX4_take) := goodIn_app (goodIn_of _ (by decide +kernel)) ggX4_takeRow_X4_take
theorem dX4_takeRow_0 : decode cX4_takeRow 0 = .ok (.iconst 0, 1) := by decide +kernel
theorem dX4_takeRow_1 : decode cX4_takeRow 1 = .ok (.istore 4, 2) := by decide +kernel
theorem dX4_takeRow_3 : decode cX4_takeRow 3 = .ok (.iload 4, 2) := by decide +kernel
theorem dX4_takeRow_5 : decode cX4_takeRow 5 = .ok (.iload_n 3, 1) := by decide +kernel
theorem dX4_takeRow_6 : decode cX4_takeRow 6 = .ok (.if_icmp .ge 19, 3) := by decide +kernel
theorem dX4_takeRow_9 : decode cX4_takeRow 9 = .ok (.aload_n 0, 1) := by decide +kernel
theorem dX4_takeRow_10 : decode cX4_takeRow 10 = .ok (.aload_n 1, 1) := by decide +kernel
theorem dX4_takeRow_11 : decode cX4_takeRow 11 = .ok (.iload_n 2, 1) := by decide +kernel
theorem dX4_takeRow_12 : decode cX4_takeRow 12 = .ok (.iload 4, 2) := by decide +kernel
theorem dX4_takeRow_14 : decode cX4_takeRow 14 = .ok (.iadd, 1) := by decide +kernel
theorem dX4_takeRow_15 : decode cX4_takeRow 15 = .ok (.iaload, 1) := by decide +kernel
theorem dX4_takeRow_16 : decode cX4_takeRow 16 = .ok (.invokevirtual 40, 3) := by decide +kernel
theorem dX4_takeRow_19 : decode cX4_takeRow 19 = .ok (.iinc 4 1, 3) := by decide +kernel
theorem dX4_takeRow_22 : decode cX4_takeRow 22 = .ok (.goto (-19), 3) := by decide +kernel
theorem dX4_takeRow_25 : decode cX4_takeRow 25 = .ok (.return_, 1) := by decide +kernel
set_option maxRecDepth 20000 in
theorem ggX4_finish_X4_take : GoodIn wsX4_finish wsX4_take := goodIn_r _ [9, 10, 3, 2, 11, 12, 13, 8, 14, 15, 16, 17, 18, 4, 19, 20, 21, 22, 23] (by decide +kernel) (by decide +kernel)
set_option maxRecDepth 20000 in
theorem gX4_finish_X4_take : GoodIn wsX4_finish (wsV RX4 40 RX4 yX4_take wsX4_take) := goodIn_app (goodIn_of _ (by decide +kernel)) ggX4_finish_X4_take
theorem dX4_finish_0 : decode cX4_finish 0 = .ok (.ldc2_w 44, 3) := by decide +kernel
theorem dX4_finish_3 : decode cX4_finish 3 = .ok (.aload_n 0, 1) := by decide +kernel
theorem dX4_finish_4 : decode cX4_finish 4 = .ok (.getfield 22, 3) := by decide +kernel
theorem dX4_finish_7 : decode cX4_finish 7 = .ok (.i2l, 1) := by decide +kernel
theorem dX4_finish_8 : decode cX4_finish 8 = .ok (.lmul, 1) := by decide +kernel
theorem dX4_finish_9 : decode cX4_finish 9 = .ok (.lstore_n 3, 1) := by decide +kernel
theorem dX4_finish_10 : decode cX4_finish 10 = .ok (.aload_n 0, 1) := by decide +kernel
theorem dX4_finish_11 : decode cX4_finish 11 = .ok (.sipush 128, 3) := by decide +kernel
theorem dX4_finish_14 : decode cX4_finish 14 = .ok (.invokevirtual 40, 3) := by decide +kernel
theorem dX4_finish_17 : decode cX4_finish 17 = .ok (.iconst 0, 1) := by decide +kernel
theorem dX4_finish_18 : decode cX4_finish 18 = .ok (.istore 5, 2) := by decide +kernel
theorem dX4_finish_20 : decode cX4_finish 20 = .ok (.iload 5, 2) := by decide +kernel
theorem dX4_finish_22 : decode cX4_finish 22 = .ok (.bipush 64, 2) := by decide +kernel
theorem dX4_finish_24 : decode cX4_finish 24 = .ok (.if_icmp .ge 23, 3) := by decide +kernel
theorem dX4_finish_27 : decode cX4_finish 27 = .ok (.aload_n 0, 1) := by decide +kernel
theorem dX4_finish_28 : decode cX4_finish 28 = .ok (.getfield 18, 3) := by decide +kernel
theorem dX4_finish_31 : decode cX4_finish 31 = .ok (.bipush 56, 2) := by decide +kernel
theorem dX4_finish_33 : decode cX4_finish 33 = .ok (.if_icmp .eq 14, 3) := by decide +kernel
theorem dX4_finish_36 : decode cX4_finish 36 = .ok (.aload_n 0, 1) := by decide +kernel
theorem dX4_finish_37 : decode cX4_finish 37 = .ok (.iconst 0, 1) := by decide +kernel
theorem dX4_finish_38 : decode cX4_finish 38 = .ok (.invokevirtual 40, 3) := by decide +kernel
theorem dX4_finish_41 : decode cX4_finish 41 = .ok (.iinc 5 1, 3) := by decide +kernel
theorem dX4_finish_44 : decode cX4_finish 44 = .ok (.goto (-24), 3) := by decide +kernel
theorem dX4_finish_47 : decode cX4_finish 47 = .ok (.bipush 56, 2) := by decide +kernel
theorem dX4_finish_49 : decode cX4_finish 49 = .ok (.istore 5, 2) := by decide +kernel
theorem dX4_finish_51 : decode cX4_finish 51 = .ok (.iload 5, 2) := by decide +kernel
theorem dX4_finish_53 : decode cX4_finish 53 = .ok (.ifCond .lt 22, 3) := by decide +kernel
theorem dX4_finish_56 : decode cX4_finish 56 = .ok (.aload_n 0, 1) := by decide +kernel
theorem dX4_finish_57 : decode cX4_finish 57 = .ok (.lload_n 3, 1) := by decide +kernel
theorem dX4_finish_58 : decode cX4_finish 58 = .ok (.iload 5, 2) := by decide +kernel
theorem dX4_finish_60 : decode cX4_finish 60 = .ok (.lushr, 1) := by decide +kernel
theorem dX4_finish_61 : decode cX4_finish 61 = .ok (.l2i, 1) := by decide +kernel
theorem dX4_finish_62 : decode cX4_finish 62 = .ok (.sipush 255, 3) := by decide +kernel
theorem dX4_finish_65 : decode cX4_finish 65 = .ok (.iand, 1) := by decide +kernel
theorem dX4_finish_66 : decode cX4_finish 66 = .ok (.invokevirtual 40, 3) := by decide +kernel
theorem dX4_finish_69 : decode cX4_finish 69 = .ok (.iinc 5 (-8), 3) := by decide +kernel
theorem dX4_finish_72 : decode cX4_finish 72 = .ok (.goto (-21), 3) := by decide +kernel
theorem dX4_finish_75 : decode cX4_finish 75 = .ok (.iconst 0, 1) := by decide +kernel
theorem dX4_finish_76 : decode cX4_finish 76 = .ok (.istore 5, 2) := by decide +kernel
theorem dX4_finish_78 : decode cX4_finish 78 = .ok (.iload 5, 2) := by decide +kernel
theorem dX4_finish_80 : decode cX4_finish 80 = .ok (.bipush 32, 2) := by decide +kernel
theorem dX4_finish_82 : decode cX4_finish 82 = .ok (.if_icmp .ge 39, 3) := by decide +kernel
theorem dX4_finish_85 : decode cX4_finish 85 = .ok (.aload_n 1, 1) := by decide +kernel
theorem dX4_finish_86 : decode cX4_finish 86 = .ok (.iload_n 2, 1) := by decide +kernel
theorem dX4_finish_87 : decode cX4_finish 87 = .ok (.iload 5, 2) := by decide +kernel
theorem dX4_finish_89 : decode cX4_finish 89 = .ok (.iadd, 1) := by decide +kernel
theorem dX4_finish_90 : decode cX4_finish 90 = .ok (.aload_n 0, 1) := by decide +kernel
theorem dX4_finish_91 : decode cX4_finish 91 = .ok (.getfield 9, 3) := by decide +kernel
theorem dX4_finish_94 : decode cX4_finish 94 = .ok (.iload 5, 2) := by decide +kernel
theorem dX4_finish_96 : decode cX4_finish 96 = .ok (.iconst 2, 1) := by decide +kernel
theorem dX4_finish_97 : decode cX4_finish 97 = .ok (.ishr, 1) := by decide +kernel
theorem dX4_finish_98 : decode cX4_finish 98 = .ok (.iaload, 1) := by decide +kernel
theorem dX4_finish_99 : decode cX4_finish 99 = .ok (.bipush 24, 2) := by decide +kernel
theorem dX4_finish_101 : decode cX4_finish 101 = .ok (.bipush 8, 2) := by decide +kernel
theorem dX4_finish_103 : decode cX4_finish 103 = .ok (.iload 5, 2) := by decide +kernel
theorem dX4_finish_105 : decode cX4_finish 105 = .ok (.iconst 3, 1) := by decide +kernel
theorem dX4_finish_106 : decode cX4_finish 106 = .ok (.iand, 1) := by decide +kernel
theorem dX4_finish_107 : decode cX4_finish 107 = .ok (.imul, 1) := by decide +kernel
theorem dX4_finish_108 : decode cX4_finish 108 = .ok (.isub, 1) := by decide +kernel
theorem dX4_finish_109 : decode cX4_finish 109 = .ok (.iushr, 1) := by decide +kernel
theorem dX4_finish_110 : decode cX4_finish 110 = .ok (.sipush 255, 3) := by decide +kernel
theorem dX4_finish_113 : decode cX4_finish 113 = .ok (.iand, 1) := by decide +kernel
theorem dX4_finish_114 : decode cX4_finish 114 = .ok (.iastore, 1) := by decide +kernel
theorem dX4_finish_115 : decode cX4_finish 115 = .ok (.iinc 5 1, 3) := by decide +kernel
theorem dX4_finish_118 : decode cX4_finish 118 = .ok (.goto (-40), 3) := by decide +kernel
theorem dX4_finish_121 : decode cX4_finish 121 = .ok (.return_, 1) := by decide +kernel
theorem dX4_spread_0 : decode cX4_spread 0 = .ok (.bipush 16, 2) := by decide +kernel
theorem dX4_spread_2 : decode cX4_spread 2 = .ok (.istore_n 1, 1) := by decide +kernel
theorem dX4_spread_3 : decode cX4_spread 3 = .ok (.iload_n 1, 1) := by decide +kernel
theorem dX4_spread_4 : decode cX4_spread 4 = .ok (.bipush 64, 2) := by decide +kernel
theorem dX4_spread_6 : decode cX4_spread 6 = .ok (.if_icmp .ge 110, 3) := by decide +kernel
theorem dX4_spread_9 : decode cX4_spread 9 = .ok (.aload_n 0, 1) := by decide +kernel
theorem dX4_spread_10 : decode cX4_spread 10 = .ok (.getfield 15, 3) := by decide +kernel
theorem dX4_spread_13 : decode cX4_spread 13 = .ok (.iload_n 1, 1) := by decide +kernel
theorem dX4_spread_14 : decode cX4_spread 14 = .ok (.bipush 15, 2) := by decide +kernel
theorem dX4_spread_16 : decode cX4_spread 16 = .ok (.isub, 1) := by decide +kernel
theorem dX4_spread_17 : decode cX4_spread 17 = .ok (.iaload, 1) := by decide +kernel
theorem dX4_spread_18 : decode cX4_spread 18 = .ok (.istore_n 2, 1) := by decide +kernel
theorem dX4_spread_19 : decode cX4_spread 19 = .ok (.aload_n 0, 1) := by decide +kernel
theorem dX4_spread_20 : decode cX4_spread 20 = .ok (.getfield 15, 3) := by decide +kernel
theorem dX4_spread_23 : decode cX4_spread 23 = .ok (.iload_n 1, 1) := by decide +kernel
theorem dX4_spread_24 : decode cX4_spread 24 = .ok (.iconst 2, 1) := by decide +kernel
theorem dX4_spread_25 : decode cX4_spread 25 = .ok (.isub, 1) := by decide +kernel
theorem dX4_spread_26 : decode cX4_spread 26 = .ok (.iaload, 1) := by decide +kernel
theorem dX4_spread_27 : decode cX4_spread 27 = .ok (.istore_n 3, 1) := by decide +kernel
theorem dX4_spread_28 : decode cX4_spread 28 = .ok (.iload_n 2, 1) := by decide +kernel
theorem dX4_spread_29 : decode cX4_spread 29 = .ok (.bipush 7, 2) := by decide +kernel
theorem dX4_spread_31 : decode cX4_spread 31 = .ok (.iushr, 1) := by decide +kernel
theorem dX4_spread_32 : decode cX4_spread 32 = .ok (.iload_n 2, 1) := by decide +kernel
theorem dX4_spread_33 : decode cX4_spread 33 = .ok (.bipush 25, 2) := by decide +kernel
theorem dX4_spread_35 : decode cX4_spread 35 = .ok (.ishl, 1) := by decide +kernel
theorem dX4_spread_36 : decode cX4_spread 36 = .ok (.ior, 1) := by decide +kernel
theorem dX4_spread_37 : decode cX4_spread 37 = .ok (.iload_n 2, 1) := by decide +kernel
theorem dX4_spread_38 : decode cX4_spread 38 = .ok (.bipush 18, 2) := by decide +kernel
theorem dX4_spread_40 : decode cX4_spread 40 = .ok (.iushr, 1) := by decide +kernel
theorem dX4_spread_41 : decode cX4_spread 41 = .ok (.iload_n 2, 1) := by decide +kernel
theorem dX4_spread_42 : decode cX4_spread 42 = .ok (.bipush 14, 2) := by decide +kernel
theorem dX4_spread_44 : decode cX4_spread 44 = .ok (.ishl, 1) := by decide +kernel
theorem dX4_spread_45 : decode cX4_spread 45 = .ok (.ior, 1) := by decide +kernel
theorem dX4_spread_46 : decode cX4_spread 46 = .ok (.ixor, 1) := by decide +kernel
theorem dX4_spread_47 : decode cX4_spread 47 = .ok (.iload_n 2, 1) := by decide +kernel
theorem dX4_spread_48 : decode cX4_spread 48 = .ok (.iconst 3, 1) := by decide +kernel
theorem dX4_spread_49 : decode cX4_spread 49 = .ok (.iushr, 1) := by decide +kernel
theorem dX4_spread_50 : decode cX4_spread 50 = .ok (.ixor, 1) := by decide +kernel
theorem dX4_spread_51 : decode cX4_spread 51 = .ok (.istore 4, 2) := by decide +kernel
theorem dX4_spread_53 : decode cX4_spread 53 = .ok (.iload_n 3, 1) := by decide +kernel
theorem dX4_spread_54 : decode cX4_spread 54 = .ok (.bipush 17, 2) := by decide +kernel
theorem dX4_spread_56 : decode cX4_spread 56 = .ok (.iushr, 1) := by decide +kernel
theorem dX4_spread_57 : decode cX4_spread 57 = .ok (.iload_n 3, 1) := by decide +kernel
theorem dX4_spread_58 : decode cX4_spread 58 = .ok (.bipush 15, 2) := by decide +kernel
theorem dX4_spread_60 : decode cX4_spread 60 = .ok (.ishl, 1) := by decide +kernel
theorem dX4_spread_61 : decode cX4_spread 61 = .ok (.ior, 1) := by decide +kernel
theorem dX4_spread_62 : decode cX4_spread 62 = .ok (.iload_n 3, 1) := by decide +kernel
theorem dX4_spread_63 : decode cX4_spread 63 = .ok (.bipush 19, 2) := by decide +kernel
theorem dX4_spread_65 : decode cX4_spread 65 = .ok (.iushr, 1) := by decide +kernel
theorem dX4_spread_66 : decode cX4_spread 66 = .ok (.iload_n 3, 1) := by decide +kernel
theorem dX4_spread_67 : decode cX4_spread 67 = .ok (.bipush 13, 2) := by decide +kernel
theorem dX4_spread_69 : decode cX4_spread 69 = .ok (.ishl, 1) := by decide +kernel
theorem dX4_spread_70 : decode cX4_spread 70 = .ok (.ior, 1) := by decide +kernel
theorem dX4_spread_71 : decode cX4_spread 71 = .ok (.ixor, 1) := by decide +kernel
theorem dX4_spread_72 : decode cX4_spread 72 = .ok (.iload_n 3, 1) := by decide +kernel
theorem dX4_spread_73 : decode cX4_spread 73 = .ok (.bipush 10, 2) := by decide +kernel
theorem dX4_spread_75 : decode cX4_spread 75 = .ok (.iushr, 1) := by decide +kernel
theorem dX4_spread_76 : decode cX4_spread 76 = .ok (.ixor, 1) := by decide +kernel
theorem dX4_spread_77 : decode cX4_spread 77 = .ok (.istore 5, 2) := by decide +kernel
theorem dX4_spread_79 : decode cX4_spread 79 = .ok (.aload_n 0, 1) := by decide +kernel
theorem dX4_spread_80 : decode cX4_spread 80 = .ok (.getfield 15, 3) := by decide +kernel
theorem dX4_spread_83 : decode cX4_spread 83 = .ok (.iload_n 1, 1) := by decide +kernel
theorem dX4_spread_84 : decode cX4_spread 84 = .ok (.aload_n 0, 1) := by decide +kernel
theorem dX4_spread_85 : decode cX4_spread 85 = .ok (.getfield 15, 3) := by decide +kernel
theorem dX4_spread_88 : decode cX4_spread 88 = .ok (.iload_n 1, 1) := by decide +kernel
theorem dX4_spread_89 : decode cX4_spread 89 = .ok (.bipush 16, 2) := by decide +kernel
theorem dX4_spread_91 : decode cX4_spread 91 = .ok (.isub, 1) := by decide +kernel
theorem dX4_spread_92 : decode cX4_spread 92 = .ok (.iaload, 1) := by decide +kernel
theorem dX4_spread_93 : decode cX4_spread 93 = .ok (.iload 4, 2) := by decide +kernel
theorem dX4_spread_95 : decode cX4_spread 95 = .ok (.iadd, 1) := by decide +kernel
theorem dX4_spread_96 : decode cX4_spread 96 = .ok (.aload_n 0, 1) := by decide +kernel
theorem dX4_spread_97 : decode cX4_spread 97 = .ok (.getfield 15, 3) := by decide +kernel
theorem dX4_spread_100 : decode cX4_spread 100 = .ok (.iload_n 1, 1) := by decide +kernel
theorem dX4_spread_101 : decode cX4_spread 101 = .ok (.bipush 7, 2) := by decide +kernel
theorem dX4_spread_103 : decode cX4_spread 103 = .ok (.isub, 1) := by decide +kernel
theorem dX4_spread_104 : decode cX4_spread 104 = .ok (.iaload, 1) := by decide +kernel
theorem dX4_spread_105 : decode cX4_spread 105 = .ok (.iadd, 1) := by decide +kernel
theorem dX4_spread_106 : decode cX4_spread 106 = .ok (.iload 5, 2) := by decide +kernel
theorem dX4_spread_108 : decode cX4_spread 108 = .ok (.iadd, 1) := by decide +kernel
theorem dX4_spread_109 : decode cX4_spread 109 = .ok (.iastore, 1) := by decide +kernel
theorem dX4_spread_110 : decode cX4_spread 110 = .ok (.iinc 1 1, 3) := by decide +kernel
theorem dX4_spread_113 : decode cX4_spread 113 = .ok (.goto (-110), 3) := by decide +kernel
theorem dX4_spread_116 : decode cX4_spread 116 = .ok (.return_, 1) := by decide +kernel
theorem dX4_mix_0 : decode cX4_mix 0 = .ok (.aload_n 0, 1) := by decide +kernel
theorem dX4_mix_1 : decode cX4_mix 1 = .ok (.getfield 9, 3) := by decide +kernel
theorem dX4_mix_4 : decode cX4_mix 4 = .ok (.iconst 0, 1) := by decide +kernel
theorem dX4_mix_5 : decode cX4_mix 5 = .ok (.iaload, 1) := by decide +kernel
theorem dX4_mix_6 : decode cX4_mix 6 = .ok (.istore_n 1, 1) := by decide +kernel
theorem dX4_mix_7 : decode cX4_mix 7 = .ok (.aload_n 0, 1) := by decide +kernel
theorem dX4_mix_8 : decode cX4_mix 8 = .ok (.getfield 9, 3) := by decide +kernel
theorem dX4_mix_11 : decode cX4_mix 11 = .ok (.iconst 1, 1) := by decide +kernel
theorem dX4_mix_12 : decode cX4_mix 12 = .ok (.iaload, 1) := by decide +kernel
theorem dX4_mix_13 : decode cX4_mix 13 = .ok (.istore_n 2, 1) := by decide +kernel
theorem dX4_mix_14 : decode cX4_mix 14 = .ok (.aload_n 0, 1) := by decide +kernel
theorem dX4_mix_15 : decode cX4_mix 15 = .ok (.getfield 9, 3) := by decide +kernel
theorem dX4_mix_18 : decode cX4_mix 18 = .ok (.iconst 2, 1) := by decide +kernel
theorem dX4_mix_19 : decode cX4_mix 19 = .ok (.iaload, 1) := by decide +kernel
theorem dX4_mix_20 : decode cX4_mix 20 = .ok (.istore_n 3, 1) := by decide +kernel
theorem dX4_mix_21 : decode cX4_mix 21 = .ok (.aload_n 0, 1) := by decide +kernel
theorem dX4_mix_22 : decode cX4_mix 22 = .ok (.getfield 9, 3) := by decide +kernel
theorem dX4_mix_25 : decode cX4_mix 25 = .ok (.iconst 3, 1) := by decide +kernel
theorem dX4_mix_26 : decode cX4_mix 26 = .ok (.iaload, 1) := by decide +kernel
theorem dX4_mix_27 : decode cX4_mix 27 = .ok (.istore 4, 2) := by decide +kernel
theorem dX4_mix_29 : decode cX4_mix 29 = .ok (.aload_n 0, 1) := by decide +kernel
theorem dX4_mix_30 : decode cX4_mix 30 = .ok (.getfield 9, 3) := by decide +kernel
theorem dX4_mix_33 : decode cX4_mix 33 = .ok (.iconst 4, 1) := by decide +kernel
theorem dX4_mix_34 : decode cX4_mix 34 = .ok (.iaload, 1) := by decide +kernel
theorem dX4_mix_35 : decode cX4_mix 35 = .ok (.istore 5, 2) := by decide +kernel
theorem dX4_mix_37 : decode cX4_mix 37 = .ok (.aload_n 0, 1) := by decide +kernel
theorem dX4_mix_38 : decode cX4_mix 38 = .ok (.getfield 9, 3) := by decide +kernel
theorem dX4_mix_41 : decode cX4_mix 41 = .ok (.iconst 5, 1) := by decide +kernel
theorem dX4_mix_42 : decode cX4_mix 42 = .ok (.iaload, 1) := by decide +kernel
theorem dX4_mix_43 : decode cX4_mix 43 = .ok (.istore 6, 2) := by decide +kernel
theorem dX4_mix_45 : decode cX4_mix 45 = .ok (.aload_n 0, 1) := by decide +kernel
theorem dX4_mix_46 : decode cX4_mix 46 = .ok (.getfield 9, 3) := by decide +kernel
theorem dX4_mix_49 : decode cX4_mix 49 = .ok (.bipush 6, 2) := by decide +kernel
theorem dX4_mix_51 : decode cX4_mix 51 = .ok (.iaload, 1) := by decide +kernel
theorem dX4_mix_52 : decode cX4_mix 52 = .ok (.istore 7, 2) := by decide +kernel
theorem dX4_mix_54 : decode cX4_mix 54 = .ok (.aload_n 0, 1) := by decide +kernel
theorem dX4_mix_55 : decode cX4_mix 55 = .ok (.getfield 9, 3) := by decide +kernel
theorem dX4_mix_58 : decode cX4_mix 58 = .ok (.bipush 7, 2) := by decide +kernel
theorem dX4_mix_60 : decode cX4_mix 60 = .ok (.iaload, 1) := by decide +kernel
theorem dX4_mix_61 : decode cX4_mix 61 = .ok (.istore 8, 2) := by decide +kernel
theorem dX4_mix_63 : decode cX4_mix 63 = .ok (.iconst 0, 1) := by decide +kernel
theorem dX4_mix_64 : decode cX4_mix 64 = .ok (.istore 9, 2) := by decide +kernel
theorem dX4_mix_66 : decode cX4_mix 66 = .ok (.iload 9, 2) := by decide +kernel
theorem dX4_mix_68 : decode cX4_mix 68 = .ok (.bipush 64, 2) := by decide +kernel
theorem dX4_mix_70 : decode cX4_mix 70 = .ok (.if_icmp .ge 164, 3) := by decide +kernel
theorem dX4_mix_73 : decode cX4_mix 73 = .ok (.iload 5, 2) := by decide +kernel
theorem dX4_mix_75 : decode cX4_mix 75 = .ok (.bipush 6, 2) := by decide +kernel
theorem dX4_mix_77 : decode cX4_mix 77 = .ok (.iushr, 1) := by decide +kernel
theorem dX4_mix_78 : decode cX4_mix 78 = .ok (.iload 5, 2) := by decide +kernel
theorem dX4_mix_80 : decode cX4_mix 80 = .ok (.bipush 26, 2) := by decide +kernel
theorem dX4_mix_82 : decode cX4_mix 82 = .ok (.ishl, 1) := by decide +kernel
theorem dX4_mix_83 : decode cX4_mix 83 = .ok (.ior, 1) := by decide +kernel
theorem dX4_mix_84 : decode cX4_mix 84 = .ok (.iload 5, 2) := by decide +kernel
theorem dX4_mix_86 : decode cX4_mix 86 = .ok (.bipush 11, 2) := by decide +kernel
theorem dX4_mix_88 : decode cX4_mix 88 = .ok (.iushr, 1) := by decide +kernel
theorem dX4_mix_89 : decode cX4_mix 89 = .ok (.iload 5, 2) := by decide +kernel
theorem dX4_mix_91 : decode cX4_mix 91 = .ok (.bipush 21, 2) := by decide +kernel
theorem dX4_mix_93 : decode cX4_mix 93 = .ok (.ishl, 1) := by decide +kernel
theorem dX4_mix_94 : decode cX4_mix 94 = .ok (.ior, 1) := by decide +kernel
theorem dX4_mix_95 : decode cX4_mix 95 = .ok (.ixor, 1) := by decide +kernel
theorem dX4_mix_96 : decode cX4_mix 96 = .ok (.iload 5, 2) := by decide +kernel
theorem dX4_mix_98 : decode cX4_mix 98 = .ok (.bipush 25, 2) := by decide +kernel
theorem dX4_mix_100 : decode cX4_mix 100 = .ok (.iushr, 1) := by decide +kernel
theorem dX4_mix_101 : decode cX4_mix 101 = .ok (.iload 5, 2) := by decide +kernel
theorem dX4_mix_103 : decode cX4_mix 103 = .ok (.bipush 7, 2) := by decide +kernel
theorem dX4_mix_105 : decode cX4_mix 105 = .ok (.ishl, 1) := by decide +kernel
theorem dX4_mix_106 : decode cX4_mix 106 = .ok (.ior, 1) := by decide +kernel
theorem dX4_mix_107 : decode cX4_mix 107 = .ok (.ixor, 1) := by decide +kernel
theorem dX4_mix_108 : decode cX4_mix 108 = .ok (.istore 10, 2) := by decide +kernel
theorem dX4_mix_110 : decode cX4_mix 110 = .ok (.iload_n 1, 1) := by decide +kernel
theorem dX4_mix_111 : decode cX4_mix 111 = .ok (.iconst 2, 1) := by decide +kernel
theorem dX4_mix_112 : decode cX4_mix 112 = .ok (.iushr, 1) := by decide +kernel
theorem dX4_mix_113 : decode cX4_mix 113 = .ok (.iload_n 1, 1) := by decide +kernel
theorem dX4_mix_114 : decode cX4_mix 114 = .ok (.bipush 30, 2) := by decide +kernel
theorem dX4_mix_116 : decode cX4_mix 116 = .ok (.ishl, 1) := by decide +kernel
theorem dX4_mix_117 : decode cX4_mix 117 = .ok (.ior, 1) := by decide +kernel
theorem dX4_mix_118 : decode cX4_mix 118 = .ok (.iload_n 1, 1) := by decide +kernel
theorem dX4_mix_119 : decode cX4_mix 119 = .ok (.bipush 13, 2) := by decide +kernel
theorem dX4_mix_121 : decode cX4_mix 121 = .ok (.iushr, 1) := by decide +kernel
theorem dX4_mix_122 : decode cX4_mix 122 = .ok (.iload_n 1, 1) := by decide +kernel
theorem dX4_mix_123 : decode cX4_mix 123 = .ok (.bipush 19, 2) := by decide +kernel
theorem dX4_mix_125 : decode cX4_mix 125 = .ok (.ishl, 1) := by decide +kernel
theorem dX4_mix_126 : decode cX4_mix 126 = .ok (.ior, 1) := by decide +kernel
theorem dX4_mix_127 : decode cX4_mix 127 = .ok (.ixor, 1) := by decide +kernel
theorem dX4_mix_128 : decode cX4_mix 128 = .ok (.iload_n 1, 1) := by decide +kernel
theorem dX4_mix_129 : decode cX4_mix 129 = .ok (.bipush 22, 2) := by decide +kernel
theorem dX4_mix_131 : decode cX4_mix 131 = .ok (.iushr, 1) := by decide +kernel
theorem dX4_mix_132 : decode cX4_mix 132 = .ok (.iload_n 1, 1) := by decide +kernel
theorem dX4_mix_133 : decode cX4_mix 133 = .ok (.bipush 10, 2) := by decide +kernel
theorem dX4_mix_135 : decode cX4_mix 135 = .ok (.ishl, 1) := by decide +kernel
theorem dX4_mix_136 : decode cX4_mix 136 = .ok (.ior, 1) := by decide +kernel
theorem dX4_mix_137 : decode cX4_mix 137 = .ok (.ixor, 1) := by decide +kernel
theorem dX4_mix_138 : decode cX4_mix 138 = .ok (.istore 11, 2) := by decide +kernel
theorem dX4_mix_140 : decode cX4_mix 140 = .ok (.iload 5, 2) := by decide +kernel
theorem dX4_mix_142 : decode cX4_mix 142 = .ok (.iload 6, 2) := by decide +kernel
theorem dX4_mix_144 : decode cX4_mix 144 = .ok (.iand, 1) := by decide +kernel
theorem dX4_mix_145 : decode cX4_mix 145 = .ok (.iload 5, 2) := by decide +kernel
theorem dX4_mix_147 : decode cX4_mix 147 = .ok (.iconst (-1), 1) := by decide +kernel
theorem dX4_mix_148 : decode cX4_mix 148 = .ok (.ixor, 1) := by decide +kernel
theorem dX4_mix_149 : decode cX4_mix 149 = .ok (.iload 7, 2) := by decide +kernel
theorem dX4_mix_151 : decode cX4_mix 151 = .ok (.iand, 1) := by decide +kernel
theorem dX4_mix_152 : decode cX4_mix 152 = .ok (.ixor, 1) := by decide +kernel
theorem dX4_mix_153 : decode cX4_mix 153 = .ok (.istore 12, 2) := by decide +kernel
theorem dX4_mix_155 : decode cX4_mix 155 = .ok (.iload_n 1, 1) := by decide +kernel
theorem dX4_mix_156 : decode cX4_mix 156 = .ok (.iload_n 2, 1) := by decide +kernel
theorem dX4_mix_157 : decode cX4_mix 157 = .ok (.iand, 1) := by decide +kernel
theorem dX4_mix_158 : decode cX4_mix 158 = .ok (.iload_n 1, 1) := by decide +kernel
theorem dX4_mix_159 : decode cX4_mix 159 = .ok (.iload_n 3, 1) := by decide +kernel
theorem dX4_mix_160 : decode cX4_mix 160 = .ok (.iand, 1) := by decide +kernel
theorem dX4_mix_161 : decode cX4_mix 161 = .ok (.ixor, 1) := by decide +kernel
theorem dX4_mix_162 : decode cX4_mix 162 = .ok (.iload_n 2, 1) := by decide +kernel
theorem dX4_mix_163 : decode cX4_mix 163 = .ok (.iload_n 3, 1) := by decide +kernel
theorem dX4_mix_164 : decode cX4_mix 164 = .ok (.iand, 1) := by decide +kernel
theorem dX4_mix_165 : decode cX4_mix 165 = .ok (.ixor, 1) := by decide +kernel
theorem dX4_mix_166 : decode cX4_mix 166 = .ok (.istore 13, 2) := by decide +kernel
theorem dX4_mix_168 : decode cX4_mix 168 = .ok (.iload 8, 2) := by decide +kernel
theorem dX4_mix_170 : decode cX4_mix 170 = .ok (.iload 10, 2) := by decide +kernel
theorem dX4_mix_172 : decode cX4_mix 172 = .ok (.iadd, 1) := by decide +kernel
theorem dX4_mix_173 : decode cX4_mix 173 = .ok (.iload 12, 2) := by decide +kernel
theorem dX4_mix_175 : decode cX4_mix 175 = .ok (.iadd, 1) := by decide +kernel
theorem dX4_mix_176 : decode cX4_mix 176 = .ok (.getstatic 46, 3) := by decide +kernel
theorem dX4_mix_179 : decode cX4_mix 179 = .ok (.iload 9, 2) := by decide +kernel
theorem dX4_mix_181 : decode cX4_mix 181 = .ok (.iaload, 1) := by decide +kernel
theorem dX4_mix_182 : decode cX4_mix 182 = .ok (.iadd, 1) := by decide +kernel
theorem dX4_mix_183 : decode cX4_mix 183 = .ok (.aload_n 0, 1) := by decide +kernel
theorem dX4_mix_184 : decode cX4_mix 184 = .ok (.getfield 15, 3) := by decide +kernel
theorem dX4_mix_187 : decode cX4_mix 187 = .ok (.iload 9, 2) := by decide +kernel
theorem dX4_mix_189 : decode cX4_mix 189 = .ok (.iaload, 1) := by decide +kernel
theorem dX4_mix_190 : decode cX4_mix 190 = .ok (.iadd, 1) := by decide +kernel
theorem dX4_mix_191 : decode cX4_mix 191 = .ok (.istore 14, 2) := by decide +kernel
theorem dX4_mix_193 : decode cX4_mix 193 = .ok (.iload 7, 2) := by decide +kernel
theorem dX4_mix_195 : decode cX4_mix 195 = .ok (.istore 8, 2) := by decide +kernel
theorem dX4_mix_197 : decode cX4_mix 197 = .ok (.iload 6, 2) := by decide +kernel
theorem dX4_mix_199 : decode cX4_mix 199 = .ok (.istore 7, 2) := by decide +kernel
theorem dX4_mix_201 : decode cX4_mix 201 = .ok (.iload 5, 2) := by decide +kernel
theorem dX4_mix_203 : decode cX4_mix 203 = .ok (.istore 6, 2) := by decide +kernel
theorem dX4_mix_205 : decode cX4_mix 205 = .ok (.iload 4, 2) := by decide +kernel
theorem dX4_mix_207 : decode cX4_mix 207 = .ok (.iload 14, 2) := by decide +kernel
theorem dX4_mix_209 : decode cX4_mix 209 = .ok (.iadd, 1) := by decide +kernel
theorem dX4_mix_210 : decode cX4_mix 210 = .ok (.istore 5, 2) := by decide +kernel
theorem dX4_mix_212 : decode cX4_mix 212 = .ok (.iload_n 3, 1) := by decide +kernel
theorem dX4_mix_213 : decode cX4_mix 213 = .ok (.istore 4, 2) := by decide +kernel
theorem dX4_mix_215 : decode cX4_mix 215 = .ok (.iload_n 2, 1) := by decide +kernel
theorem dX4_mix_216 : decode cX4_mix 216 = .ok (.istore_n 3, 1) := by decide +kernel
theorem dX4_mix_217 : decode cX4_mix 217 = .ok (.iload_n 1, 1) := by decide +kernel
theorem dX4_mix_218 : decode cX4_mix 218 = .ok (.istore_n 2, 1) := by decide +kernel
theorem dX4_mix_219 : decode cX4_mix 219 = .ok (.iload 14, 2) := by decide +kernel
theorem dX4_mix_221 : decode cX4_mix 221 = .ok (.iload 11, 2) := by decide +kernel
theorem dX4_mix_223 : decode cX4_mix 223 = .ok (.iadd, 1) := by decide +kernel
theorem dX4_mix_224 : decode cX4_mix 224 = .ok (.iload 13, 2) := by decide +kernel
theorem dX4_mix_226 : decode cX4_mix 226 = .ok (.iadd, 1) := by decide +kernel
theorem dX4_mix_227 : decode cX4_mix 227 = .ok (.istore_n 1, 1) := by decide +kernel
theorem dX4_mix_228 : decode cX4_mix 228 = .ok (.iinc 9 1, 3) := by decide +kernel
theorem dX4_mix_231 : decode cX4_mix 231 = .ok (.goto (-165), 3) := by decide +kernel
theorem dX4_mix_234 : decode cX4_mix 234 = .ok (.aload_n 0, 1) := by decide +kernel
theorem dX4_mix_235 : decode cX4_mix 235 = .ok (.getfield 9, 3) := by decide +kernel
theorem dX4_mix_238 : decode cX4_mix 238 = .ok (.iconst 0, 1) := by decide +kernel
theorem dX4_mix_239 : decode cX4_mix 239 = .ok (.dup2, 1) := by decide +kernel
theorem dX4_mix_240 : decode cX4_mix 240 = .ok (.iaload, 1) := by decide +kernel
theorem dX4_mix_241 : decode cX4_mix 241 = .ok (.iload_n 1, 1) := by decide +kernel
theorem dX4_mix_242 : decode cX4_mix 242 = .ok (.iadd, 1) := by decide +kernel
theorem dX4_mix_243 : decode cX4_mix 243 = .ok (.iastore, 1) := by decide +kernel
theorem dX4_mix_244 : decode cX4_mix 244 = .ok (.aload_n 0, 1) := by decide +kernel
theorem dX4_mix_245 : decode cX4_mix 245 = .ok (.getfield 9, 3) := by decide +kernel
theorem dX4_mix_248 : decode cX4_mix 248 = .ok (.iconst 1, 1) := by decide +kernel
theorem dX4_mix_249 : decode cX4_mix 249 = .ok (.dup2, 1) := by decide +kernel
theorem dX4_mix_250 : decode cX4_mix 250 = .ok (.iaload, 1) := by decide +kernel
theorem dX4_mix_251 : decode cX4_mix 251 = .ok (.iload_n 2, 1) := by decide +kernel
theorem dX4_mix_252 : decode cX4_mix 252 = .ok (.iadd, 1) := by decide +kernel
theorem dX4_mix_253 : decode cX4_mix 253 = .ok (.iastore, 1) := by decide +kernel
theorem dX4_mix_254 : decode cX4_mix 254 = .ok (.aload_n 0, 1) := by decide +kernel
theorem dX4_mix_255 : decode cX4_mix 255 = .ok (.getfield 9, 3) := by decide +kernel
theorem dX4_mix_258 : decode cX4_mix 258 = .ok (.iconst 2, 1) := by decide +kernel
theorem dX4_mix_259 : decode cX4_mix 259 = .ok (.dup2, 1) := by decide +kernel
theorem dX4_mix_260 : decode cX4_mix 260 = .ok (.iaload, 1) := by decide +kernel
theorem dX4_mix_261 : decode cX4_mix 261 = .ok (.iload_n 3, 1) := by decide +kernel
theorem dX4_mix_262 : decode cX4_mix 262 = .ok (.iadd, 1) := by decide +kernel
theorem dX4_mix_263 : decode cX4_mix 263 = .ok (.iastore, 1) := by decide +kernel
theorem dX4_mix_264 : decode cX4_mix 264 = .ok (.aload_n 0, 1) := by decide +kernel
theorem dX4_mix_265 : decode cX4_mix 265 = .ok (.getfield 9, 3) := by decide +kernel
theorem dX4_mix_268 : decode cX4_mix 268 = .ok (.iconst 3, 1) := by decide +kernel
theorem dX4_mix_269 : decode cX4_mix 269 = .ok (.dup2, 1) := by decide +kernel
theorem dX4_mix_270 : decode cX4_mix 270 = .ok (.iaload, 1) := by decide +kernel
theorem dX4_mix_271 : decode cX4_mix 271 = .ok (.iload 4, 2) := by decide +kernel
theorem dX4_mix_273 : decode cX4_mix 273 = .ok (.iadd, 1) := by decide +kernel
theorem dX4_mix_274 : decode cX4_mix 274 = .ok (.iastore, 1) := by decide +kernel
theorem dX4_mix_275 : decode cX4_mix 275 = .ok (.aload_n 0, 1) := by decide +kernel
theorem dX4_mix_276 : decode cX4_mix 276 = .ok (.getfield 9, 3) := by decide +kernel
theorem dX4_mix_279 : decode cX4_mix 279 = .ok (.iconst 4, 1) := by decide +kernel
theorem dX4_mix_280 : decode cX4_mix 280 = .ok (.dup2, 1) := by decide +kernel
theorem dX4_mix_281 : decode cX4_mix 281 = .ok (.iaload, 1) := by decide +kernel
theorem dX4_mix_282 : decode cX4_mix 282 = .ok (.iload 5, 2) := by decide +kernel
theorem dX4_mix_284 : decode cX4_mix 284 = .ok (.iadd, 1) := by decide +kernel
theorem dX4_mix_285 : decode cX4_mix 285 = .ok (.iastore, 1) := by decide +kernel
theorem dX4_mix_286 : decode cX4_mix 286 = .ok (.aload_n 0, 1) := by decide +kernel
theorem dX4_mix_287 : decode cX4_mix 287 = .ok (.getfield 9, 3) := by decide +kernel
theorem dX4_mix_290 : decode cX4_mix 290 = .ok (.iconst 5, 1) := by decide +kernel
theorem dX4_mix_291 : decode cX4_mix 291 = .ok (.dup2, 1) := by decide +kernel
theorem dX4_mix_292 : decode cX4_mix 292 = .ok (.iaload, 1) := by decide +kernel
theorem dX4_mix_293 : decode cX4_mix 293 = .ok (.iload 6, 2) := by decide +kernel
theorem dX4_mix_295 : decode cX4_mix 295 = .ok (.iadd, 1) := by decide +kernel
theorem dX4_mix_296 : decode cX4_mix 296 = .ok (.iastore, 1) := by decide +kernel
theorem dX4_mix_297 : decode cX4_mix 297 = .ok (.aload_n 0, 1) := by decide +kernel
theorem dX4_mix_298 : decode cX4_mix 298 = .ok (.getfield 9, 3) := by decide +kernel
theorem dX4_mix_301 : decode cX4_mix 301 = .ok (.bipush 6, 2) := by decide +kernel
theorem dX4_mix_303 : decode cX4_mix 303 = .ok (.dup2, 1) := by decide +kernel
theorem dX4_mix_304 : decode cX4_mix 304 = .ok (.iaload, 1) := by decide +kernel
theorem dX4_mix_305 : decode cX4_mix 305 = .ok (.iload 7, 2) := by decide +kernel
theorem dX4_mix_307 : decode cX4_mix 307 = .ok (.iadd, 1) := by decide +kernel
theorem dX4_mix_308 : decode cX4_mix 308 = .ok (.iastore, 1) := by decide +kernel
theorem dX4_mix_309 : decode cX4_mix 309 = .ok (.aload_n 0, 1) := by decide +kernel
theorem dX4_mix_310 : decode cX4_mix 310 = .ok (.getfield 9, 3) := by decide +kernel
theorem dX4_mix_313 : decode cX4_mix 313 = .ok (.bipush 7, 2) := by decide +kernel
theorem dX4_mix_315 : decode cX4_mix 315 = .ok (.dup2, 1) := by decide +kernel
theorem dX4_mix_316 : decode cX4_mix 316 = .ok (.iaload, 1) := by decide +kernel
theorem dX4_mix_317 : decode cX4_mix 317 = .ok (.iload 8, 2) := by decide +kernel
theorem dX4_mix_319 : decode cX4_mix 319 = .ok (.iadd, 1) := by decide +kernel
theorem dX4_mix_320 : decode cX4_mix 320 = .ok (.iastore, 1) := by decide +kernel
theorem dX4_mix_321 : decode cX4_mix 321 = .ok (.return_, 1) := by decide +kernel
end
section
theorem dX5_init_0 : decode cX5_init 0 = .ok (.aload_n 0, 1) := by decide +kernel
theorem dX5_init_1 : decode cX5_init 1 = .ok (.invokespecial 3, 3) := by decide +kernel
theorem dX5_init_4 : decode cX5_init 4 = .ok (.aload_n 0, 1) := by decide +kernel
theorem dX5_init_5 : decode cX5_init 5 = .ok (.bipush 84, 2) := by decide +kernel
theorem dX5_init_7 : decode cX5_init 7 = .ok (.newarray .int, 2) := by decide +kernel
theorem dX5_init_9 : decode cX5_init 9 = .ok (.putfield 9, 3) := by decide +kernel
theorem dX5_init_12 : decode cX5_init 12 = .ok (.aload_n 0, 1) := by decide +kernel
theorem dX5_init_13 : decode cX5_init 13 = .ok (.getfield 9, 3) := by decide +kernel
theorem dX5_init_16 : decode cX5_init 16 = .ok (.iconst 0, 1) := by decide +kernel
theorem dX5_init_17 : decode cX5_init 17 = .ok (.iload_n 1, 1) := by decide +kernel
theorem dX5_init_18 : decode cX5_init 18 = .ok (.iastore, 1) := by decide +kernel
theorem dX5_init_19 : decode cX5_init 19 = .ok (.return_, 1) := by decide +kernel
theorem dX5_become_0 : decode cX5_become 0 = .ok (.aload_n 1, 1) := by decide +kernel
theorem dX5_become_1 : decode cX5_become 1 = .ok (.getfield 9, 3) := by decide +kernel
theorem dX5_become_4 : decode cX5_become 4 = .ok (.iconst 0, 1) := by decide +kernel
theorem dX5_become_5 : decode cX5_become 5 = .ok (.aload_n 0, 1) := by decide +kernel
theorem dX5_become_6 : decode cX5_become 6 = .ok (.getfield 9, 3) := by decide +kernel
theorem dX5_become_9 : decode cX5_become 9 = .ok (.iconst 0, 1) := by decide +kernel
theorem dX5_become_10 : decode cX5_become 10 = .ok (.bipush 84, 2) := by decide +kernel
theorem dX5_become_12 : decode cX5_become 12 = .ok (.invokestatic 15, 3) := by decide +kernel
theorem dX5_become_15 : decode cX5_become 15 = .ok (.return_, 1) := by decide +kernel
theorem dX5_countOf_0 : decode cX5_countOf 0 = .ok (.lconst 0, 1) := by decide +kernel
theorem dX5_countOf_1 : decode cX5_countOf 1 = .ok (.lstore_n 2, 1) := by decide +kernel
theorem dX5_countOf_2 : decode cX5_countOf 2 = .ok (.iconst 0, 1) := by decide +kernel
theorem dX5_countOf_3 : decode cX5_countOf 3 = .ok (.istore 4, 2) := by decide +kernel
theorem dX5_countOf_5 : decode cX5_countOf 5 = .ok (.iload 4, 2) := by decide +kernel
theorem dX5_countOf_7 : decode cX5_countOf 7 = .ok (.iconst 4, 1) := by decide +kernel
theorem dX5_countOf_8 : decode cX5_countOf 8 = .ok (.if_icmp .ge 29, 3) := by decide +kernel
theorem dX5_countOf_11 : decode cX5_countOf 11 = .ok (.lload_n 2, 1) := by decide +kernel
theorem dX5_countOf_12 : decode cX5_countOf 12 = .ok (.bipush 8, 2) := by decide +kernel
theorem dX5_countOf_14 : decode cX5_countOf 14 = .ok (.lshl, 1) := by decide +kernel
theorem dX5_countOf_15 : decode cX5_countOf 15 = .ok (.aload_n 0, 1) := by decide +kernel
theorem dX5_countOf_16 : decode cX5_countOf 16 = .ok (.getfield 9, 3) := by decide +kernel
theorem dX5_countOf_19 : decode cX5_countOf 19 = .ok (.iconst 4, 1) := by decide +kernel
theorem dX5_countOf_20 : decode cX5_countOf 20 = .ok (.iconst 4, 1) := by decide +kernel
theorem dX5_countOf_21 : decode cX5_countOf 21 = .ok (.iload_n 1, 1) := by decide +kernel
theorem dX5_countOf_22 : decode cX5_countOf 22 = .ok (.imul, 1) := by decide +kernel
theorem dX5_countOf_23 : decode cX5_countOf 23 = .ok (.iadd, 1) := by decide +kernel
theorem dX5_countOf_24 : decode cX5_countOf 24 = .ok (.iload 4, 2) := by decide +kernel
theorem dX5_countOf_26 : decode cX5_countOf 26 = .ok (.iadd, 1) := by decide +kernel
theorem dX5_countOf_27 : decode cX5_countOf 27 = .ok (.iaload, 1) := by decide +kernel
theorem dX5_countOf_28 : decode cX5_countOf 28 = .ok (.i2l, 1) := by decide +kernel
theorem dX5_countOf_29 : decode cX5_countOf 29 = .ok (.lor, 1) := by decide +kernel
theorem dX5_countOf_30 : decode cX5_countOf 30 = .ok (.lstore_n 2, 1) := by decide +kernel
theorem dX5_countOf_31 : decode cX5_countOf 31 = .ok (.iinc 4 1, 3) := by decide +kernel
theorem dX5_countOf_34 : decode cX5_countOf 34 = .ok (.goto (-29), 3) := by decide +kernel
theorem dX5_countOf_37 : decode cX5_countOf 37 = .ok (.lload_n 2, 1) := by decide +kernel
theorem dX5_countOf_38 : decode cX5_countOf 38 = .ok (.lreturn, 1) := by decide +kernel
theorem dX5_setCount_0 : decode cX5_setCount 0 = .ok (.iconst 0, 1) := by decide +kernel
theorem dX5_setCount_1 : decode cX5_setCount 1 = .ok (.istore 4, 2) := by decide +kernel
theorem dX5_setCount_3 : decode cX5_setCount 3 = .ok (.iload 4, 2) := by decide +kernel
theorem dX5_setCount_5 : decode cX5_setCount 5 = .ok (.iconst 4, 1) := by decide +kernel
theorem dX5_setCount_6 : decode cX5_setCount 6 = .ok (.if_icmp .ge 37, 3) := by decide +kernel
theorem dX5_setCount_9 : decode cX5_setCount 9 = .ok (.aload_n 0, 1) := by decide +kernel
theorem dX5_setCount_10 : decode cX5_setCount 10 = .ok (.getfield 9, 3) := by decide +kernel
theorem dX5_setCount_13 : decode cX5_setCount 13 = .ok (.iconst 4, 1) := by decide +kernel
theorem dX5_setCount_14 : decode cX5_setCount 14 = .ok (.iconst 4, 1) := by decide +kernel
theorem dX5_setCount_15 : decode cX5_setCount 15 = .ok (.iload_n 1, 1) := by decide +kernel
theorem dX5_setCount_16 : decode cX5_setCount 16 = .ok (.imul, 1) := by decide +kernel
theorem dX5_setCount_17 : decode cX5_setCount 17 = .ok (.iadd, 1) := by decide +kernel
theorem dX5_setCount_18 : decode cX5_setCount 18 = .ok (.iload 4, 2) := by decide +kernel
theorem dX5_setCount_20 : decode cX5_setCount 20 = .ok (.iadd, 1) := by decide +kernel
theorem dX5_setCount_21 : decode cX5_setCount 21 = .ok (.lload_n 2, 1) := by decide +kernel
theorem dX5_setCount_22 : decode cX5_setCount 22 = .ok (.bipush 24, 2) := by decide +kernel
theorem dX5_setCount_24 : decode cX5_setCount 24 = .ok (.bipush 8, 2) := by decide +kernel
theorem dX5_setCount_26 : decode cX5_setCount 26 = .ok (.iload 4, 2) := by decide +kernel
theorem dX5_setCount_28 : decode cX5_setCount 28 = .ok (.imul, 1) := by decide +kernel
theorem dX5_setCount_29 : decode cX5_setCount 29 = .ok (.isub, 1) := by decide +kernel
theorem dX5_setCount_30 : decode cX5_setCount 30 = .ok (.lushr, 1) := by decide +kernel
theorem dX5_setCount_31 : decode cX5_setCount 31 = .ok (.l2i, 1) := by decide +kernel
theorem dX5_setCount_32 : decode cX5_setCount 32 = .ok (.sipush 255, 3) := by decide +kernel
theorem dX5_setCount_35 : decode cX5_setCount 35 = .ok (.iand, 1) := by decide +kernel
theorem dX5_setCount_36 : decode cX5_setCount 36 = .ok (.iastore, 1) := by decide +kernel
theorem dX5_setCount_37 : decode cX5_setCount 37 = .ok (.iinc 4 1, 3) := by decide +kernel
theorem dX5_setCount_40 : decode cX5_setCount 40 = .ok (.goto (-37), 3) := by decide +kernel
theorem dX5_setCount_43 : decode cX5_setCount 43 = .ok (.return_, 1) := by decide +kernel
set_option maxRecDepth 20000 in
theorem ggX5_isNotAbove_X5_countOf : GoodIn wsX5_isNotAbove wsX5_countOf := goodIn_r _ [5, 6, 7] (by decide +kernel) (by decide +kernel)
set_option maxRecDepth 20000 in
theorem gX5_isNotAbove_X5_countOf : GoodIn wsX5_isNotAbove (wsV RX5 21 RX5 yX5_countOf wsX5_countOf) := goodIn_app (goodIn_of _ (by decide +kernel)) ggX5_isNotAbove_X5_countOf
theorem dX5_isNotAbove_0 : decode cX5_isNotAbove 0 = .ok (.iconst 0, 1) := by decide +kernel
theorem dX5_isNotAbove_1 : decode cX5_isNotAbove 1 = .ok (.istore_n 2, 1) := by decide +kernel
theorem dX5_isNotAbove_2 : decode cX5_isNotAbove 2 = .ok (.iload_n 2, 1) := by decide +kernel
theorem dX5_isNotAbove_3 : decode cX5_isNotAbove 3 = .ok (.iconst 4, 1) := by decide +kernel
theorem dX5_isNotAbove_4 : decode cX5_isNotAbove 4 = .ok (.if_icmp .ge 25, 3) := by decide +kernel
theorem dX5_isNotAbove_7 : decode cX5_isNotAbove 7 = .ok (.aload_n 0, 1) := by decide +kernel
theorem dX5_isNotAbove_8 : decode cX5_isNotAbove 8 = .ok (.iload_n 2, 1) := by decide +kernel
theorem dX5_isNotAbove_9 : decode cX5_isNotAbove 9 = .ok (.invokevirtual 21, 3) := by decide +kernel
theorem dX5_isNotAbove_12 : decode cX5_isNotAbove 12 = .ok (.aload_n 1, 1) := by decide +kernel
theorem dX5_isNotAbove_13 : decode cX5_isNotAbove 13 = .ok (.iload_n 2, 1) := by decide +kernel
theorem dX5_isNotAbove_14 : decode cX5_isNotAbove 14 = .ok (.invokevirtual 21, 3) := by decide +kernel
theorem dX5_isNotAbove_17 : decode cX5_isNotAbove 17 = .ok (.lcmp, 1) := by decide +kernel
theorem dX5_isNotAbove_18 : decode cX5_isNotAbove 18 = .ok (.ifCond .le 5, 3) := by decide +kernel
theorem dX5_isNotAbove_21 : decode cX5_isNotAbove 21 = .ok (.iconst 0, 1) := by decide +kernel
theorem dX5_isNotAbove_22 : decode cX5_isNotAbove 22 = .ok (.ireturn, 1) := by decide +kernel
theorem dX5_isNotAbove_23 : decode cX5_isNotAbove 23 = .ok (.iinc 2 1, 3) := by decide +kernel
theorem dX5_isNotAbove_26 : decode cX5_isNotAbove 26 = .ok (.goto (-24), 3) := by decide +kernel
theorem dX5_isNotAbove_29 : decode cX5_isNotAbove 29 = .ok (.iconst 1, 1) := by decide +kernel
theorem dX5_isNotAbove_30 : decode cX5_isNotAbove 30 = .ok (.ireturn, 1) := by decide +kernel
set_option maxRecDepth 20000 in
theorem ggX5_isInLineWith_X5_isNotAbove : GoodIn wsX5_isInLineWith wsX5_isNotAbove := goodIn_r _ [5, 6, 7, 8, 4, 9, 10, 11] (by decide +kernel) (by decide +kernel)
set_option maxRecDepth 20000 in
theorem gX5_isInLineWith_X5_isNotAbove : GoodIn wsX5_isInLineWith (wsV RX5 25 RX5 yX5_isNotAbove wsX5_isNotAbove) := goodIn_app (goodIn_of _ (by decide +kernel)) ggX5_isInLineWith_X5_isNotAbove
theorem dX5_isInLineWith_0 : decode cX5_isInLineWith 0 = .ok (.aload_n 0, 1) := by decide +kernel
theorem dX5_isInLineWith_1 : decode cX5_isInLineWith 1 = .ok (.aload_n 1, 1) := by decide +kernel
theorem dX5_isInLineWith_2 : decode cX5_isInLineWith 2 = .ok (.invokevirtual 25, 3) := by decide +kernel
theorem dX5_isInLineWith_5 : decode cX5_isInLineWith 5 = .ok (.ifCond .ne 11, 3) := by decide +kernel
theorem dX5_isInLineWith_8 : decode cX5_isInLineWith 8 = .ok (.aload_n 1, 1) := by decide +kernel
theorem dX5_isInLineWith_9 : decode cX5_isInLineWith 9 = .ok (.aload_n 0, 1) := by decide +kernel
theorem dX5_isInLineWith_10 : decode cX5_isInLineWith 10 = .ok (.invokevirtual 25, 3) := by decide +kernel
theorem dX5_isInLineWith_13 : decode cX5_isInLineWith 13 = .ok (.ifCond .eq 7, 3) := by decide +kernel
theorem dX5_isInLineWith_16 : decode cX5_isInLineWith 16 = .ok (.iconst 1, 1) := by decide +kernel
theorem dX5_isInLineWith_17 : decode cX5_isInLineWith 17 = .ok (.goto 4, 3) := by decide +kernel
theorem dX5_isInLineWith_20 : decode cX5_isInLineWith 20 = .ok (.iconst 0, 1) := by decide +kernel
theorem dX5_isInLineWith_21 : decode cX5_isInLineWith 21 = .ok (.ireturn, 1) := by decide +kernel
end
section
theorem dX6_init_0 : decode cX6_init 0 = .ok (.aload_n 0, 1) := by decide +kernel
theorem dX6_init_1 : decode cX6_init 1 = .ok (.invokespecial 3, 3) := by decide +kernel
theorem dX6_init_4 : decode cX6_init 4 = .ok (.aload_n 0, 1) := by decide +kernel
theorem dX6_init_5 : decode cX6_init 5 = .ok (.sipush 1024, 3) := by decide +kernel
theorem dX6_init_8 : decode cX6_init 8 = .ok (.newarray .int, 2) := by decide +kernel
theorem dX6_init_10 : decode cX6_init 10 = .ok (.putfield 9, 3) := by decide +kernel
theorem dX6_init_13 : decode cX6_init 13 = .ok (.return_, 1) := by decide +kernel
set_option maxRecDepth 20000 in
theorem ggX6_build_X6_setLeaf : GoodIn wsX6_build wsX6_setLeaf := goodIn_r _ [5, 6, 7, 8, 9, 10, 11, 12, 13, 14, 15, 16, 17, 18, 19, 20, 21, 22, 23, 24, 25, 26, 27, 28, 29, 30, 31, 32, 33, 34, 35, 36, 37, 38, 39, 40, 41, 42, 43, 44, 45, 50, 51, 52, 53, 54, 55, 56] (by decide +kernel) (by decide +kernel)
set_option maxRecDepth 20000 in
theorem gX6_build_X6_setLeaf : GoodIn wsX6_build (wsV RX6 15 RX6 yX6_setLeaf wsX6_setLeaf) := goodIn_app (goodIn_of _ (by decide +kernel)) ggX6_build_X6_setLeaf
set_option maxRecDepth 20000 in
theorem ggX6_build_X6_setNode : GoodIn wsX6_build wsX6_setNode := goodIn_r _ [49, 8, 9, 10, 11, 12, 13, 14, 15, 16, 17, 18, 19, 20, 21, 22, 23, 24, 25, 26, 27, 28, 29, 30, 31, 32, 33, 34, 35, 36, 37, 38, 39, 40, 41, 42, 43, 44, 45, 52, 53, 54, 55, 56] (by decide +kernel) (by decide +kernel)
set_option maxRecDepth 20000 in
theorem gX6_build_X6_setNode : GoodIn wsX6_build (wsV RX6 19 RX6 yX6_setNode wsX6_setNode) := goodIn_app (goodIn_of _ (by decide +kernel)) ggX6_build_X6_setNode
theorem dX6_build_0 : decode cX6_build 0 = .ok (.iconst 0, 1) := by decide +kernel
theorem dX6_build_1 : decode cX6_build 1 = .ok (.istore_n 3, 1) := by decide +kernel
theorem dX6_build_2 : decode cX6_build 2 = .ok (.iload_n 3, 1) := by decide +kernel
theorem dX6_build_3 : decode cX6_build 3 = .ok (.bipush 16, 2) := by decide +kernel
theorem dX6_build_5 : decode cX6_build 5 = .ok (.if_icmp .ge 16, 3) := by decide +kernel
theorem dX6_build_8 : decode cX6_build 8 = .ok (.aload_n 0, 1) := by decide +kernel
theorem dX6_build_9 : decode cX6_build 9 = .ok (.aload_n 1, 1) := by decide +kernel
theorem dX6_build_10 : decode cX6_build 10 = .ok (.iload_n 3, 1) := by decide +kernel
theorem dX6_build_11 : decode cX6_build 11 = .ok (.aload_n 2, 1) := by decide +kernel
theorem dX6_build_12 : decode cX6_build 12 = .ok (.invokevirtual 15, 3) := by decide +kernel
theorem dX6_build_15 : decode cX6_build 15 = .ok (.iinc 3 1, 3) := by decide +kernel
theorem dX6_build_18 : decode cX6_build 18 = .ok (.goto (-16), 3) := by decide +kernel
theorem dX6_build_21 : decode cX6_build 21 = .ok (.bipush 15, 2) := by decide +kernel
theorem dX6_build_23 : decode cX6_build 23 = .ok (.istore_n 3, 1) := by decide +kernel
theorem dX6_build_24 : decode cX6_build 24 = .ok (.iload_n 3, 1) := by decide +kernel
theorem dX6_build_25 : decode cX6_build 25 = .ok (.iconst 1, 1) := by decide +kernel
theorem dX6_build_26 : decode cX6_build 26 = .ok (.if_icmp .lt 15, 3) := by decide +kernel
theorem dX6_build_29 : decode cX6_build 29 = .ok (.aload_n 0, 1) := by decide +kernel
theorem dX6_build_30 : decode cX6_build 30 = .ok (.iload_n 3, 1) := by decide +kernel
theorem dX6_build_31 : decode cX6_build 31 = .ok (.aload_n 2, 1) := by decide +kernel
theorem dX6_build_32 : decode cX6_build 32 = .ok (.invokevirtual 19, 3) := by decide +kernel
theorem dX6_build_35 : decode cX6_build 35 = .ok (.iinc 3 (-1), 3) := by decide +kernel
theorem dX6_build_38 : decode cX6_build 38 = .ok (.goto (-14), 3) := by decide +kernel
theorem dX6_build_41 : decode cX6_build 41 = .ok (.return_, 1) := by decide +kernel
set_option maxRecDepth 20000 in
theorem ggX6_refresh_X6_setLeaf : GoodIn wsX6_refresh wsX6_setLeaf := goodIn_r _ [5, 6, 7, 8, 9, 10, 11, 12, 13, 14, 15, 16, 17, 18, 19, 20, 21, 22, 23, 24, 25, 26, 27, 28, 29, 30, 31, 32, 33, 34, 35, 36, 37, 38, 39, 40, 41, 42, 43, 44, 45, 50, 51, 52, 53, 54, 55, 56] (by decide +kernel) (by decide +kernel)
set_option maxRecDepth 20000 in
theorem gX6_refresh_X6_setLeaf : GoodIn wsX6_refresh (wsV RX6 15 RX6 yX6_setLeaf wsX6_setLeaf) := goodIn_app (goodIn_of _ (by decide +kernel)) ggX6_refresh_X6_setLeaf
set_option maxRecDepth 20000 in
theorem ggX6_refresh_X6_setNode : GoodIn wsX6_refresh wsX6_setNode := goodIn_r _ [49, 8, 9, 10, 11, 12, 13, 14, 15, 16, 17, 18, 19, 20, 21, 22, 23, 24, 25, 26, 27, 28, 29, 30, 31, 32, 33, 34, 35, 36, 37, 38, 39, 40, 41, 42, 43, 44, 45, 52, 53, 54, 55, 56] (by decide +kernel) (by decide +kernel)
set_option maxRecDepth 20000 in
theorem gX6_refresh_X6_setNode : GoodIn wsX6_refresh (wsV RX6 19 RX6 yX6_setNode wsX6_setNode) := goodIn_app (goodIn_of _ (by decide +kernel)) ggX6_refresh_X6_setNode
theorem dX6_refresh_0 : decode cX6_refresh 0 = .ok (.aload_n 0, 1) := by decide +kernel
theorem dX6_refresh_1 : decode cX6_refresh 1 = .ok (.aload_n 1, 1) := by decide +kernel
theorem dX6_refresh_2 : decode cX6_refresh 2 = .ok (.iload_n 2, 1) := by decide +kernel
theorem dX6_refresh_3 : decode cX6_refresh 3 = .ok (.aload_n 3, 1) := by decide +kernel
theorem dX6_refresh_4 : decode cX6_refresh 4 = .ok (.invokevirtual 15, 3) := by decide +kernel
theorem dX6_refresh_7 : decode cX6_refresh 7 = .ok (.bipush 16, 2) := by decide +kernel
theorem dX6_refresh_9 : decode cX6_refresh 9 = .ok (.iload_n 2, 1) := by decide +kernel
theorem dX6_refresh_10 : decode cX6_refresh 10 = .ok (.iadd, 1) := by decide +kernel
theorem dX6_refresh_11 : decode cX6_refresh 11 = .ok (.iconst 2, 1) := by decide +kernel
theorem dX6_refresh_12 : decode cX6_refresh 12 = .ok (.idiv, 1) := by decide +kernel
theorem dX6_refresh_13 : decode cX6_refresh 13 = .ok (.istore 4, 2) := by decide +kernel
theorem dX6_refresh_15 : decode cX6_refresh 15 = .ok (.iload 4, 2) := by decide +kernel
theorem dX6_refresh_17 : decode cX6_refresh 17 = .ok (.iconst 1, 1) := by decide +kernel
theorem dX6_refresh_18 : decode cX6_refresh 18 = .ok (.if_icmp .lt 19, 3) := by decide +kernel
theorem dX6_refresh_21 : decode cX6_refresh 21 = .ok (.aload_n 0, 1) := by decide +kernel
theorem dX6_refresh_22 : decode cX6_refresh 22 = .ok (.iload 4, 2) := by decide +kernel
theorem dX6_refresh_24 : decode cX6_refresh 24 = .ok (.aload_n 3, 1) := by decide +kernel
theorem dX6_refresh_25 : decode cX6_refresh 25 = .ok (.invokevirtual 19, 3) := by decide +kernel
theorem dX6_refresh_28 : decode cX6_refresh 28 = .ok (.iload 4, 2) := by decide +kernel
theorem dX6_refresh_30 : decode cX6_refresh 30 = .ok (.iconst 2, 1) := by decide +kernel
theorem dX6_refresh_31 : decode cX6_refresh 31 = .ok (.idiv, 1) := by decide +kernel
theorem dX6_refresh_32 : decode cX6_refresh 32 = .ok (.istore 4, 2) := by decide +kernel
theorem dX6_refresh_34 : decode cX6_refresh 34 = .ok (.goto (-19), 3) := by decide +kernel
theorem dX6_refresh_37 : decode cX6_refresh 37 = .ok (.return_, 1) := by decide +kernel
theorem dX6_become_0 : decode cX6_become 0 = .ok (.aload_n 1, 1) := by decide +kernel
theorem dX6_become_1 : decode cX6_become 1 = .ok (.getfield 9, 3) := by decide +kernel
theorem dX6_become_4 : decode cX6_become 4 = .ok (.iconst 0, 1) := by decide +kernel
theorem dX6_become_5 : decode cX6_become 5 = .ok (.aload_n 0, 1) := by decide +kernel
theorem dX6_become_6 : decode cX6_become 6 = .ok (.getfield 9, 3) := by decide +kernel
theorem dX6_become_9 : decode cX6_become 9 = .ok (.iconst 0, 1) := by decide +kernel
theorem dX6_become_10 : decode cX6_become 10 = .ok (.aload_n 0, 1) := by decide +kernel
theorem dX6_become_11 : decode cX6_become 11 = .ok (.getfield 9, 3) := by decide +kernel
theorem dX6_become_14 : decode cX6_become 14 = .ok (.arraylength, 1) := by decide +kernel
theorem dX6_become_15 : decode cX6_become 15 = .ok (.invokestatic 23, 3) := by decide +kernel
theorem dX6_become_18 : decode cX6_become 18 = .ok (.return_, 1) := by decide +kernel
theorem dX6_copyRoot_0 : decode cX6_copyRoot 0 = .ok (.aload_n 0, 1) := by decide +kernel
theorem dX6_copyRoot_1 : decode cX6_copyRoot 1 = .ok (.getfield 9, 3) := by decide +kernel
theorem dX6_copyRoot_4 : decode cX6_copyRoot 4 = .ok (.bipush 32, 2) := by decide +kernel
theorem dX6_copyRoot_6 : decode cX6_copyRoot 6 = .ok (.aload_n 1, 1) := by decide +kernel
theorem dX6_copyRoot_7 : decode cX6_copyRoot 7 = .ok (.iload_n 2, 1) := by decide +kernel
theorem dX6_copyRoot_8 : decode cX6_copyRoot 8 = .ok (.bipush 32, 2) := by decide +kernel
theorem dX6_copyRoot_10 : decode cX6_copyRoot 10 = .ok (.invokestatic 23, 3) := by decide +kernel
theorem dX6_copyRoot_13 : decode cX6_copyRoot 13 = .ok (.return_, 1) := by decide +kernel
set_option maxRecDepth 20000 in
theorem ggX6_hasRoot_X8_sameRow : GoodIn wsX6_hasRoot wsX8_sameRow := goodIn_r _ [4] (by decide +kernel) (by decide +kernel)
set_option maxRecDepth 20000 in
theorem gX6_hasRoot_X8_sameRow_n29 : GoodIn wsX6_hasRoot (wsX8_sameRow) := ggX6_hasRoot_X8_sameRow
theorem dX6_hasRoot_0 : decode cX6_hasRoot 0 = .ok (.aload_n 0, 1) := by decide +kernel
theorem dX6_hasRoot_1 : decode cX6_hasRoot 1 = .ok (.getfield 9, 3) := by decide +kernel
theorem dX6_hasRoot_4 : decode cX6_hasRoot 4 = .ok (.bipush 32, 2) := by decide +kernel
theorem dX6_hasRoot_6 : decode cX6_hasRoot 6 = .ok (.aload_n 1, 1) := by decide +kernel
theorem dX6_hasRoot_7 : decode cX6_hasRoot 7 = .ok (.iload_n 2, 1) := by decide +kernel
theorem dX6_hasRoot_8 : decode cX6_hasRoot 8 = .ok (.bipush 32, 2) := by decide +kernel
theorem dX6_hasRoot_10 : decode cX6_hasRoot 10 = .ok (.invokestatic 29, 3) := by decide +kernel
theorem dX6_hasRoot_13 : decode cX6_hasRoot 13 = .ok (.ireturn, 1) := by decide +kernel
set_option maxRecDepth 20000 in
theorem ggX6_setLeaf_X4_start : GoodIn wsX6_setLeaf wsX4_start := goodIn_r _ [8, 9, 10, 11, 12, 13, 14, 15, 16, 44, 45, 46, 47] (by decide +kernel) (by decide +kernel)
set_option maxRecDepth 20000 in
theorem gX6_setLeaf_X4_start : GoodIn wsX6_setLeaf (wsV RX6 33 RX4 yX4_start wsX4_start) := goodIn_app (goodIn_of _ (by decide +kernel)) ggX6_setLeaf_X4_start
set_option maxRecDepth 20000 in
theorem ggX6_setLeaf_X4_take : GoodIn wsX6_setLeaf wsX4_take := goodIn_r _ [20, 21, 15, 16, 22, 23, 24, 7, 25, 26, 27, 28, 29, 10, 30, 44, 45, 46, 47] (by decide +kernel) (by decide +kernel)
set_option maxRecDepth 20000 in
theorem gX6_setLeaf_X4_take : GoodIn wsX6_setLeaf (wsV RX6 38 RX4 yX4_take wsX4_take) := goodIn_app (goodIn_of _ (by decide +kernel)) ggX6_setLeaf_X4_take
set_option maxRecDepth 20000 in
theorem ggX6_setLeaf_X4_takeRow : GoodIn wsX6_setLeaf wsX4_takeRow := goodIn_r _ [34, 35, 18, 19, 7, 20, 21, 15, 16, 22, 23, 24, 25, 26, 27, 28, 29, 10, 30, 44, 45, 46, 47] (by decide +kernel) (by decide +kernel)
set_option maxRecDepth 20000 in
theorem gX6_setLeaf_X4_takeRow : GoodIn wsX6_setLeaf (wsV RX6 50 RX4 yX4_takeRow wsX4_takeRow) := goodIn_app (goodIn_of _ (by decide +kernel)) ggX6_setLeaf_X4_takeRow
set_option maxRecDepth 20000 in
theorem ggX6_setLeaf_X4_finish : GoodIn wsX6_setLeaf wsX4_finish := goodIn_r _ [39, 40, 16, 15, 10, 35, 18, 19, 7, 20, 21, 22, 23, 24, 25, 26, 27, 28, 29, 30, 44, 45, 46, 47] (by decide +kernel) (by decide +kernel)
set_option maxRecDepth 20000 in
theorem gX6_setLeaf_X4_finish : GoodIn wsX6_setLeaf (wsV RX6 54 RX4 yX4_finish wsX4_finish) := goodIn_app (goodIn_of _ (by decide +kernel)) ggX6_setLeaf_X4_finish
theorem dX6_setLeaf_0 : decode cX6_setLeaf 0 = .ok (.aload_n 3, 1) := by decide +kernel
theorem dX6_setLeaf_1 : decode cX6_setLeaf 1 = .ok (.invokevirtual 33, 3) := by decide +kernel
theorem dX6_setLeaf_4 : decode cX6_setLeaf 4 = .ok (.aload_n 3, 1) := by decide +kernel
theorem dX6_setLeaf_5 : decode cX6_setLeaf 5 = .ok (.iconst 0, 1) := by decide +kernel
theorem dX6_setLeaf_6 : decode cX6_setLeaf 6 = .ok (.invokevirtual 38, 3) := by decide +kernel
theorem dX6_setLeaf_9 : decode cX6_setLeaf 9 = .ok (.aload_n 3, 1) := by decide +kernel
theorem dX6_setLeaf_10 : decode cX6_setLeaf 10 = .ok (.iload_n 2, 1) := by decide +kernel
theorem dX6_setLeaf_11 : decode cX6_setLeaf 11 = .ok (.invokevirtual 38, 3) := by decide +kernel
theorem dX6_setLeaf_14 : decode cX6_setLeaf 14 = .ok (.aload_n 3, 1) := by decide +kernel
theorem dX6_setLeaf_15 : decode cX6_setLeaf 15 = .ok (.aload_n 1, 1) := by decide +kernel
theorem dX6_setLeaf_16 : decode cX6_setLeaf 16 = .ok (.getfield 42, 3) := by decide +kernel
theorem dX6_setLeaf_19 : decode cX6_setLeaf 19 = .ok (.iload_n 2, 1) := by decide +kernel
theorem dX6_setLeaf_20 : decode cX6_setLeaf 20 = .ok (.iaload, 1) := by decide +kernel
theorem dX6_setLeaf_21 : decode cX6_setLeaf 21 = .ok (.invokevirtual 38, 3) := by decide +kernel
theorem dX6_setLeaf_24 : decode cX6_setLeaf 24 = .ok (.aload_n 3, 1) := by decide +kernel
theorem dX6_setLeaf_25 : decode cX6_setLeaf 25 = .ok (.aload_n 1, 1) := by decide +kernel
theorem dX6_setLeaf_26 : decode cX6_setLeaf 26 = .ok (.getfield 47, 3) := by decide +kernel
theorem dX6_setLeaf_29 : decode cX6_setLeaf 29 = .ok (.iload_n 2, 1) := by decide +kernel
theorem dX6_setLeaf_30 : decode cX6_setLeaf 30 = .ok (.bipush 12, 2) := by decide +kernel
theorem dX6_setLeaf_32 : decode cX6_setLeaf 32 = .ok (.imul, 1) := by decide +kernel
theorem dX6_setLeaf_33 : decode cX6_setLeaf 33 = .ok (.aload_n 1, 1) := by decide +kernel
theorem dX6_setLeaf_34 : decode cX6_setLeaf 34 = .ok (.getfield 42, 3) := by decide +kernel
theorem dX6_setLeaf_37 : decode cX6_setLeaf 37 = .ok (.iload_n 2, 1) := by decide +kernel
theorem dX6_setLeaf_38 : decode cX6_setLeaf 38 = .ok (.iaload, 1) := by decide +kernel
theorem dX6_setLeaf_39 : decode cX6_setLeaf 39 = .ok (.invokevirtual 50, 3) := by decide +kernel
theorem dX6_setLeaf_42 : decode cX6_setLeaf 42 = .ok (.aload_n 3, 1) := by decide +kernel
theorem dX6_setLeaf_43 : decode cX6_setLeaf 43 = .ok (.aload_n 0, 1) := by decide +kernel
theorem dX6_setLeaf_44 : decode cX6_setLeaf 44 = .ok (.getfield 9, 3) := by decide +kernel
theorem dX6_setLeaf_47 : decode cX6_setLeaf 47 = .ok (.bipush 16, 2) := by decide +kernel
theorem dX6_setLeaf_49 : decode cX6_setLeaf 49 = .ok (.iload_n 2, 1) := by decide +kernel
theorem dX6_setLeaf_50 : decode cX6_setLeaf 50 = .ok (.iadd, 1) := by decide +kernel
theorem dX6_setLeaf_51 : decode cX6_setLeaf 51 = .ok (.bipush 32, 2) := by decide +kernel
theorem dX6_setLeaf_53 : decode cX6_setLeaf 53 = .ok (.imul, 1) := by decide +kernel
theorem dX6_setLeaf_54 : decode cX6_setLeaf 54 = .ok (.invokevirtual 54, 3) := by decide +kernel
theorem dX6_setLeaf_57 : decode cX6_setLeaf 57 = .ok (.return_, 1) := by decide +kernel
set_option maxRecDepth 20000 in
theorem ggX6_setNode_X4_start : GoodIn wsX6_setNode wsX4_start := goodIn_r _ [6, 7, 8, 9, 10, 11, 12, 13, 14, 40, 41, 42, 43] (by decide +kernel) (by decide +kernel)
set_option maxRecDepth 20000 in
theorem gX6_setNode_X4_start : GoodIn wsX6_setNode (wsV RX6 33 RX4 yX4_start wsX4_start) := goodIn_app (goodIn_of _ (by decide +kernel)) ggX6_setNode_X4_start
set_option maxRecDepth 20000 in
theorem ggX6_setNode_X4_take : GoodIn wsX6_setNode wsX4_take := goodIn_r _ [18, 19, 13, 14, 20, 21, 22, 5, 23, 24, 25, 26, 27, 8, 28, 40, 41, 42, 43] (by decide +kernel) (by decide +kernel)
set_option maxRecDepth 20000 in
theorem gX6_setNode_X4_take : GoodIn wsX6_setNode (wsV RX6 38 RX4 yX4_take wsX4_take) := goodIn_app (goodIn_of _ (by decide +kernel)) ggX6_setNode_X4_take
set_option maxRecDepth 20000 in
theorem ggX6_setNode_X4_takeRow : GoodIn wsX6_setNode wsX4_takeRow := goodIn_r _ [32, 33, 16, 17, 5, 18, 19, 13, 14, 20, 21, 22, 23, 24, 25, 26, 27, 8, 28, 40, 41, 42, 43] (by decide +kernel) (by decide +kernel)
set_option maxRecDepth 20000 in
theorem gX6_setNode_X4_takeRow : GoodIn wsX6_setNode (wsV RX6 50 RX4 yX4_takeRow wsX4_takeRow) := goodIn_app (goodIn_of _ (by decide +kernel)) ggX6_setNode_X4_takeRow
set_option maxRecDepth 20000 in
theorem ggX6_setNode_X4_finish : GoodIn wsX6_setNode wsX4_finish := goodIn_r _ [37, 38, 14, 13, 8, 33, 16, 17, 5, 18, 19, 20, 21, 22, 23, 24, 25, 26, 27, 28, 40, 41, 42, 43] (by decide +kernel) (by decide +kernel)
set_option maxRecDepth 20000 in
theorem gX6_setNode_X4_finish : GoodIn wsX6_setNode (wsV RX6 54 RX4 yX4_finish wsX4_finish) := goodIn_app (goodIn_of _ (by decide +kernel)) ggX6_setNode_X4_finish
theorem dX6_setNode_0 : decode cX6_setNode 0 = .ok (.aload_n 2, 1) := by decide +kernel
theorem dX6_setNode_1 : decode cX6_setNode 1 = .ok (.invokevirtual 33, 3) := by decide +kernel
theorem dX6_setNode_4 : decode cX6_setNode 4 = .ok (.aload_n 2, 1) := by decide +kernel
theorem dX6_setNode_5 : decode cX6_setNode 5 = .ok (.iconst 1, 1) := by decide +kernel
theorem dX6_setNode_6 : decode cX6_setNode 6 = .ok (.invokevirtual 38, 3) := by decide +kernel
theorem dX6_setNode_9 : decode cX6_setNode 9 = .ok (.aload_n 2, 1) := by decide +kernel
theorem dX6_setNode_10 : decode cX6_setNode 10 = .ok (.aload_n 0, 1) := by decide +kernel
theorem dX6_setNode_11 : decode cX6_setNode 11 = .ok (.getfield 9, 3) := by decide +kernel
theorem dX6_setNode_14 : decode cX6_setNode 14 = .ok (.iconst 2, 1) := by decide +kernel
theorem dX6_setNode_15 : decode cX6_setNode 15 = .ok (.iload_n 1, 1) := by decide +kernel
theorem dX6_setNode_16 : decode cX6_setNode 16 = .ok (.imul, 1) := by decide +kernel
theorem dX6_setNode_17 : decode cX6_setNode 17 = .ok (.bipush 32, 2) := by decide +kernel
theorem dX6_setNode_19 : decode cX6_setNode 19 = .ok (.imul, 1) := by decide +kernel
theorem dX6_setNode_20 : decode cX6_setNode 20 = .ok (.bipush 64, 2) := by decide +kernel
theorem dX6_setNode_22 : decode cX6_setNode 22 = .ok (.invokevirtual 50, 3) := by decide +kernel
theorem dX6_setNode_25 : decode cX6_setNode 25 = .ok (.aload_n 2, 1) := by decide +kernel
theorem dX6_setNode_26 : decode cX6_setNode 26 = .ok (.aload_n 0, 1) := by decide +kernel
theorem dX6_setNode_27 : decode cX6_setNode 27 = .ok (.getfield 9, 3) := by decide +kernel
theorem dX6_setNode_30 : decode cX6_setNode 30 = .ok (.iload_n 1, 1) := by decide +kernel
theorem dX6_setNode_31 : decode cX6_setNode 31 = .ok (.bipush 32, 2) := by decide +kernel
theorem dX6_setNode_33 : decode cX6_setNode 33 = .ok (.imul, 1) := by decide +kernel
theorem dX6_setNode_34 : decode cX6_setNode 34 = .ok (.invokevirtual 54, 3) := by decide +kernel
theorem dX6_setNode_37 : decode cX6_setNode 37 = .ok (.return_, 1) := by decide +kernel
end
section
set_option maxRecDepth 20000 in
theorem ggX7_init_X0_init : GoodIn wsX7_init wsX0_init := goodIn_r _ [17, 18, 2, 3, 19, 20, 21, 34, 35] (by decide +kernel) (by decide +kernel)
set_option maxRecDepth 20000 in
theorem gX7_init_X0_init_n19 : GoodIn wsX7_init (wsX0_init) := ggX7_init_X0_init
set_option maxRecDepth 20000 in
theorem ggX7_init_X6_init : GoodIn wsX7_init wsX6_init := goodIn_r _ [23, 24, 2, 3, 19, 25, 36] (by decide +kernel) (by decide +kernel)
set_option maxRecDepth 20000 in
theorem gX7_init_X6_init_n26 : GoodIn wsX7_init (wsX6_init) := ggX7_init_X6_init
set_option maxRecDepth 20000 in
theorem ggX7_init_X5_init : GoodIn wsX7_init wsX5_init := goodIn_r _ [28, 29, 2, 3, 19, 30, 37] (by decide +kernel) (by decide +kernel)
set_option maxRecDepth 20000 in
theorem gX7_init_X5_init : GoodIn wsX7_init (wsX5_init) := ggX7_init_X5_init
theorem dX7_init_0 : decode cX7_init 0 = .ok (.aload_n 0, 1) := by decide +kernel
theorem dX7_init_1 : decode cX7_init 1 = .ok (.invokespecial 3, 3) := by decide +kernel
theorem dX7_init_4 : decode cX7_init 4 = .ok (.aload_n 0, 1) := by decide +kernel
theorem dX7_init_5 : decode cX7_init 5 = .ok (.iconst 4, 1) := by decide +kernel
theorem dX7_init_6 : decode cX7_init 6 = .ok (.anewarray 9, 3) := by decide +kernel
theorem dX7_init_9 : decode cX7_init 9 = .ok (.putfield 11, 3) := by decide +kernel
theorem dX7_init_12 : decode cX7_init 12 = .ok (.aload_n 0, 1) := by decide +kernel
theorem dX7_init_13 : decode cX7_init 13 = .ok (.new 17, 3) := by decide +kernel
theorem dX7_init_16 : decode cX7_init 16 = .ok (.dup, 1) := by decide +kernel
theorem dX7_init_17 : decode cX7_init 17 = .ok (.invokespecial 19, 3) := by decide +kernel
theorem dX7_init_20 : decode cX7_init 20 = .ok (.putfield 20, 3) := by decide +kernel
theorem dX7_init_23 : decode cX7_init 23 = .ok (.aload_n 0, 1) := by decide +kernel
theorem dX7_init_24 : decode cX7_init 24 = .ok (.new 24, 3) := by decide +kernel
theorem dX7_init_27 : decode cX7_init 27 = .ok (.dup, 1) := by decide +kernel
theorem dX7_init_28 : decode cX7_init 28 = .ok (.invokespecial 26, 3) := by decide +kernel
theorem dX7_init_31 : decode cX7_init 31 = .ok (.putfield 27, 3) := by decide +kernel
theorem dX7_init_34 : decode cX7_init 34 = .ok (.iconst 0, 1) := by decide +kernel
theorem dX7_init_35 : decode cX7_init 35 = .ok (.istore_n 1, 1) := by decide +kernel
theorem dX7_init_36 : decode cX7_init 36 = .ok (.iload_n 1, 1) := by decide +kernel
theorem dX7_init_37 : decode cX7_init 37 = .ok (.iconst 4, 1) := by decide +kernel
theorem dX7_init_38 : decode cX7_init 38 = .ok (.if_icmp .ge 23, 3) := by decide +kernel
theorem dX7_init_41 : decode cX7_init 41 = .ok (.aload_n 0, 1) := by decide +kernel
theorem dX7_init_42 : decode cX7_init 42 = .ok (.getfield 11, 3) := by decide +kernel
theorem dX7_init_45 : decode cX7_init 45 = .ok (.iload_n 1, 1) := by decide +kernel
theorem dX7_init_46 : decode cX7_init 46 = .ok (.new 9, 3) := by decide +kernel
theorem dX7_init_49 : decode cX7_init 49 = .ok (.dup, 1) := by decide +kernel
theorem dX7_init_50 : decode cX7_init 50 = .ok (.iload_n 1, 1) := by decide +kernel
theorem dX7_init_51 : decode cX7_init 51 = .ok (.invokespecial 31, 3) := by decide +kernel
theorem dX7_init_54 : decode cX7_init 54 = .ok (.aastore, 1) := by decide +kernel
theorem dX7_init_55 : decode cX7_init 55 = .ok (.iinc 1 1, 3) := by decide +kernel
theorem dX7_init_58 : decode cX7_init 58 = .ok (.goto (-22), 3) := by decide +kernel
theorem dX7_init_61 : decode cX7_init 61 = .ok (.return_, 1) := by decide +kernel
set_option maxRecDepth 20000 in
theorem ggX7_become_X5_become : GoodIn wsX7_become wsX5_become := goodIn_r _ [8, 9, 10, 11, 12, 13, 32] (by decide +kernel) (by decide +kernel)
set_option maxRecDepth 20000 in
theorem gX7_become_X5_become : GoodIn wsX7_become (wsV RX7 34 RX5 yX5_become wsX5_become) := goodIn_app (goodIn_of _ (by decide +kernel)) ggX7_become_X5_become
set_option maxRecDepth 20000 in
theorem ggX7_become_X0_become : GoodIn wsX7_become wsX0_become := goodIn_r _ [18, 19, 20, 11, 12, 13, 21, 33, 34] (by decide +kernel) (by decide +kernel)
set_option maxRecDepth 20000 in
theorem gX7_become_X0_become : GoodIn wsX7_become (wsV RX7 38 RX0 yX0_become wsX0_become) := goodIn_app (goodIn_of _ (by decide +kernel)) ggX7_become_X0_become
set_option maxRecDepth 20000 in
theorem ggX7_become_X6_become : GoodIn wsX7_become wsX6_become := goodIn_r _ [26, 27, 28, 11, 12, 13, 35] (by decide +kernel) (by decide +kernel)
set_option maxRecDepth 20000 in
theorem gX7_become_X6_become : GoodIn wsX7_become (wsV RX7 41 RX6 yX6_become wsX6_become) := goodIn_app (goodIn_of _ (by decide +kernel)) ggX7_become_X6_become
theorem dX7_become_0 : decode cX7_become 0 = .ok (.iconst 0, 1) := by decide +kernel
theorem dX7_become_1 : decode cX7_become 1 = .ok (.istore_n 2, 1) := by decide +kernel
theorem dX7_become_2 : decode cX7_become 2 = .ok (.iload_n 2, 1) := by decide +kernel
theorem dX7_become_3 : decode cX7_become 3 = .ok (.iconst 4, 1) := by decide +kernel
theorem dX7_become_4 : decode cX7_become 4 = .ok (.if_icmp .ge 24, 3) := by decide +kernel
theorem dX7_become_7 : decode cX7_become 7 = .ok (.aload_n 0, 1) := by decide +kernel
theorem dX7_become_8 : decode cX7_become 8 = .ok (.getfield 11, 3) := by decide +kernel
theorem dX7_become_11 : decode cX7_become 11 = .ok (.iload_n 2, 1) := by decide +kernel
theorem dX7_become_12 : decode cX7_become 12 = .ok (.aaload, 1) := by decide +kernel
theorem dX7_become_13 : decode cX7_become 13 = .ok (.aload_n 1, 1) := by decide +kernel
theorem dX7_become_14 : decode cX7_become 14 = .ok (.getfield 11, 3) := by decide +kernel
theorem dX7_become_17 : decode cX7_become 17 = .ok (.iload_n 2, 1) := by decide +kernel
theorem dX7_become_18 : decode cX7_become 18 = .ok (.aaload, 1) := by decide +kernel
theorem dX7_become_19 : decode cX7_become 19 = .ok (.invokevirtual 34, 3) := by decide +kernel
theorem dX7_become_22 : decode cX7_become 22 = .ok (.iinc 2 1, 3) := by decide +kernel
theorem dX7_become_25 : decode cX7_become 25 = .ok (.goto (-23), 3) := by decide +kernel
theorem dX7_become_28 : decode cX7_become 28 = .ok (.aload_n 0, 1) := by decide +kernel
theorem dX7_become_29 : decode cX7_become 29 = .ok (.getfield 20, 3) := by decide +kernel
theorem dX7_become_32 : decode cX7_become 32 = .ok (.aload_n 1, 1) := by decide +kernel
theorem dX7_become_33 : decode cX7_become 33 = .ok (.getfield 20, 3) := by decide +kernel
theorem dX7_become_36 : decode cX7_become 36 = .ok (.invokevirtual 38, 3) := by decide +kernel
theorem dX7_become_39 : decode cX7_become 39 = .ok (.aload_n 0, 1) := by decide +kernel
theorem dX7_become_40 : decode cX7_become 40 = .ok (.getfield 27, 3) := by decide +kernel
theorem dX7_become_43 : decode cX7_become 43 = .ok (.aload_n 1, 1) := by decide +kernel
theorem dX7_become_44 : decode cX7_become 44 = .ok (.getfield 27, 3) := by decide +kernel
theorem dX7_become_47 : decode cX7_become 47 = .ok (.invokevirtual 41, 3) := by decide +kernel
theorem dX7_become_50 : decode cX7_become 50 = .ok (.return_, 1) := by decide +kernel
set_option maxRecDepth 20000 in
theorem ggX7_put_X0_put : GoodIn wsX7_put wsX0_put := goodIn_r _ [7, 8, 9, 10, 11, 12, 13, 67, 68] (by decide +kernel) (by decide +kernel)
set_option maxRecDepth 20000 in
theorem gX7_put_X0_put : GoodIn wsX7_put (wsV RX7 44 RX0 yX0_put wsX0_put) := goodIn_app (goodIn_of _ (by decide +kernel)) ggX7_put_X0_put
set_option maxRecDepth 20000 in
theorem ggX7_put_X6_refresh : GoodIn wsX7_put wsX6_refresh := goodIn_r _ [18, 19, 20, 21, 17, 22, 23, 24, 25, 26, 27, 28, 29, 30, 31, 32, 33, 10, 11, 12, 34, 35, 36, 37, 38, 39, 40, 41, 42, 43, 44, 45, 46, 47, 48, 49, 50, 51, 52, 53, 54, 55, 56, 57, 58, 59, 60, 61, 62, 63, 67, 68, 69, 70, 71, 72, 73] (by decide +kernel) (by decide +kernel)
set_option maxRecDepth 20000 in
theorem gX7_put_X6_refresh : GoodIn wsX7_put (wsV RX7 48 RX6 yX6_refresh wsX6_refresh) := goodIn_app (goodIn_of _ (by decide +kernel)) ggX7_put_X6_refresh
theorem dX7_put_0 : decode cX7_put 0 = .ok (.aload_n 0, 1) := by decide +kernel
theorem dX7_put_1 : decode cX7_put 1 = .ok (.getfield 20, 3) := by decide +kernel
theorem dX7_put_4 : decode cX7_put 4 = .ok (.iload_n 1, 1) := by decide +kernel
theorem dX7_put_5 : decode cX7_put 5 = .ok (.aload_n 2, 1) := by decide +kernel
theorem dX7_put_6 : decode cX7_put 6 = .ok (.iload_n 3, 1) := by decide +kernel
theorem dX7_put_7 : decode cX7_put 7 = .ok (.invokevirtual 44, 3) := by decide +kernel
theorem dX7_put_10 : decode cX7_put 10 = .ok (.aload_n 0, 1) := by decide +kernel
theorem dX7_put_11 : decode cX7_put 11 = .ok (.getfield 27, 3) := by decide +kernel
theorem dX7_put_14 : decode cX7_put 14 = .ok (.aload_n 0, 1) := by decide +kernel
theorem dX7_put_15 : decode cX7_put 15 = .ok (.getfield 20, 3) := by decide +kernel
theorem dX7_put_18 : decode cX7_put 18 = .ok (.iload_n 1, 1) := by decide +kernel
theorem dX7_put_19 : decode cX7_put 19 = .ok (.aload 4, 2) := by decide +kernel
theorem dX7_put_21 : decode cX7_put 21 = .ok (.invokevirtual 48, 3) := by decide +kernel
theorem dX7_put_24 : decode cX7_put 24 = .ok (.return_, 1) := by decide +kernel
set_option maxRecDepth 20000 in
theorem ggX7_flip_X6_refresh : GoodIn wsX7_flip wsX6_refresh := goodIn_r _ [8, 9, 10, 11, 7, 12, 13, 14, 15, 16, 17, 18, 19, 20, 21, 22, 23, 24, 25, 26, 27, 28, 29, 30, 31, 32, 33, 34, 35, 36, 37, 38, 39, 40, 41, 42, 43, 44, 45, 46, 47, 48, 49, 50, 51, 52, 53, 54, 55, 56, 60, 61, 62, 63, 64, 65, 66] (by decide +kernel) (by decide +kernel)
set_option maxRecDepth 20000 in
theorem gX7_flip_X6_refresh : GoodIn wsX7_flip (wsV RX7 48 RX6 yX6_refresh wsX6_refresh) := goodIn_app (goodIn_of _ (by decide +kernel)) ggX7_flip_X6_refresh
theorem dX7_flip_0 : decode cX7_flip 0 = .ok (.aload_n 0, 1) := by decide +kernel
theorem dX7_flip_1 : decode cX7_flip 1 = .ok (.getfield 20, 3) := by decide +kernel
theorem dX7_flip_4 : decode cX7_flip 4 = .ok (.getfield 52, 3) := by decide +kernel
theorem dX7_flip_7 : decode cX7_flip 7 = .ok (.iload_n 1, 1) := by decide +kernel
theorem dX7_flip_8 : decode cX7_flip 8 = .ok (.bipush 12, 2) := by decide +kernel
theorem dX7_flip_10 : decode cX7_flip 10 = .ok (.imul, 1) := by decide +kernel
theorem dX7_flip_11 : decode cX7_flip 11 = .ok (.iload_n 2, 1) := by decide +kernel
theorem dX7_flip_12 : decode cX7_flip 12 = .ok (.iadd, 1) := by decide +kernel
theorem dX7_flip_13 : decode cX7_flip 13 = .ok (.dup2, 1) := by decide +kernel
theorem dX7_flip_14 : decode cX7_flip 14 = .ok (.iaload, 1) := by decide +kernel
theorem dX7_flip_15 : decode cX7_flip 15 = .ok (.iload_n 3, 1) := by decide +kernel
theorem dX7_flip_16 : decode cX7_flip 16 = .ok (.ixor, 1) := by decide +kernel
theorem dX7_flip_17 : decode cX7_flip 17 = .ok (.iastore, 1) := by decide +kernel
theorem dX7_flip_18 : decode cX7_flip 18 = .ok (.aload_n 0, 1) := by decide +kernel
theorem dX7_flip_19 : decode cX7_flip 19 = .ok (.getfield 27, 3) := by decide +kernel
theorem dX7_flip_22 : decode cX7_flip 22 = .ok (.aload_n 0, 1) := by decide +kernel
theorem dX7_flip_23 : decode cX7_flip 23 = .ok (.getfield 20, 3) := by decide +kernel
theorem dX7_flip_26 : decode cX7_flip 26 = .ok (.iload_n 1, 1) := by decide +kernel
theorem dX7_flip_27 : decode cX7_flip 27 = .ok (.aload 4, 2) := by decide +kernel
theorem dX7_flip_29 : decode cX7_flip 29 = .ok (.invokevirtual 48, 3) := by decide +kernel
theorem dX7_flip_32 : decode cX7_flip 32 = .ok (.return_, 1) := by decide +kernel
set_option maxRecDepth 20000 in
theorem ggX7_isInLine_X5_isInLineWith : GoodIn wsX7_isInLine wsX5_isInLineWith := goodIn_r _ [6, 7, 8, 9, 5, 10, 11, 12, 13, 14, 15, 19] (by decide +kernel) (by decide +kernel)
set_option maxRecDepth 20000 in
theorem gX7_isInLine_X5_isInLineWith : GoodIn wsX7_isInLine (wsV RX7 56 RX5 yX5_isInLineWith wsX5_isInLineWith) := goodIn_app (goodIn_of _ (by decide +kernel)) ggX7_isInLine_X5_isInLineWith
theorem dX7_isInLine_0 : decode cX7_isInLine 0 = .ok (.iconst 0, 1) := by decide +kernel
theorem dX7_isInLine_1 : decode cX7_isInLine 1 = .ok (.istore_n 1, 1) := by decide +kernel
theorem dX7_isInLine_2 : decode cX7_isInLine 2 = .ok (.iload_n 1, 1) := by decide +kernel
theorem dX7_isInLine_3 : decode cX7_isInLine 3 = .ok (.iconst 4, 1) := by decide +kernel
theorem dX7_isInLine_4 : decode cX7_isInLine 4 = .ok (.if_icmp .ge 44, 3) := by decide +kernel
theorem dX7_isInLine_7 : decode cX7_isInLine 7 = .ok (.iload_n 1, 1) := by decide +kernel
theorem dX7_isInLine_8 : decode cX7_isInLine 8 = .ok (.iconst 1, 1) := by decide +kernel
theorem dX7_isInLine_9 : decode cX7_isInLine 9 = .ok (.iadd, 1) := by decide +kernel
theorem dX7_isInLine_10 : decode cX7_isInLine 10 = .ok (.istore_n 2, 1) := by decide +kernel
theorem dX7_isInLine_11 : decode cX7_isInLine 11 = .ok (.iload_n 2, 1) := by decide +kernel
theorem dX7_isInLine_12 : decode cX7_isInLine 12 = .ok (.iconst 4, 1) := by decide +kernel
theorem dX7_isInLine_13 : decode cX7_isInLine 13 = .ok (.if_icmp .ge 29, 3) := by decide +kernel
theorem dX7_isInLine_16 : decode cX7_isInLine 16 = .ok (.aload_n 0, 1) := by decide +kernel
theorem dX7_isInLine_17 : decode cX7_isInLine 17 = .ok (.getfield 11, 3) := by decide +kernel
theorem dX7_isInLine_20 : decode cX7_isInLine 20 = .ok (.iload_n 1, 1) := by decide +kernel
theorem dX7_isInLine_21 : decode cX7_isInLine 21 = .ok (.aaload, 1) := by decide +kernel
theorem dX7_isInLine_22 : decode cX7_isInLine 22 = .ok (.aload_n 0, 1) := by decide +kernel
theorem dX7_isInLine_23 : decode cX7_isInLine 23 = .ok (.getfield 11, 3) := by decide +kernel
theorem dX7_isInLine_26 : decode cX7_isInLine 26 = .ok (.iload_n 2, 1) := by decide +kernel
theorem dX7_isInLine_27 : decode cX7_isInLine 27 = .ok (.aaload, 1) := by decide +kernel
theorem dX7_isInLine_28 : decode cX7_isInLine 28 = .ok (.invokevirtual 56, 3) := by decide +kernel
theorem dX7_isInLine_31 : decode cX7_isInLine 31 = .ok (.ifCond .ne 5, 3) := by decide +kernel
theorem dX7_isInLine_34 : decode cX7_isInLine 34 = .ok (.iconst 0, 1) := by decide +kernel
theorem dX7_isInLine_35 : decode cX7_isInLine 35 = .ok (.ireturn, 1) := by decide +kernel
theorem dX7_isInLine_36 : decode cX7_isInLine 36 = .ok (.iinc 2 1, 3) := by decide +kernel
theorem dX7_isInLine_39 : decode cX7_isInLine 39 = .ok (.goto (-28), 3) := by decide +kernel
theorem dX7_isInLine_42 : decode cX7_isInLine 42 = .ok (.iinc 1 1, 3) := by decide +kernel
theorem dX7_isInLine_45 : decode cX7_isInLine 45 = .ok (.goto (-43), 3) := by decide +kernel
theorem dX7_isInLine_48 : decode cX7_isInLine 48 = .ok (.iconst 1, 1) := by decide +kernel
theorem dX7_isInLine_49 : decode cX7_isInLine 49 = .ok (.ireturn, 1) := by decide +kernel
set_option maxRecDepth 20000 in
theorem ggX7_greatest_X5_isNotAbove : GoodIn wsX7_greatest wsX5_isNotAbove := goodIn_r _ [6, 7, 8, 9, 5, 10, 11, 15] (by decide +kernel) (by decide +kernel)
set_option maxRecDepth 20000 in
theorem gX7_greatest_X5_isNotAbove : GoodIn wsX7_greatest (wsV RX7 60 RX5 yX5_isNotAbove wsX5_isNotAbove) := goodIn_app (goodIn_of _ (by decide +kernel)) ggX7_greatest_X5_isNotAbove
theorem dX7_greatest_0 : decode cX7_greatest 0 = .ok (.aload_n 0, 1) := by decide +kernel
theorem dX7_greatest_1 : decode cX7_greatest 1 = .ok (.getfield 11, 3) := by decide +kernel
theorem dX7_greatest_4 : decode cX7_greatest 4 = .ok (.iconst 0, 1) := by decide +kernel
theorem dX7_greatest_5 : decode cX7_greatest 5 = .ok (.aaload, 1) := by decide +kernel
theorem dX7_greatest_6 : decode cX7_greatest 6 = .ok (.astore_n 1, 1) := by decide +kernel
theorem dX7_greatest_7 : decode cX7_greatest 7 = .ok (.iconst 1, 1) := by decide +kernel
theorem dX7_greatest_8 : decode cX7_greatest 8 = .ok (.istore_n 2, 1) := by decide +kernel
theorem dX7_greatest_9 : decode cX7_greatest 9 = .ok (.iload_n 2, 1) := by decide +kernel
theorem dX7_greatest_10 : decode cX7_greatest 10 = .ok (.iconst 4, 1) := by decide +kernel
theorem dX7_greatest_11 : decode cX7_greatest 11 = .ok (.if_icmp .ge 29, 3) := by decide +kernel
theorem dX7_greatest_14 : decode cX7_greatest 14 = .ok (.aload_n 0, 1) := by decide +kernel
theorem dX7_greatest_15 : decode cX7_greatest 15 = .ok (.getfield 11, 3) := by decide +kernel
theorem dX7_greatest_18 : decode cX7_greatest 18 = .ok (.iload_n 2, 1) := by decide +kernel
theorem dX7_greatest_19 : decode cX7_greatest 19 = .ok (.aaload, 1) := by decide +kernel
theorem dX7_greatest_20 : decode cX7_greatest 20 = .ok (.aload_n 1, 1) := by decide +kernel
theorem dX7_greatest_21 : decode cX7_greatest 21 = .ok (.invokevirtual 60, 3) := by decide +kernel
theorem dX7_greatest_24 : decode cX7_greatest 24 = .ok (.ifCond .ne 10, 3) := by decide +kernel
theorem dX7_greatest_27 : decode cX7_greatest 27 = .ok (.aload_n 0, 1) := by decide +kernel
theorem dX7_greatest_28 : decode cX7_greatest 28 = .ok (.getfield 11, 3) := by decide +kernel
theorem dX7_greatest_31 : decode cX7_greatest 31 = .ok (.iload_n 2, 1) := by decide +kernel
theorem dX7_greatest_32 : decode cX7_greatest 32 = .ok (.aaload, 1) := by decide +kernel
theorem dX7_greatest_33 : decode cX7_greatest 33 = .ok (.astore_n 1, 1) := by decide +kernel
theorem dX7_greatest_34 : decode cX7_greatest 34 = .ok (.iinc 2 1, 3) := by decide +kernel
theorem dX7_greatest_37 : decode cX7_greatest 37 = .ok (.goto (-28), 3) := by decide +kernel
theorem dX7_greatest_40 : decode cX7_greatest 40 = .ok (.aload_n 1, 1) := by decide +kernel
theorem dX7_greatest_41 : decode cX7_greatest 41 = .ok (.areturn, 1) := by decide +kernel
end
section
set_option maxRecDepth 20000 in
theorem ggX8_init_X4_init : GoodIn wsX8_init wsX4_init := goodIn_r _ [41, 42, 2, 3, 12, 43, 44, 45, 46, 230, 231, 232, 233] (by decide +kernel) (by decide +kernel)
set_option maxRecDepth 20000 in
theorem gX8_init_X4_init_n9 : GoodIn wsX8_init (wsX4_init) := ggX8_init_X4_init
set_option maxRecDepth 20000 in
theorem ggX8_init_X2_init : GoodIn wsX8_init wsX2_init := goodIn_r _ [48, 49, 2, 3, 50, 5, 6, 51, 12, 52, 40, 41, 42, 43, 44, 45, 46, 230, 231, 232, 233, 248, 249] (by decide +kernel) (by decide +kernel)
set_option maxRecDepth 20000 in
theorem gX8_init_X2_init_n18 : GoodIn wsX8_init (wsX2_init) := ggX8_init_X2_init
set_option maxRecDepth 20000 in
theorem ggX8_init_Jx4a65c_init_da8c8 : GoodIn wsX8_init wsJx4a65c_init_da8c8 := goodIn_r _ [55, 56, 57, 58, 59, 60, 61, 62, 63, 64, 65, 66, 67, 2, 3, 250, 251, 252] (by decide +kernel) (by decide +kernel)
set_option maxRecDepth 20000 in
theorem gX8_init_Jx4a65c_init_da8c8 : GoodIn wsX8_init (wsJx4a65c_init_da8c8) := ggX8_init_Jx4a65c_init_da8c8
set_option maxRecDepth 20000 in
theorem ggX8_init_X1_init : GoodIn wsX8_init wsX1_init := goodIn_r _ [69, 70, 2, 3, 71, 15, 16, 72, 12, 73, 74, 75, 76, 77, 78, 54, 55, 56, 57, 58, 59, 60, 61, 62, 63, 64, 65, 66, 67, 79, 80, 81, 82, 83, 250, 251, 252, 253, 254, 255, 260, 261] (by decide +kernel) (by decide +kernel)
set_option maxRecDepth 20000 in
theorem gX8_init_X1_init_n58 : GoodIn wsX8_init (wsX1_init) := ggX8_init_X1_init
set_option maxRecDepth 20000 in
theorem ggX8_init_X7_init : GoodIn wsX8_init wsX7_init := goodIn_r _ [86, 87, 2, 3, 88, 89, 90, 75, 76, 91, 92, 93, 94, 95, 37, 38, 79, 80, 81, 12, 82, 83, 96, 97, 98, 99, 100, 101, 102, 103, 104, 256, 257, 258, 260, 261, 262, 259] (by decide +kernel) (by decide +kernel)
set_option maxRecDepth 20000 in
theorem gX8_init_X7_init : GoodIn wsX8_init (wsX7_init) := ggX8_init_X7_init
set_option maxRecDepth 20000 in
theorem ggX8_init_X6_build : GoodIn wsX8_init wsX6_build := goodIn_r _ [108, 109, 110, 111, 94, 112, 113, 114, 99, 115, 116, 117, 6, 118, 119, 43, 120, 121, 122, 123, 45, 46, 124, 125, 126, 127, 44, 128, 129, 130, 131, 132, 133, 134, 135, 136, 137, 138, 139, 140, 141, 142, 143, 144, 145, 146, 147, 148, 149, 150, 260, 261, 262, 230, 231, 232, 233] (by decide +kernel) (by decide +kernel)
set_option maxRecDepth 20000 in
theorem gX8_init_X6_build : GoodIn wsX8_init (wsV RX8 84 RX6 yX6_build wsX6_build) := goodIn_app (goodIn_of _ (by decide +kernel)) ggX8_init_X6_build
set_option maxRecDepth 20000 in
theorem ggX8_init_X5_init : GoodIn wsX8_init wsX5_init := goodIn_r _ [102, 103, 2, 3, 12, 104, 259] (by decide +kernel) (by decide +kernel)
set_option maxRecDepth 20000 in
theorem gX8_init_X5_init : GoodIn wsX8_init (wsX5_init) := ggX8_init_X5_init
set_option maxRecDepth 20000 in
theorem ggX8_init_X8_sign : GoodIn wsX8_init wsX8_sign := goodIn_r _ [156, 157, 11, 158, 159, 160, 94, 161, 99, 162, 121, 122, 123, 163, 164, 165, 10, 166, 51, 52, 167, 168, 169, 170, 171, 116, 117, 6, 118, 119, 43, 120, 45, 46, 172, 125, 126, 127, 44, 128, 129, 130, 131, 132, 133, 134, 135, 136, 173, 138, 139, 140, 141, 174, 143, 144, 145, 146, 259, 234, 235, 236, 237, 238, 239, 240, 241, 242, 243, 244, 245, 246, 247, 262, 248, 249, 230, 231, 232, 233] (by decide +kernel) (by decide +kernel)
set_option maxRecDepth 20000 in
theorem gX8_init_X8_sign : GoodIn wsX8_init (wsV RX8 93 RX8 yX8_sign wsX8_sign) := goodIn_app (goodIn_of _ (by decide +kernel)) ggX8_init_X8_sign
set_option maxRecDepth 20000 in
theorem ggX8_init_X5_become : GoodIn wsX8_init wsX5_become := goodIn_r _ [178, 104, 179, 121, 122, 123, 259] (by decide +kernel) (by decide +kernel)
set_option maxRecDepth 20000 in
theorem gX8_init_X5_become : GoodIn wsX8_init (wsV RX8 100 RX5 yX5_become wsX5_become) := goodIn_app (goodIn_of _ (by decide +kernel)) ggX8_init_X5_become
set_option maxRecDepth 20000 in
theorem ggX8_init_Jx4a65c_add_9ea2d : GoodIn wsX8_init wsJx4a65c_add_9ea2d := goodIn_r _ [183, 184, 185, 57, 186, 187, 188, 189, 16, 190, 191, 192, 193, 194, 195, 196, 197, 198, 56, 199, 200, 201, 202, 203, 204, 205, 206, 207, 208, 209, 210, 211, 212, 213, 214, 215, 216, 217, 218, 219, 220, 221, 222, 223, 224, 225, 226, 227, 228, 229, 121, 122, 123, 250, 251, 252] (by decide +kernel) (by decide +kernel)
set_option maxRecDepth 20000 in
theorem gX8_init_Jx4a65c_add_9ea2d : GoodIn wsX8_init (wsV RX8 104 RJx4a65c yJx4a65c_add_9ea2d wsJx4a65c_add_9ea2d) := goodIn_app (goodIn_of _ (by decide +kernel)) ggX8_init_Jx4a65c_add_9ea2d
theorem dX8_init_0 : decode cX8_init 0 = .ok (.aload_n 0, 1) := by decide +kernel
theorem dX8_init_1 : decode cX8_init 1 = .ok (.invokespecial 1, 3) := by decide +kernel
theorem dX8_init_4 : decode cX8_init 4 = .ok (.aload_n 0, 1) := by decide +kernel
theorem dX8_init_5 : decode cX8_init 5 = .ok (.new 7, 3) := by decide +kernel
theorem dX8_init_8 : decode cX8_init 8 = .ok (.dup, 1) := by decide +kernel
theorem dX8_init_9 : decode cX8_init 9 = .ok (.invokespecial 9, 3) := by decide +kernel
theorem dX8_init_12 : decode cX8_init 12 = .ok (.putfield 10, 3) := by decide +kernel
theorem dX8_init_15 : decode cX8_init 15 = .ok (.aload_n 0, 1) := by decide +kernel
theorem dX8_init_16 : decode cX8_init 16 = .ok (.new 16, 3) := by decide +kernel
theorem dX8_init_19 : decode cX8_init 19 = .ok (.dup, 1) := by decide +kernel
theorem dX8_init_20 : decode cX8_init 20 = .ok (.invokespecial 18, 3) := by decide +kernel
theorem dX8_init_23 : decode cX8_init 23 = .ok (.putfield 19, 3) := by decide +kernel
theorem dX8_init_26 : decode cX8_init 26 = .ok (.aload_n 0, 1) := by decide +kernel
theorem dX8_init_27 : decode cX8_init 27 = .ok (.bipush 32, 2) := by decide +kernel
theorem dX8_init_29 : decode cX8_init 29 = .ok (.newarray .int, 2) := by decide +kernel
theorem dX8_init_31 : decode cX8_init 31 = .ok (.putfield 23, 3) := by decide +kernel
theorem dX8_init_34 : decode cX8_init 34 = .ok (.aload_n 0, 1) := by decide +kernel
theorem dX8_init_35 : decode cX8_init 35 = .ok (.new 27, 3) := by decide +kernel
theorem dX8_init_38 : decode cX8_init 38 = .ok (.dup, 1) := by decide +kernel
theorem dX8_init_39 : decode cX8_init 39 = .ok (.invokespecial 29, 3) := by decide +kernel
theorem dX8_init_42 : decode cX8_init 42 = .ok (.putfield 30, 3) := by decide +kernel
theorem dX8_init_45 : decode cX8_init 45 = .ok (.aload_n 0, 1) := by decide +kernel
theorem dX8_init_46 : decode cX8_init 46 = .ok (.iconst 4, 1) := by decide +kernel
theorem dX8_init_47 : decode cX8_init 47 = .ok (.anewarray 34, 3) := by decide +kernel
theorem dX8_init_50 : decode cX8_init 50 = .ok (.putfield 36, 3) := by decide +kernel
theorem dX8_init_53 : decode cX8_init 53 = .ok (.aload_n 0, 1) := by decide +kernel
theorem dX8_init_54 : decode cX8_init 54 = .ok (.iconst 4, 1) := by decide +kernel
theorem dX8_init_55 : decode cX8_init 55 = .ok (.newarray .int, 2) := by decide +kernel
theorem dX8_init_57 : decode cX8_init 57 = .ok (.putfield 40, 3) := by decide +kernel
theorem dX8_init_60 : decode cX8_init 60 = .ok (.aload_n 0, 1) := by decide +kernel
theorem dX8_init_61 : decode cX8_init 61 = .ok (.bipush 64, 2) := by decide +kernel
theorem dX8_init_63 : decode cX8_init 63 = .ok (.newarray .int, 2) := by decide +kernel
theorem dX8_init_65 : decode cX8_init 65 = .ok (.putfield 43, 3) := by decide +kernel
theorem dX8_init_68 : decode cX8_init 68 = .ok (.aload_n 0, 1) := by decide +kernel
theorem dX8_init_69 : decode cX8_init 69 = .ok (.iconst 0, 1) := by decide +kernel
theorem dX8_init_70 : decode cX8_init 70 = .ok (.putfield 46, 3) := by decide +kernel
theorem dX8_init_73 : decode cX8_init 73 = .ok (.aload_n 0, 1) := by decide +kernel
theorem dX8_init_74 : decode cX8_init 74 = .ok (.bipush 12, 2) := by decide +kernel
theorem dX8_init_76 : decode cX8_init 76 = .ok (.newarray .int, 2) := by decide +kernel
theorem dX8_init_78 : decode cX8_init 78 = .ok (.putfield 50, 3) := by decide +kernel
theorem dX8_init_81 : decode cX8_init 81 = .ok (.aload_n 0, 1) := by decide +kernel
theorem dX8_init_82 : decode cX8_init 82 = .ok (.iconst 0, 1) := by decide +kernel
theorem dX8_init_83 : decode cX8_init 83 = .ok (.putfield 53, 3) := by decide +kernel
theorem dX8_init_86 : decode cX8_init 86 = .ok (.aload_n 0, 1) := by decide +kernel
theorem dX8_init_87 : decode cX8_init 87 = .ok (.new 56, 3) := by decide +kernel
theorem dX8_init_90 : decode cX8_init 90 = .ok (.dup, 1) := by decide +kernel
theorem dX8_init_91 : decode cX8_init 91 = .ok (.invokespecial 58, 3) := by decide +kernel
theorem dX8_init_94 : decode cX8_init 94 = .ok (.putfield 59, 3) := by decide +kernel
theorem dX8_init_97 : decode cX8_init 97 = .ok (.aload_n 0, 1) := by decide +kernel
theorem dX8_init_98 : decode cX8_init 98 = .ok (.iconst 0, 1) := by decide +kernel
theorem dX8_init_99 : decode cX8_init 99 = .ok (.putfield 63, 3) := by decide +kernel
theorem dX8_init_102 : decode cX8_init 102 = .ok (.aload_n 0, 1) := by decide +kernel
theorem dX8_init_103 : decode cX8_init 103 = .ok (.iconst 0, 1) := by decide +kernel
theorem dX8_init_104 : decode cX8_init 104 = .ok (.putfield 67, 3) := by decide +kernel
theorem dX8_init_107 : decode cX8_init 107 = .ok (.aload_n 0, 1) := by decide +kernel
theorem dX8_init_108 : decode cX8_init 108 = .ok (.iconst 0, 1) := by decide +kernel
theorem dX8_init_109 : decode cX8_init 109 = .ok (.putfield 70, 3) := by decide +kernel
theorem dX8_init_112 : decode cX8_init 112 = .ok (.new 73, 3) := by decide +kernel
theorem dX8_init_115 : decode cX8_init 115 = .ok (.dup, 1) := by decide +kernel
theorem dX8_init_116 : decode cX8_init 116 = .ok (.invokespecial 75, 3) := by decide +kernel
theorem dX8_init_119 : decode cX8_init 119 = .ok (.astore_n 1, 1) := by decide +kernel
theorem dX8_init_120 : decode cX8_init 120 = .ok (.aload_n 1, 1) := by decide +kernel
theorem dX8_init_121 : decode cX8_init 121 = .ok (.getfield 76, 3) := by decide +kernel
theorem dX8_init_124 : decode cX8_init 124 = .ok (.aload_n 1, 1) := by decide +kernel
theorem dX8_init_125 : decode cX8_init 125 = .ok (.getfield 80, 3) := by decide +kernel
theorem dX8_init_128 : decode cX8_init 128 = .ok (.aload_n 0, 1) := by decide +kernel
theorem dX8_init_129 : decode cX8_init 129 = .ok (.getfield 10, 3) := by decide +kernel
theorem dX8_init_132 : decode cX8_init 132 = .ok (.invokevirtual 84, 3) := by decide +kernel
theorem dX8_init_135 : decode cX8_init 135 = .ok (.iconst 0, 1) := by decide +kernel
theorem dX8_init_136 : decode cX8_init 136 = .ok (.istore_n 2, 1) := by decide +kernel
theorem dX8_init_137 : decode cX8_init 137 = .ok (.iload_n 2, 1) := by decide +kernel
theorem dX8_init_138 : decode cX8_init 138 = .ok (.iconst 4, 1) := by decide +kernel
theorem dX8_init_139 : decode cX8_init 139 = .ok (.if_icmp .ge 52, 3) := by decide +kernel
theorem dX8_init_142 : decode cX8_init 142 = .ok (.aload_n 0, 1) := by decide +kernel
theorem dX8_init_143 : decode cX8_init 143 = .ok (.getfield 36, 3) := by decide +kernel
theorem dX8_init_146 : decode cX8_init 146 = .ok (.iload_n 2, 1) := by decide +kernel
theorem dX8_init_147 : decode cX8_init 147 = .ok (.new 34, 3) := by decide +kernel
theorem dX8_init_150 : decode cX8_init 150 = .ok (.dup, 1) := by decide +kernel
theorem dX8_init_151 : decode cX8_init 151 = .ok (.iload_n 2, 1) := by decide +kernel
theorem dX8_init_152 : decode cX8_init 152 = .ok (.invokespecial 90, 3) := by decide +kernel
theorem dX8_init_155 : decode cX8_init 155 = .ok (.aastore, 1) := by decide +kernel
theorem dX8_init_156 : decode cX8_init 156 = .ok (.aload_n 0, 1) := by decide +kernel
theorem dX8_init_157 : decode cX8_init 157 = .ok (.aload_n 0, 1) := by decide +kernel
theorem dX8_init_158 : decode cX8_init 158 = .ok (.getfield 36, 3) := by decide +kernel
theorem dX8_init_161 : decode cX8_init 161 = .ok (.iload_n 2, 1) := by decide +kernel
theorem dX8_init_162 : decode cX8_init 162 = .ok (.aaload, 1) := by decide +kernel
theorem dX8_init_163 : decode cX8_init 163 = .ok (.aload_n 1, 1) := by decide +kernel
theorem dX8_init_164 : decode cX8_init 164 = .ok (.getfield 76, 3) := by decide +kernel
theorem dX8_init_167 : decode cX8_init 167 = .ok (.invokevirtual 93, 3) := by decide +kernel
theorem dX8_init_170 : decode cX8_init 170 = .ok (.aload_n 1, 1) := by decide +kernel
theorem dX8_init_171 : decode cX8_init 171 = .ok (.getfield 97, 3) := by decide +kernel
theorem dX8_init_174 : decode cX8_init 174 = .ok (.iload_n 2, 1) := by decide +kernel
theorem dX8_init_175 : decode cX8_init 175 = .ok (.aaload, 1) := by decide +kernel
theorem dX8_init_176 : decode cX8_init 176 = .ok (.aload_n 0, 1) := by decide +kernel
theorem dX8_init_177 : decode cX8_init 177 = .ok (.getfield 36, 3) := by decide +kernel
theorem dX8_init_180 : decode cX8_init 180 = .ok (.iload_n 2, 1) := by decide +kernel
theorem dX8_init_181 : decode cX8_init 181 = .ok (.aaload, 1) := by decide +kernel
theorem dX8_init_182 : decode cX8_init 182 = .ok (.invokevirtual 100, 3) := by decide +kernel
theorem dX8_init_185 : decode cX8_init 185 = .ok (.iinc 2 1, 3) := by decide +kernel
theorem dX8_init_188 : decode cX8_init 188 = .ok (.goto (-51), 3) := by decide +kernel
theorem dX8_init_191 : decode cX8_init 191 = .ok (.aload_n 0, 1) := by decide +kernel
theorem dX8_init_192 : decode cX8_init 192 = .ok (.getfield 30, 3) := by decide +kernel
theorem dX8_init_195 : decode cX8_init 195 = .ok (.aload_n 1, 1) := by decide +kernel
theorem dX8_init_196 : decode cX8_init 196 = .ok (.invokevirtual 104, 3) := by decide +kernel
theorem dX8_init_199 : decode cX8_init 199 = .ok (.pop, 1) := by decide +kernel
theorem dX8_init_200 : decode cX8_init 200 = .ok (.return_, 1) := by decide +kernel
theorem dX8_feed_0 : decode cX8_feed 0 = .ok (.iload_n 1, 1) := by decide +kernel
theorem dX8_feed_1 : decode cX8_feed 1 = .ok (.ifCond .lt 19, 3) := by decide +kernel
theorem dX8_feed_4 : decode cX8_feed 4 = .ok (.iload_n 1, 1) := by decide +kernel
theorem dX8_feed_5 : decode cX8_feed 5 = .ok (.sipush 255, 3) := by decide +kernel
theorem dX8_feed_8 : decode cX8_feed 8 = .ok (.if_icmp .gt 12, 3) := by decide +kernel
theorem dX8_feed_11 : decode cX8_feed 11 = .ok (.aload_n 0, 1) := by decide +kernel
theorem dX8_feed_12 : decode cX8_feed 12 = .ok (.getfield 46, 3) := by decide +kernel
theorem dX8_feed_15 : decode cX8_feed 15 = .ok (.bipush 64, 2) := by decide +kernel
theorem dX8_feed_17 : decode cX8_feed 17 = .ok (.if_icmp .lt 5, 3) := by decide +kernel
theorem dX8_feed_20 : decode cX8_feed 20 = .ok (.iconst 0, 1) := by decide +kernel
theorem dX8_feed_21 : decode cX8_feed 21 = .ok (.ireturn, 1) := by decide +kernel
theorem dX8_feed_22 : decode cX8_feed 22 = .ok (.aload_n 0, 1) := by decide +kernel
theorem dX8_feed_23 : decode cX8_feed 23 = .ok (.getfield 43, 3) := by decide +kernel
theorem dX8_feed_26 : decode cX8_feed 26 = .ok (.aload_n 0, 1) := by decide +kernel
theorem dX8_feed_27 : decode cX8_feed 27 = .ok (.getfield 46, 3) := by decide +kernel
theorem dX8_feed_30 : decode cX8_feed 30 = .ok (.iload_n 1, 1) := by decide +kernel
theorem dX8_feed_31 : decode cX8_feed 31 = .ok (.iastore, 1) := by decide +kernel
theorem dX8_feed_32 : decode cX8_feed 32 = .ok (.aload_n 0, 1) := by decide +kernel
theorem dX8_feed_33 : decode cX8_feed 33 = .ok (.dup, 1) := by decide +kernel
theorem dX8_feed_34 : decode cX8_feed 34 = .ok (.getfield 46, 3) := by decide +kernel
theorem dX8_feed_37 : decode cX8_feed 37 = .ok (.iconst 1, 1) := by decide +kernel
theorem dX8_feed_38 : decode cX8_feed 38 = .ok (.iadd, 1) := by decide +kernel
theorem dX8_feed_39 : decode cX8_feed 39 = .ok (.putfield 46, 3) := by decide +kernel
theorem dX8_feed_42 : decode cX8_feed 42 = .ok (.iconst 1, 1) := by decide +kernel
theorem dX8_feed_43 : decode cX8_feed 43 = .ok (.ireturn, 1) := by decide +kernel
set_option maxRecDepth 20000 in
theorem ggX8_write_X8_isClient : GoodIn wsX8_write wsX8_isClient := goodIn_r _ [11] (by decide +kernel) (by decide +kernel)
set_option maxRecDepth 20000 in
theorem gX8_write_X8_isClient : GoodIn wsX8_write (va_wsS RX8 108 yX8_isClient wsX8_isClient) := goodIn_app (goodIn_of _ (by decide +kernel)) ggX8_write_X8_isClient
set_option maxRecDepth 20000 in
theorem ggX8_write_X8_isFile : GoodIn wsX8_write wsX8_isFile := goodIn_r _ [14] (by decide +kernel) (by decide +kernel)
set_option maxRecDepth 20000 in
theorem gX8_write_X8_isFile : GoodIn wsX8_write (va_wsS RX8 112 yX8_isFile wsX8_isFile) := goodIn_app (goodIn_of _ (by decide +kernel)) ggX8_write_X8_isFile
set_option maxRecDepth 20000 in
theorem ggX8_write_Jx4a65c_get_915e3 : GoodIn wsX8_write wsJx4a65c_get_915e3 := goodIn_r _ [19, 20, 21, 22, 23, 24, 25, 26, 27, 28, 29, 30, 31, 18, 32, 33, 290, 291, 292] (by decide +kernel) (by decide +kernel)
set_option maxRecDepth 20000 in
theorem gX8_write_Jx4a65c_get_915e3 : GoodIn wsX8_write (wsV RX8 115 RJx4a65c yJx4a65c_get_915e3 wsJx4a65c_get_915e3) := goodIn_app (goodIn_of _ (by decide +kernel)) ggX8_write_Jx4a65c_get_915e3
set_option maxRecDepth 20000 in
theorem ggX8_write_X8_failedCheck : GoodIn wsX8_write wsX8_failedCheck := goodIn_r _ [37, 38, 39, 40, 41, 42, 43, 44, 10, 45, 46, 47, 48, 49, 50, 51, 52, 53, 54, 55, 56, 57, 58, 59, 60, 61, 62, 63, 64, 65, 66, 67, 68, 69, 70, 71, 72, 73, 74, 75, 76, 77, 78, 79, 80, 81, 82, 83, 84, 85, 86, 87, 88, 89, 90, 91, 92, 93, 94, 95, 96, 97, 98, 99, 100, 101, 102, 103, 104, 105, 106, 107, 108, 109, 110, 111, 112, 113, 114, 115, 116, 117, 118, 119, 120, 121, 122, 123, 124, 125, 126, 127, 128, 129, 293, 294, 295, 296, 276, 277, 278, 279, 280, 281, 282, 283, 284, 285, 286, 287, 288, 289, 297, 298, 299, 300, 301, 302, 303] (by decide +kernel) (by decide +kernel)
set_option maxRecDepth 20000 in
theorem gX8_write_X8_failedCheck : GoodIn wsX8_write (wsV RX8 119 RX8 yX8_failedCheck wsX8_failedCheck) := goodIn_app (goodIn_of _ (by decide +kernel)) ggX8_write_X8_failedCheck
set_option maxRecDepth 20000 in
theorem ggX8_write_X8_stoppedBy : GoodIn wsX8_write wsX8_stoppedBy := goodIn_r _ [133, 134, 276, 277, 278, 279, 280, 281, 282, 283, 284, 285, 286, 287, 288, 289] (by decide +kernel) (by decide +kernel)
set_option maxRecDepth 20000 in
theorem gX8_write_X8_stoppedBy : GoodIn wsX8_write (wsV RX8 123 RX8 yX8_stoppedBy wsX8_stoppedBy) := goodIn_app (goodIn_of _ (by decide +kernel)) ggX8_write_X8_stoppedBy
set_option maxRecDepth 20000 in
theorem ggX8_write_X7_put : GoodIn wsX8_write wsX7_put := goodIn_r _ [138, 139, 140, 141, 142, 143, 144, 145, 146, 147, 67, 68, 69, 148, 149, 150, 151, 127, 152, 153, 154, 155, 156, 157, 158, 129, 159, 60, 61, 62, 63, 64, 65, 66, 70, 71, 160, 73, 74, 75, 76, 77, 78, 79, 80, 81, 82, 83, 84, 85, 161, 87, 88, 89, 90, 162, 92, 93, 94, 95, 163, 164, 165, 166, 293, 294, 295, 304, 305, 303, 299, 300, 301, 302] (by decide +kernel) (by decide +kernel)
set_option maxRecDepth 20000 in
theorem gX8_write_X7_put : GoodIn wsX8_write (wsV RX8 127 RX7 yX7_put wsX7_put) := goodIn_app (goodIn_of _ (by decide +kernel)) ggX8_write_X7_put
set_option maxRecDepth 20000 in
theorem ggX8_write_X1_note : GoodIn wsX8_write wsX1_note := goodIn_r _ [171, 172, 173, 174, 175, 176, 177, 178, 179, 18, 180, 20, 181, 182, 183, 184, 185, 186, 187, 188, 189, 190, 191, 192, 193, 194, 195, 196, 67, 68, 69, 197, 198, 199, 200, 201, 202, 203, 204, 205, 206, 207, 208, 209, 210, 211, 212, 213, 33, 214, 215, 216, 217, 218, 219, 220, 221, 222, 223, 224, 225, 226, 227, 228, 229, 230, 231, 232, 233, 234, 235, 236, 237, 238, 239, 240, 241, 242, 243, 244, 245, 246, 247, 248, 249, 250, 251, 306, 307, 308, 309, 310, 311, 312, 313, 290, 291, 292] (by decide +kernel) (by decide +kernel)
set_option maxRecDepth 20000 in
theorem gX8_write_X1_note : GoodIn wsX8_write (wsV RX8 131 RX1 yX1_note wsX1_note) := goodIn_app (goodIn_of _ (by decide +kernel)) ggX8_write_X1_note
set_option maxRecDepth 20000 in
theorem ggX8_write_X8_makeStatement : GoodIn wsX8_write wsX8_makeStatement := goodIn_r _ [255, 40, 41, 38, 256, 119, 120, 121, 102, 122, 104, 123, 111, 112, 108, 113, 114, 115, 116, 117, 118, 257, 258, 259, 260, 261, 262, 263, 264, 10, 265, 39, 46, 266, 267, 268, 127, 269, 129, 270, 67, 68, 69, 48, 49, 50, 51, 52, 53, 54, 55, 56, 57, 58, 59, 60, 61, 62, 63, 64, 65, 66, 70, 71, 72, 73, 74, 75, 76, 77, 78, 79, 80, 81, 82, 83, 84, 85, 86, 87, 88, 89, 90, 91, 92, 93, 94, 95, 271, 272, 273, 274, 275, 276, 277, 278, 279, 280, 281, 282, 283, 284, 285, 286, 287, 288, 289, 293, 294, 295, 296, 303, 297, 298, 299, 300, 301, 302] (by decide +kernel) (by decide +kernel)
set_option maxRecDepth 20000 in
theorem gX8_write_X8_makeStatement : GoodIn wsX8_write (wsV RX8 135 RX8 yX8_makeStatement wsX8_makeStatement) := goodIn_app (goodIn_of _ (by decide +kernel)) ggX8_write_X8_makeStatement
theorem dX8_write_0 : decode cX8_write 0 = .ok (.iload_n 1, 1) := by decide +kernel
theorem dX8_write_1 : decode cX8_write 1 = .ok (.invokestatic 108, 3) := by decide +kernel
theorem dX8_write_4 : decode cX8_write 4 = .ok (.ifCond .eq 19, 3) := by decide +kernel
theorem dX8_write_7 : decode cX8_write 7 = .ok (.iload_n 2, 1) := by decide +kernel
theorem dX8_write_8 : decode cX8_write 8 = .ok (.invokestatic 112, 3) := by decide +kernel
theorem dX8_write_11 : decode cX8_write 11 = .ok (.ifCond .eq 12, 3) := by decide +kernel
theorem dX8_write_14 : decode cX8_write 14 = .ok (.aload_n 0, 1) := by decide +kernel
theorem dX8_write_15 : decode cX8_write 15 = .ok (.getfield 46, 3) := by decide +kernel
theorem dX8_write_18 : decode cX8_write 18 = .ok (.bipush 12, 2) := by decide +kernel
theorem dX8_write_20 : decode cX8_write 20 = .ok (.if_icmp .le 6, 3) := by decide +kernel
theorem dX8_write_23 : decode cX8_write 23 = .ok (.bipush (-9), 2) := by decide +kernel
theorem dX8_write_25 : decode cX8_write 25 = .ok (.ireturn, 1) := by decide +kernel
theorem dX8_write_26 : decode cX8_write 26 = .ok (.aload_n 0, 1) := by decide +kernel
theorem dX8_write_27 : decode cX8_write 27 = .ok (.getfield 46, 3) := by decide +kernel
theorem dX8_write_30 : decode cX8_write 30 = .ok (.istore_n 3, 1) := by decide +kernel
theorem dX8_write_31 : decode cX8_write 31 = .ok (.aload_n 0, 1) := by decide +kernel
theorem dX8_write_32 : decode cX8_write 32 = .ok (.iconst 0, 1) := by decide +kernel
theorem dX8_write_33 : decode cX8_write 33 = .ok (.putfield 46, 3) := by decide +kernel
theorem dX8_write_36 : decode cX8_write 36 = .ok (.aload_n 0, 1) := by decide +kernel
theorem dX8_write_37 : decode cX8_write 37 = .ok (.getfield 30, 3) := by decide +kernel
theorem dX8_write_40 : decode cX8_write 40 = .ok (.aload_n 0, 1) := by decide +kernel
theorem dX8_write_41 : decode cX8_write 41 = .ok (.getfield 40, 3) := by decide +kernel
theorem dX8_write_44 : decode cX8_write 44 = .ok (.iload_n 1, 1) := by decide +kernel
theorem dX8_write_45 : decode cX8_write 45 = .ok (.iaload, 1) := by decide +kernel
theorem dX8_write_46 : decode cX8_write 46 = .ok (.invokevirtual 115, 3) := by decide +kernel
theorem dX8_write_49 : decode cX8_write 49 = .ok (.checkcast 73, 3) := by decide +kernel
theorem dX8_write_52 : decode cX8_write 52 = .ok (.astore 4, 2) := by decide +kernel
theorem dX8_write_54 : decode cX8_write 54 = .ok (.aload_n 0, 1) := by decide +kernel
theorem dX8_write_55 : decode cX8_write 55 = .ok (.iload_n 1, 1) := by decide +kernel
theorem dX8_write_56 : decode cX8_write 56 = .ok (.aload 4, 2) := by decide +kernel
theorem dX8_write_58 : decode cX8_write 58 = .ok (.invokevirtual 119, 3) := by decide +kernel
theorem dX8_write_61 : decode cX8_write 61 = .ok (.istore 5, 2) := by decide +kernel
theorem dX8_write_63 : decode cX8_write 63 = .ok (.iload 5, 2) := by decide +kernel
theorem dX8_write_65 : decode cX8_write 65 = .ok (.ifCond .eq 10, 3) := by decide +kernel
theorem dX8_write_68 : decode cX8_write 68 = .ok (.aload_n 0, 1) := by decide +kernel
theorem dX8_write_69 : decode cX8_write 69 = .ok (.iload 5, 2) := by decide +kernel
theorem dX8_write_71 : decode cX8_write 71 = .ok (.invokevirtual 123, 3) := by decide +kernel
theorem dX8_write_74 : decode cX8_write 74 = .ok (.ireturn, 1) := by decide +kernel
theorem dX8_write_75 : decode cX8_write 75 = .ok (.aload 4, 2) := by decide +kernel
theorem dX8_write_77 : decode cX8_write 77 = .ok (.iload_n 2, 1) := by decide +kernel
theorem dX8_write_78 : decode cX8_write 78 = .ok (.aload_n 0, 1) := by decide +kernel
theorem dX8_write_79 : decode cX8_write 79 = .ok (.getfield 43, 3) := by decide +kernel
theorem dX8_write_82 : decode cX8_write 82 = .ok (.iload_n 3, 1) := by decide +kernel
theorem dX8_write_83 : decode cX8_write 83 = .ok (.aload_n 0, 1) := by decide +kernel
theorem dX8_write_84 : decode cX8_write 84 = .ok (.getfield 10, 3) := by decide +kernel
theorem dX8_write_87 : decode cX8_write 87 = .ok (.invokevirtual 127, 3) := by decide +kernel
theorem dX8_write_90 : decode cX8_write 90 = .ok (.aload_n 0, 1) := by decide +kernel
theorem dX8_write_91 : decode cX8_write 91 = .ok (.getfield 59, 3) := by decide +kernel
theorem dX8_write_94 : decode cX8_write 94 = .ok (.iconst 1, 1) := by decide +kernel
theorem dX8_write_95 : decode cX8_write 95 = .ok (.iload_n 1, 1) := by decide +kernel
theorem dX8_write_96 : decode cX8_write 96 = .ok (.iload_n 2, 1) := by decide +kernel
theorem dX8_write_97 : decode cX8_write 97 = .ok (.aload_n 0, 1) := by decide +kernel
theorem dX8_write_98 : decode cX8_write 98 = .ok (.getfield 43, 3) := by decide +kernel
theorem dX8_write_101 : decode cX8_write 101 = .ok (.iload_n 3, 1) := by decide +kernel
theorem dX8_write_102 : decode cX8_write 102 = .ok (.invokevirtual 131, 3) := by decide +kernel
theorem dX8_write_105 : decode cX8_write 105 = .ok (.aload_n 0, 1) := by decide +kernel
theorem dX8_write_106 : decode cX8_write 106 = .ok (.iload_n 1, 1) := by decide +kernel
theorem dX8_write_107 : decode cX8_write 107 = .ok (.aload 4, 2) := by decide +kernel
theorem dX8_write_109 : decode cX8_write 109 = .ok (.invokevirtual 135, 3) := by decide +kernel
theorem dX8_write_112 : decode cX8_write 112 = .ok (.iconst 1, 1) := by decide +kernel
theorem dX8_write_113 : decode cX8_write 113 = .ok (.ireturn, 1) := by decide +kernel
set_option maxRecDepth 20000 in
theorem ggX8_read_X8_isClient : GoodIn wsX8_read wsX8_isClient := goodIn_r _ [17] (by decide +kernel) (by decide +kernel)
set_option maxRecDepth 20000 in
theorem gX8_read_X8_isClient : GoodIn wsX8_read (va_wsS RX8 108 yX8_isClient wsX8_isClient) := goodIn_app (goodIn_of _ (by decide +kernel)) ggX8_read_X8_isClient
set_option maxRecDepth 20000 in
theorem ggX8_read_X8_isFile : GoodIn wsX8_read wsX8_isFile := goodIn_r _ [20] (by decide +kernel) (by decide +kernel)
set_option maxRecDepth 20000 in
theorem gX8_read_X8_isFile : GoodIn wsX8_read (va_wsS RX8 112 yX8_isFile wsX8_isFile) := goodIn_app (goodIn_of _ (by decide +kernel)) ggX8_read_X8_isFile
set_option maxRecDepth 20000 in
theorem ggX8_read_Jx4a65c_get_915e3 : GoodIn wsX8_read wsJx4a65c_get_915e3 := goodIn_r _ [25, 26, 27, 28, 29, 30, 31, 32, 33, 34, 35, 36, 37, 24, 38, 39, 266, 267, 268] (by decide +kernel) (by decide +kernel)
set_option maxRecDepth 20000 in
theorem gX8_read_Jx4a65c_get_915e3 : GoodIn wsX8_read (wsV RX8 115 RJx4a65c yJx4a65c_get_915e3 wsJx4a65c_get_915e3) := goodIn_app (goodIn_of _ (by decide +kernel)) ggX8_read_Jx4a65c_get_915e3
set_option maxRecDepth 20000 in
theorem ggX8_read_X8_failedCheck : GoodIn wsX8_read wsX8_failedCheck := goodIn_r _ [43, 44, 45, 46, 47, 48, 49, 50, 16, 51, 52, 53, 54, 55, 56, 57, 58, 59, 60, 61, 62, 63, 64, 65, 66, 67, 68, 69, 70, 71, 72, 10, 11, 12, 73, 74, 75, 76, 77, 78, 79, 80, 81, 82, 83, 84, 85, 86, 87, 88, 89, 90, 91, 92, 93, 94, 95, 96, 97, 98, 99, 100, 101, 102, 103, 104, 105, 106, 107, 108, 109, 110, 111, 112, 113, 114, 115, 116, 117, 118, 119, 120, 121, 122, 123, 124, 125, 126, 127, 128, 129, 130, 131, 132, 261, 262, 263, 269, 247, 248, 249, 250, 251, 252, 253, 254, 255, 256, 257, 258, 259, 260, 270, 271, 272, 273, 274, 275, 276] (by decide +kernel) (by decide +kernel)
set_option maxRecDepth 20000 in
theorem gX8_read_X8_failedCheck : GoodIn wsX8_read (wsV RX8 119 RX8 yX8_failedCheck wsX8_failedCheck) := goodIn_app (goodIn_of _ (by decide +kernel)) ggX8_read_X8_failedCheck
set_option maxRecDepth 20000 in
theorem ggX8_read_X8_stoppedBy : GoodIn wsX8_read wsX8_stoppedBy := goodIn_r _ [136, 137, 247, 248, 249, 250, 251, 252, 253, 254, 255, 256, 257, 258, 259, 260] (by decide +kernel) (by decide +kernel)
set_option maxRecDepth 20000 in
theorem gX8_read_X8_stoppedBy : GoodIn wsX8_read (wsV RX8 123 RX8 yX8_stoppedBy wsX8_stoppedBy) := goodIn_app (goodIn_of _ (by decide +kernel)) ggX8_read_X8_stoppedBy
set_option maxRecDepth 20000 in
theorem ggX8_read_X1_note : GoodIn wsX8_read wsX1_note := goodIn_r _ [142, 143, 144, 145, 146, 147, 148, 149, 150, 24, 151, 26, 152, 153, 154, 155, 156, 157, 158, 159, 160, 161, 162, 163, 164, 165, 166, 167, 10, 11, 12, 168, 169, 170, 171, 172, 173, 174, 175, 176, 177, 178, 179, 180, 181, 182, 183, 184, 39, 185, 186, 187, 188, 189, 190, 191, 192, 193, 194, 195, 196, 197, 198, 199, 200, 201, 202, 203, 204, 205, 206, 207, 208, 209, 210, 211, 212, 213, 214, 215, 216, 217, 218, 219, 220, 221, 222, 277, 278, 279, 280, 281, 282, 283, 284, 266, 267, 268] (by decide +kernel) (by decide +kernel)
set_option maxRecDepth 20000 in
theorem gX8_read_X1_note : GoodIn wsX8_read (wsV RX8 131 RX1 yX1_note wsX1_note) := goodIn_app (goodIn_of _ (by decide +kernel)) ggX8_read_X1_note
set_option maxRecDepth 20000 in
theorem ggX8_read_X8_makeStatement : GoodIn wsX8_read wsX8_makeStatement := goodIn_r _ [226, 46, 47, 44, 227, 122, 123, 124, 105, 125, 107, 126, 114, 115, 111, 116, 117, 118, 119, 120, 121, 228, 229, 230, 231, 232, 233, 234, 235, 16, 236, 45, 52, 237, 238, 239, 130, 240, 132, 241, 10, 11, 12, 54, 55, 56, 57, 58, 59, 60, 61, 62, 63, 64, 65, 66, 67, 68, 69, 70, 71, 72, 73, 74, 75, 76, 77, 78, 79, 80, 81, 82, 83, 84, 85, 86, 87, 88, 89, 90, 91, 92, 93, 94, 95, 96, 97, 98, 242, 243, 244, 245, 246, 247, 248, 249, 250, 251, 252, 253, 254, 255, 256, 257, 258, 259, 260, 261, 262, 263, 269, 276, 270, 271, 272, 273, 274, 275] (by decide +kernel) (by decide +kernel)
set_option maxRecDepth 20000 in
theorem gX8_read_X8_makeStatement : GoodIn wsX8_read (wsV RX8 135 RX8 yX8_makeStatement wsX8_makeStatement) := goodIn_app (goodIn_of _ (by decide +kernel)) ggX8_read_X8_makeStatement
theorem dX8_read_0 : decode cX8_read 0 = .ok (.iload_n 1, 1) := by decide +kernel
theorem dX8_read_1 : decode cX8_read 1 = .ok (.invokestatic 108, 3) := by decide +kernel
theorem dX8_read_4 : decode cX8_read 4 = .ok (.ifCond .eq 10, 3) := by decide +kernel
theorem dX8_read_7 : decode cX8_read 7 = .ok (.iload_n 2, 1) := by decide +kernel
theorem dX8_read_8 : decode cX8_read 8 = .ok (.invokestatic 112, 3) := by decide +kernel
theorem dX8_read_11 : decode cX8_read 11 = .ok (.ifCond .ne 6, 3) := by decide +kernel
theorem dX8_read_14 : decode cX8_read 14 = .ok (.bipush (-9), 2) := by decide +kernel
theorem dX8_read_16 : decode cX8_read 16 = .ok (.ireturn, 1) := by decide +kernel
theorem dX8_read_17 : decode cX8_read 17 = .ok (.aload_n 0, 1) := by decide +kernel
theorem dX8_read_18 : decode cX8_read 18 = .ok (.getfield 30, 3) := by decide +kernel
theorem dX8_read_21 : decode cX8_read 21 = .ok (.aload_n 0, 1) := by decide +kernel
theorem dX8_read_22 : decode cX8_read 22 = .ok (.getfield 40, 3) := by decide +kernel
theorem dX8_read_25 : decode cX8_read 25 = .ok (.iload_n 1, 1) := by decide +kernel
theorem dX8_read_26 : decode cX8_read 26 = .ok (.iaload, 1) := by decide +kernel
theorem dX8_read_27 : decode cX8_read 27 = .ok (.invokevirtual 115, 3) := by decide +kernel
theorem dX8_read_30 : decode cX8_read 30 = .ok (.checkcast 73, 3) := by decide +kernel
theorem dX8_read_33 : decode cX8_read 33 = .ok (.astore_n 3, 1) := by decide +kernel
theorem dX8_read_34 : decode cX8_read 34 = .ok (.aload_n 0, 1) := by decide +kernel
theorem dX8_read_35 : decode cX8_read 35 = .ok (.iload_n 1, 1) := by decide +kernel
theorem dX8_read_36 : decode cX8_read 36 = .ok (.aload_n 3, 1) := by decide +kernel
theorem dX8_read_37 : decode cX8_read 37 = .ok (.invokevirtual 119, 3) := by decide +kernel
theorem dX8_read_40 : decode cX8_read 40 = .ok (.istore 4, 2) := by decide +kernel
theorem dX8_read_42 : decode cX8_read 42 = .ok (.iload 4, 2) := by decide +kernel
theorem dX8_read_44 : decode cX8_read 44 = .ok (.ifCond .eq 10, 3) := by decide +kernel
theorem dX8_read_47 : decode cX8_read 47 = .ok (.aload_n 0, 1) := by decide +kernel
theorem dX8_read_48 : decode cX8_read 48 = .ok (.iload 4, 2) := by decide +kernel
theorem dX8_read_50 : decode cX8_read 50 = .ok (.invokevirtual 123, 3) := by decide +kernel
theorem dX8_read_53 : decode cX8_read 53 = .ok (.ireturn, 1) := by decide +kernel
theorem dX8_read_54 : decode cX8_read 54 = .ok (.aload_n 0, 1) := by decide +kernel
theorem dX8_read_55 : decode cX8_read 55 = .ok (.aload_n 3, 1) := by decide +kernel
theorem dX8_read_56 : decode cX8_read 56 = .ok (.getfield 80, 3) := by decide +kernel
theorem dX8_read_59 : decode cX8_read 59 = .ok (.getfield 139, 3) := by decide +kernel
theorem dX8_read_62 : decode cX8_read 62 = .ok (.iload_n 2, 1) := by decide +kernel
theorem dX8_read_63 : decode cX8_read 63 = .ok (.iaload, 1) := by decide +kernel
theorem dX8_read_64 : decode cX8_read 64 = .ok (.putfield 53, 3) := by decide +kernel
theorem dX8_read_67 : decode cX8_read 67 = .ok (.aload_n 3, 1) := by decide +kernel
theorem dX8_read_68 : decode cX8_read 68 = .ok (.getfield 80, 3) := by decide +kernel
theorem dX8_read_71 : decode cX8_read 71 = .ok (.getfield 144, 3) := by decide +kernel
theorem dX8_read_74 : decode cX8_read 74 = .ok (.iload_n 2, 1) := by decide +kernel
theorem dX8_read_75 : decode cX8_read 75 = .ok (.bipush 12, 2) := by decide +kernel
theorem dX8_read_77 : decode cX8_read 77 = .ok (.imul, 1) := by decide +kernel
theorem dX8_read_78 : decode cX8_read 78 = .ok (.aload_n 0, 1) := by decide +kernel
theorem dX8_read_79 : decode cX8_read 79 = .ok (.getfield 50, 3) := by decide +kernel
theorem dX8_read_82 : decode cX8_read 82 = .ok (.iconst 0, 1) := by decide +kernel
theorem dX8_read_83 : decode cX8_read 83 = .ok (.aload_n 0, 1) := by decide +kernel
theorem dX8_read_84 : decode cX8_read 84 = .ok (.getfield 53, 3) := by decide +kernel
theorem dX8_read_87 : decode cX8_read 87 = .ok (.invokestatic 147, 3) := by decide +kernel
theorem dX8_read_90 : decode cX8_read 90 = .ok (.aload_n 0, 1) := by decide +kernel
theorem dX8_read_91 : decode cX8_read 91 = .ok (.getfield 59, 3) := by decide +kernel
theorem dX8_read_94 : decode cX8_read 94 = .ok (.iconst 0, 1) := by decide +kernel
theorem dX8_read_95 : decode cX8_read 95 = .ok (.iload_n 1, 1) := by decide +kernel
theorem dX8_read_96 : decode cX8_read 96 = .ok (.iload_n 2, 1) := by decide +kernel
theorem dX8_read_97 : decode cX8_read 97 = .ok (.aload_n 0, 1) := by decide +kernel
theorem dX8_read_98 : decode cX8_read 98 = .ok (.getfield 50, 3) := by decide +kernel
theorem dX8_read_101 : decode cX8_read 101 = .ok (.aload_n 0, 1) := by decide +kernel
theorem dX8_read_102 : decode cX8_read 102 = .ok (.getfield 53, 3) := by decide +kernel
theorem dX8_read_105 : decode cX8_read 105 = .ok (.invokevirtual 131, 3) := by decide +kernel
theorem dX8_read_108 : decode cX8_read 108 = .ok (.aload_n 0, 1) := by decide +kernel
theorem dX8_read_109 : decode cX8_read 109 = .ok (.iload_n 1, 1) := by decide +kernel
theorem dX8_read_110 : decode cX8_read 110 = .ok (.aload_n 3, 1) := by decide +kernel
theorem dX8_read_111 : decode cX8_read 111 = .ok (.invokevirtual 135, 3) := by decide +kernel
theorem dX8_read_114 : decode cX8_read 114 = .ok (.aload_n 0, 1) := by decide +kernel
theorem dX8_read_115 : decode cX8_read 115 = .ok (.getfield 53, 3) := by decide +kernel
theorem dX8_read_118 : decode cX8_read 118 = .ok (.ireturn, 1) := by decide +kernel
theorem dX8_got_0 : decode cX8_got 0 = .ok (.iload_n 1, 1) := by decide +kernel
theorem dX8_got_1 : decode cX8_got 1 = .ok (.ifCond .lt 20, 3) := by decide +kernel
theorem dX8_got_4 : decode cX8_got 4 = .ok (.iload_n 1, 1) := by decide +kernel
theorem dX8_got_5 : decode cX8_got 5 = .ok (.aload_n 0, 1) := by decide +kernel
theorem dX8_got_6 : decode cX8_got 6 = .ok (.getfield 53, 3) := by decide +kernel
theorem dX8_got_9 : decode cX8_got 9 = .ok (.if_icmp .ge 12, 3) := by decide +kernel
theorem dX8_got_12 : decode cX8_got 12 = .ok (.aload_n 0, 1) := by decide +kernel
theorem dX8_got_13 : decode cX8_got 13 = .ok (.getfield 50, 3) := by decide +kernel
theorem dX8_got_16 : decode cX8_got 16 = .ok (.iload_n 1, 1) := by decide +kernel
theorem dX8_got_17 : decode cX8_got 17 = .ok (.iaload, 1) := by decide +kernel
theorem dX8_got_18 : decode cX8_got 18 = .ok (.goto 4, 3) := by decide +kernel
theorem dX8_got_21 : decode cX8_got 21 = .ok (.iconst (-1), 1) := by decide +kernel
theorem dX8_got_22 : decode cX8_got 22 = .ok (.ireturn, 1) := by decide +kernel
set_option maxRecDepth 20000 in
theorem ggX8_split_X8_isWorld : GoodIn wsX8_split wsX8_isWorld := goodIn_r _ [10, 1, 11, 12, 13, 14, 15, 16, 139, 140, 141, 142, 143, 144, 145, 146, 147, 148, 149, 150, 151, 152, 156, 157, 158] (by decide +kernel) (by decide +kernel)
set_option maxRecDepth 20000 in
theorem gX8_split_X8_isWorld : GoodIn wsX8_split (wsV RX8 153 RX8 yX8_isWorld wsX8_isWorld) := goodIn_app (goodIn_of _ (by decide +kernel)) ggX8_split_X8_isWorld
set_option maxRecDepth 20000 in
theorem ggX8_split_Jx4a65c_size_8abf5 : GoodIn wsX8_split wsJx4a65c_size_8abf5 := goodIn_r _ [15, 16, 156, 157, 158] (by decide +kernel) (by decide +kernel)
set_option maxRecDepth 20000 in
theorem gX8_split_Jx4a65c_size_8abf5 : GoodIn wsX8_split (wsV RX8 156 RJx4a65c yJx4a65c_size_8abf5 wsJx4a65c_size_8abf5) := goodIn_app (goodIn_of _ (by decide +kernel)) ggX8_split_Jx4a65c_size_8abf5
set_option maxRecDepth 20000 in
theorem ggX8_split_X7_init : GoodIn wsX8_split wsX7_init := goodIn_r _ [19, 20, 21, 22, 23, 24, 25, 26, 27, 28, 29, 30, 31, 32, 33, 34, 35, 36, 37, 38, 39, 40, 41, 42, 43, 44, 45, 46, 47, 48, 49, 153, 154, 155, 159, 160, 161, 162] (by decide +kernel) (by decide +kernel)
set_option maxRecDepth 20000 in
theorem gX8_split_X7_init : GoodIn wsX8_split (wsX7_init) := ggX8_split_X7_init
set_option maxRecDepth 20000 in
theorem ggX8_split_Jx4a65c_get_915e3 : GoodIn wsX8_split wsJx4a65c_get_915e3 := goodIn_r _ [53, 16, 54, 55, 56, 57, 58, 59, 60, 61, 62, 63, 64, 14, 65, 66, 156, 157, 158] (by decide +kernel) (by decide +kernel)
set_option maxRecDepth 20000 in
theorem gX8_split_Jx4a65c_get_915e3 : GoodIn wsX8_split (wsV RX8 115 RJx4a65c yJx4a65c_get_915e3 wsJx4a65c_get_915e3) := goodIn_app (goodIn_of _ (by decide +kernel)) ggX8_split_Jx4a65c_get_915e3
set_option maxRecDepth 20000 in
theorem ggX8_split_X7_become : GoodIn wsX8_split wsX7_become := goodIn_r _ [70, 24, 28, 32, 71, 72, 73, 34, 74, 49, 75, 76, 77, 78, 79, 80, 81, 27, 82, 39, 83, 40, 84, 85, 86, 31, 87, 44, 88, 153, 154, 155, 162, 159, 160, 161] (by decide +kernel) (by decide +kernel)
set_option maxRecDepth 20000 in
theorem gX8_split_X7_become : GoodIn wsX8_split (wsV RX8 160 RX7 yX7_become wsX7_become) := goodIn_app (goodIn_of _ (by decide +kernel)) ggX8_split_X7_become
set_option maxRecDepth 20000 in
theorem ggX8_split_Jx4a65c_add_9ea2d : GoodIn wsX8_split wsJx4a65c_add_9ea2d := goodIn_r _ [92, 93, 94, 66, 16, 95, 96, 97, 14, 98, 99, 100, 101, 102, 103, 104, 105, 106, 107, 108, 109, 110, 111, 112, 113, 114, 115, 116, 117, 118, 119, 120, 121, 122, 123, 124, 125, 126, 127, 128, 129, 130, 131, 132, 133, 134, 135, 136, 137, 138, 76, 77, 78, 156, 157, 158] (by decide +kernel) (by decide +kernel)
set_option maxRecDepth 20000 in
theorem gX8_split_Jx4a65c_add_9ea2d : GoodIn wsX8_split (wsV RX8 104 RJx4a65c yJx4a65c_add_9ea2d wsJx4a65c_add_9ea2d) := goodIn_app (goodIn_of _ (by decide +kernel)) ggX8_split_Jx4a65c_add_9ea2d
theorem dX8_split_0 : decode cX8_split 0 = .ok (.aload_n 0, 1) := by decide +kernel
theorem dX8_split_1 : decode cX8_split 1 = .ok (.iload_n 1, 1) := by decide +kernel
theorem dX8_split_2 : decode cX8_split 2 = .ok (.invokevirtual 153, 3) := by decide +kernel
theorem dX8_split_5 : decode cX8_split 5 = .ok (.ifCond .eq 15, 3) := by decide +kernel
theorem dX8_split_8 : decode cX8_split 8 = .ok (.aload_n 0, 1) := by decide +kernel
theorem dX8_split_9 : decode cX8_split 9 = .ok (.getfield 30, 3) := by decide +kernel
theorem dX8_split_12 : decode cX8_split 12 = .ok (.invokevirtual 156, 3) := by decide +kernel
theorem dX8_split_15 : decode cX8_split 15 = .ok (.bipush 6, 2) := by decide +kernel
theorem dX8_split_17 : decode cX8_split 17 = .ok (.if_icmp .lt 5, 3) := by decide +kernel
theorem dX8_split_20 : decode cX8_split 20 = .ok (.iconst (-1), 1) := by decide +kernel
theorem dX8_split_21 : decode cX8_split 21 = .ok (.ireturn, 1) := by decide +kernel
theorem dX8_split_22 : decode cX8_split 22 = .ok (.new 73, 3) := by decide +kernel
theorem dX8_split_25 : decode cX8_split 25 = .ok (.dup, 1) := by decide +kernel
theorem dX8_split_26 : decode cX8_split 26 = .ok (.invokespecial 75, 3) := by decide +kernel
theorem dX8_split_29 : decode cX8_split 29 = .ok (.astore_n 2, 1) := by decide +kernel
theorem dX8_split_30 : decode cX8_split 30 = .ok (.aload_n 2, 1) := by decide +kernel
theorem dX8_split_31 : decode cX8_split 31 = .ok (.aload_n 0, 1) := by decide +kernel
theorem dX8_split_32 : decode cX8_split 32 = .ok (.getfield 30, 3) := by decide +kernel
theorem dX8_split_35 : decode cX8_split 35 = .ok (.iload_n 1, 1) := by decide +kernel
theorem dX8_split_36 : decode cX8_split 36 = .ok (.invokevirtual 115, 3) := by decide +kernel
theorem dX8_split_39 : decode cX8_split 39 = .ok (.checkcast 73, 3) := by decide +kernel
theorem dX8_split_42 : decode cX8_split 42 = .ok (.invokevirtual 160, 3) := by decide +kernel
theorem dX8_split_45 : decode cX8_split 45 = .ok (.aload_n 0, 1) := by decide +kernel
theorem dX8_split_46 : decode cX8_split 46 = .ok (.getfield 30, 3) := by decide +kernel
theorem dX8_split_49 : decode cX8_split 49 = .ok (.aload_n 2, 1) := by decide +kernel
theorem dX8_split_50 : decode cX8_split 50 = .ok (.invokevirtual 104, 3) := by decide +kernel
theorem dX8_split_53 : decode cX8_split 53 = .ok (.pop, 1) := by decide +kernel
theorem dX8_split_54 : decode cX8_split 54 = .ok (.aload_n 0, 1) := by decide +kernel
theorem dX8_split_55 : decode cX8_split 55 = .ok (.getfield 30, 3) := by decide +kernel
theorem dX8_split_58 : decode cX8_split 58 = .ok (.invokevirtual 156, 3) := by decide +kernel
theorem dX8_split_61 : decode cX8_split 61 = .ok (.iconst 1, 1) := by decide +kernel
theorem dX8_split_62 : decode cX8_split 62 = .ok (.isub, 1) := by decide +kernel
theorem dX8_split_63 : decode cX8_split 63 = .ok (.ireturn, 1) := by decide +kernel
set_option maxRecDepth 20000 in
theorem ggX8_show_X8_isClient : GoodIn wsX8_show wsX8_isClient := goodIn_r _ [5] (by decide +kernel) (by decide +kernel)
set_option maxRecDepth 20000 in
theorem gX8_show_X8_isClient : GoodIn wsX8_show (va_wsS RX8 108 yX8_isClient wsX8_isClient) := goodIn_app (goodIn_of _ (by decide +kernel)) ggX8_show_X8_isClient
set_option maxRecDepth 20000 in
theorem ggX8_show_X8_isWorld : GoodIn wsX8_show wsX8_isWorld := goodIn_r _ [9, 10, 11, 12, 13, 14, 15, 16, 17, 18, 19, 20, 21, 22, 23, 24, 25, 26, 27, 28, 29, 30, 31, 32, 33] (by decide +kernel) (by decide +kernel)
set_option maxRecDepth 20000 in
theorem gX8_show_X8_isWorld : GoodIn wsX8_show (wsV RX8 153 RX8 yX8_isWorld wsX8_isWorld) := goodIn_app (goodIn_of _ (by decide +kernel)) ggX8_show_X8_isWorld
theorem dX8_show_0 : decode cX8_show 0 = .ok (.iload_n 1, 1) := by decide +kernel
theorem dX8_show_1 : decode cX8_show 1 = .ok (.invokestatic 108, 3) := by decide +kernel
theorem dX8_show_4 : decode cX8_show 4 = .ok (.ifCond .eq 11, 3) := by decide +kernel
theorem dX8_show_7 : decode cX8_show 7 = .ok (.aload_n 0, 1) := by decide +kernel
theorem dX8_show_8 : decode cX8_show 8 = .ok (.iload_n 2, 1) := by decide +kernel
theorem dX8_show_9 : decode cX8_show 9 = .ok (.invokevirtual 153, 3) := by decide +kernel
theorem dX8_show_12 : decode cX8_show 12 = .ok (.ifCond .ne 5, 3) := by decide +kernel
theorem dX8_show_15 : decode cX8_show 15 = .ok (.iconst (-1), 1) := by decide +kernel
theorem dX8_show_16 : decode cX8_show 16 = .ok (.ireturn, 1) := by decide +kernel
theorem dX8_show_17 : decode cX8_show 17 = .ok (.aload_n 0, 1) := by decide +kernel
theorem dX8_show_18 : decode cX8_show 18 = .ok (.getfield 40, 3) := by decide +kernel
theorem dX8_show_21 : decode cX8_show 21 = .ok (.iload_n 1, 1) := by decide +kernel
theorem dX8_show_22 : decode cX8_show 22 = .ok (.iaload, 1) := by decide +kernel
theorem dX8_show_23 : decode cX8_show 23 = .ok (.istore_n 3, 1) := by decide +kernel
theorem dX8_show_24 : decode cX8_show 24 = .ok (.aload_n 0, 1) := by decide +kernel
theorem dX8_show_25 : decode cX8_show 25 = .ok (.getfield 40, 3) := by decide +kernel
theorem dX8_show_28 : decode cX8_show 28 = .ok (.iload_n 1, 1) := by decide +kernel
theorem dX8_show_29 : decode cX8_show 29 = .ok (.iload_n 2, 1) := by decide +kernel
theorem dX8_show_30 : decode cX8_show 30 = .ok (.iastore, 1) := by decide +kernel
theorem dX8_show_31 : decode cX8_show 31 = .ok (.iload_n 3, 1) := by decide +kernel
theorem dX8_show_32 : decode cX8_show 32 = .ok (.ireturn, 1) := by decide +kernel
set_option maxRecDepth 20000 in
theorem ggX8_graft_X8_isWorld : GoodIn wsX8_graft wsX8_isWorld := goodIn_r _ [9, 1, 10, 11, 12, 13, 14, 15, 46, 47, 48, 49, 50, 51, 52, 53, 54, 55, 56, 57, 58, 59, 63, 64, 65] (by decide +kernel) (by decide +kernel)
set_option maxRecDepth 20000 in
theorem gX8_graft_X8_isWorld : GoodIn wsX8_graft (wsV RX8 153 RX8 yX8_isWorld wsX8_isWorld) := goodIn_app (goodIn_of _ (by decide +kernel)) ggX8_graft_X8_isWorld
set_option maxRecDepth 20000 in
theorem ggX8_graft_X8_isClient : GoodIn wsX8_graft wsX8_isClient := goodIn_r _ [18] (by decide +kernel) (by decide +kernel)
set_option maxRecDepth 20000 in
theorem gX8_graft_X8_isClient : GoodIn wsX8_graft (va_wsS RX8 108 yX8_isClient wsX8_isClient) := goodIn_app (goodIn_of _ (by decide +kernel)) ggX8_graft_X8_isClient
set_option maxRecDepth 20000 in
theorem ggX8_graft_Jx4a65c_get_915e3 : GoodIn wsX8_graft wsJx4a65c_get_915e3 := goodIn_r _ [22, 15, 23, 24, 25, 26, 27, 28, 29, 30, 31, 32, 33, 13, 34, 35, 63, 64, 65] (by decide +kernel) (by decide +kernel)
set_option maxRecDepth 20000 in
theorem gX8_graft_Jx4a65c_get_915e3 : GoodIn wsX8_graft (wsV RX8 115 RJx4a65c yJx4a65c_get_915e3 wsJx4a65c_get_915e3) := goodIn_app (goodIn_of _ (by decide +kernel)) ggX8_graft_Jx4a65c_get_915e3
set_option maxRecDepth 20000 in
theorem ggX8_graft_X5_become : GoodIn wsX8_graft wsX5_become := goodIn_r _ [40, 41, 42, 43, 44, 45, 66] (by decide +kernel) (by decide +kernel)
set_option maxRecDepth 20000 in
theorem gX8_graft_X5_become : GoodIn wsX8_graft (wsV RX8 100 RX5 yX5_become wsX5_become) := goodIn_app (goodIn_of _ (by decide +kernel)) ggX8_graft_X5_become
theorem dX8_graft_0 : decode cX8_graft 0 = .ok (.aload_n 0, 1) := by decide +kernel
theorem dX8_graft_1 : decode cX8_graft 1 = .ok (.iload_n 1, 1) := by decide +kernel
theorem dX8_graft_2 : decode cX8_graft 2 = .ok (.invokevirtual 153, 3) := by decide +kernel
theorem dX8_graft_5 : decode cX8_graft 5 = .ok (.ifCond .eq 18, 3) := by decide +kernel
theorem dX8_graft_8 : decode cX8_graft 8 = .ok (.iload_n 2, 1) := by decide +kernel
theorem dX8_graft_9 : decode cX8_graft 9 = .ok (.invokestatic 108, 3) := by decide +kernel
theorem dX8_graft_12 : decode cX8_graft 12 = .ok (.ifCond .eq 11, 3) := by decide +kernel
theorem dX8_graft_15 : decode cX8_graft 15 = .ok (.aload_n 0, 1) := by decide +kernel
theorem dX8_graft_16 : decode cX8_graft 16 = .ok (.iload_n 3, 1) := by decide +kernel
theorem dX8_graft_17 : decode cX8_graft 17 = .ok (.invokevirtual 153, 3) := by decide +kernel
theorem dX8_graft_20 : decode cX8_graft 20 = .ok (.ifCond .ne 5, 3) := by decide +kernel
theorem dX8_graft_23 : decode cX8_graft 23 = .ok (.iconst 0, 1) := by decide +kernel
theorem dX8_graft_24 : decode cX8_graft 24 = .ok (.ireturn, 1) := by decide +kernel
theorem dX8_graft_25 : decode cX8_graft 25 = .ok (.aload_n 0, 1) := by decide +kernel
theorem dX8_graft_26 : decode cX8_graft 26 = .ok (.getfield 30, 3) := by decide +kernel
theorem dX8_graft_29 : decode cX8_graft 29 = .ok (.iload_n 1, 1) := by decide +kernel
theorem dX8_graft_30 : decode cX8_graft 30 = .ok (.invokevirtual 115, 3) := by decide +kernel
theorem dX8_graft_33 : decode cX8_graft 33 = .ok (.checkcast 73, 3) := by decide +kernel
theorem dX8_graft_36 : decode cX8_graft 36 = .ok (.getfield 97, 3) := by decide +kernel
theorem dX8_graft_39 : decode cX8_graft 39 = .ok (.iload_n 2, 1) := by decide +kernel
theorem dX8_graft_40 : decode cX8_graft 40 = .ok (.aaload, 1) := by decide +kernel
theorem dX8_graft_41 : decode cX8_graft 41 = .ok (.aload_n 0, 1) := by decide +kernel
theorem dX8_graft_42 : decode cX8_graft 42 = .ok (.getfield 30, 3) := by decide +kernel
theorem dX8_graft_45 : decode cX8_graft 45 = .ok (.iload_n 3, 1) := by decide +kernel
theorem dX8_graft_46 : decode cX8_graft 46 = .ok (.invokevirtual 115, 3) := by decide +kernel
theorem dX8_graft_49 : decode cX8_graft 49 = .ok (.checkcast 73, 3) := by decide +kernel
theorem dX8_graft_52 : decode cX8_graft 52 = .ok (.getfield 97, 3) := by decide +kernel
theorem dX8_graft_55 : decode cX8_graft 55 = .ok (.iload_n 2, 1) := by decide +kernel
theorem dX8_graft_56 : decode cX8_graft 56 = .ok (.aaload, 1) := by decide +kernel
theorem dX8_graft_57 : decode cX8_graft 57 = .ok (.invokevirtual 100, 3) := by decide +kernel
theorem dX8_graft_60 : decode cX8_graft 60 = .ok (.aload_n 0, 1) := by decide +kernel
theorem dX8_graft_61 : decode cX8_graft 61 = .ok (.iconst 1, 1) := by decide +kernel
theorem dX8_graft_62 : decode cX8_graft 62 = .ok (.putfield 63, 3) := by decide +kernel
theorem dX8_graft_65 : decode cX8_graft 65 = .ok (.iconst 1, 1) := by decide +kernel
theorem dX8_graft_66 : decode cX8_graft 66 = .ok (.ireturn, 1) := by decide +kernel
set_option maxRecDepth 20000 in
theorem ggX8_poke_X8_isWorld : GoodIn wsX8_poke wsX8_isWorld := goodIn_r _ [10, 1, 11, 12, 13, 14, 15, 16, 43, 44, 45, 46, 47, 48, 49, 50, 51, 52, 53, 54, 55, 56, 61, 62, 63] (by decide +kernel) (by decide +kernel)
set_option maxRecDepth 20000 in
theorem gX8_poke_X8_isWorld : GoodIn wsX8_poke (wsV RX8 153 RX8 yX8_isWorld wsX8_isWorld) := goodIn_app (goodIn_of _ (by decide +kernel)) ggX8_poke_X8_isWorld
set_option maxRecDepth 20000 in
theorem ggX8_poke_X8_isClient : GoodIn wsX8_poke wsX8_isClient := goodIn_r _ [19] (by decide +kernel) (by decide +kernel)
set_option maxRecDepth 20000 in
theorem gX8_poke_X8_isClient : GoodIn wsX8_poke (va_wsS RX8 108 yX8_isClient wsX8_isClient) := goodIn_app (goodIn_of _ (by decide +kernel)) ggX8_poke_X8_isClient
set_option maxRecDepth 20000 in
theorem ggX8_poke_X8_isStatementByte : GoodIn wsX8_poke wsX8_isStatementByte := goodIn_r _ [22] (by decide +kernel) (by decide +kernel)
set_option maxRecDepth 20000 in
theorem gX8_poke_X8_isStatementByte : GoodIn wsX8_poke (va_wsS RX8 163 yX8_isStatementByte wsX8_isStatementByte) := goodIn_app (goodIn_of _ (by decide +kernel)) ggX8_poke_X8_isStatementByte
set_option maxRecDepth 20000 in
theorem ggX8_poke_X8_isMask : GoodIn wsX8_poke wsX8_isMask := goodIn_r _ [25] (by decide +kernel) (by decide +kernel)
set_option maxRecDepth 20000 in
theorem gX8_poke_X8_isMask : GoodIn wsX8_poke (va_wsS RX8 166 yX8_isMask wsX8_isMask) := goodIn_app (goodIn_of _ (by decide +kernel)) ggX8_poke_X8_isMask
set_option maxRecDepth 20000 in
theorem ggX8_poke_Jx4a65c_get_915e3 : GoodIn wsX8_poke wsJx4a65c_get_915e3 := goodIn_r _ [29, 16, 30, 31, 32, 33, 34, 35, 36, 37, 38, 39, 40, 14, 41, 42, 61, 62, 63] (by decide +kernel) (by decide +kernel)
set_option maxRecDepth 20000 in
theorem gX8_poke_Jx4a65c_get_915e3 : GoodIn wsX8_poke (wsV RX8 115 RJx4a65c yJx4a65c_get_915e3 wsJx4a65c_get_915e3) := goodIn_app (goodIn_of _ (by decide +kernel)) ggX8_poke_Jx4a65c_get_915e3
theorem dX8_poke_0 : decode cX8_poke 0 = .ok (.aload_n 0, 1) := by decide +kernel
theorem dX8_poke_1 : decode cX8_poke 1 = .ok (.iload_n 1, 1) := by decide +kernel
theorem dX8_poke_2 : decode cX8_poke 2 = .ok (.invokevirtual 153, 3) := by decide +kernel
theorem dX8_poke_5 : decode cX8_poke 5 = .ok (.ifCond .eq 25, 3) := by decide +kernel
theorem dX8_poke_8 : decode cX8_poke 8 = .ok (.iload_n 2, 1) := by decide +kernel
theorem dX8_poke_9 : decode cX8_poke 9 = .ok (.invokestatic 108, 3) := by decide +kernel
theorem dX8_poke_12 : decode cX8_poke 12 = .ok (.ifCond .eq 18, 3) := by decide +kernel
theorem dX8_poke_15 : decode cX8_poke 15 = .ok (.iload_n 3, 1) := by decide +kernel
theorem dX8_poke_16 : decode cX8_poke 16 = .ok (.invokestatic 163, 3) := by decide +kernel
theorem dX8_poke_19 : decode cX8_poke 19 = .ok (.ifCond .eq 11, 3) := by decide +kernel
theorem dX8_poke_22 : decode cX8_poke 22 = .ok (.iload 4, 2) := by decide +kernel
theorem dX8_poke_24 : decode cX8_poke 24 = .ok (.invokestatic 166, 3) := by decide +kernel
theorem dX8_poke_27 : decode cX8_poke 27 = .ok (.ifCond .ne 5, 3) := by decide +kernel
theorem dX8_poke_30 : decode cX8_poke 30 = .ok (.iconst 0, 1) := by decide +kernel
theorem dX8_poke_31 : decode cX8_poke 31 = .ok (.ireturn, 1) := by decide +kernel
theorem dX8_poke_32 : decode cX8_poke 32 = .ok (.aload_n 0, 1) := by decide +kernel
theorem dX8_poke_33 : decode cX8_poke 33 = .ok (.getfield 30, 3) := by decide +kernel
theorem dX8_poke_36 : decode cX8_poke 36 = .ok (.iload_n 1, 1) := by decide +kernel
theorem dX8_poke_37 : decode cX8_poke 37 = .ok (.invokevirtual 115, 3) := by decide +kernel
theorem dX8_poke_40 : decode cX8_poke 40 = .ok (.checkcast 73, 3) := by decide +kernel
theorem dX8_poke_43 : decode cX8_poke 43 = .ok (.getfield 97, 3) := by decide +kernel
theorem dX8_poke_46 : decode cX8_poke 46 = .ok (.iload_n 2, 1) := by decide +kernel
theorem dX8_poke_47 : decode cX8_poke 47 = .ok (.aaload, 1) := by decide +kernel
theorem dX8_poke_48 : decode cX8_poke 48 = .ok (.getfield 169, 3) := by decide +kernel
theorem dX8_poke_51 : decode cX8_poke 51 = .ok (.iload_n 3, 1) := by decide +kernel
theorem dX8_poke_52 : decode cX8_poke 52 = .ok (.dup2, 1) := by decide +kernel
theorem dX8_poke_53 : decode cX8_poke 53 = .ok (.iaload, 1) := by decide +kernel
theorem dX8_poke_54 : decode cX8_poke 54 = .ok (.iload 4, 2) := by decide +kernel
theorem dX8_poke_56 : decode cX8_poke 56 = .ok (.ixor, 1) := by decide +kernel
theorem dX8_poke_57 : decode cX8_poke 57 = .ok (.iastore, 1) := by decide +kernel
theorem dX8_poke_58 : decode cX8_poke 58 = .ok (.aload_n 0, 1) := by decide +kernel
theorem dX8_poke_59 : decode cX8_poke 59 = .ok (.iconst 1, 1) := by decide +kernel
theorem dX8_poke_60 : decode cX8_poke 60 = .ok (.putfield 63, 3) := by decide +kernel
theorem dX8_poke_63 : decode cX8_poke 63 = .ok (.iconst 1, 1) := by decide +kernel
theorem dX8_poke_64 : decode cX8_poke 64 = .ok (.ireturn, 1) := by decide +kernel
set_option maxRecDepth 20000 in
theorem ggX8_spoil_X8_isWorld : GoodIn wsX8_spoil wsX8_isWorld := goodIn_r _ [11, 1, 12, 13, 14, 15, 16, 17, 102, 103, 104, 105, 106, 107, 108, 109, 110, 111, 112, 113, 114, 115, 121, 122, 123] (by decide +kernel) (by decide +kernel)
set_option maxRecDepth 20000 in
theorem gX8_spoil_X8_isWorld : GoodIn wsX8_spoil (wsV RX8 153 RX8 yX8_isWorld wsX8_isWorld) := goodIn_app (goodIn_of _ (by decide +kernel)) ggX8_spoil_X8_isWorld
set_option maxRecDepth 20000 in
theorem ggX8_spoil_X8_isFile : GoodIn wsX8_spoil wsX8_isFile := goodIn_r _ [20] (by decide +kernel) (by decide +kernel)
set_option maxRecDepth 20000 in
theorem gX8_spoil_X8_isFile : GoodIn wsX8_spoil (va_wsS RX8 112 yX8_isFile wsX8_isFile) := goodIn_app (goodIn_of _ (by decide +kernel)) ggX8_spoil_X8_isFile
set_option maxRecDepth 20000 in
theorem ggX8_spoil_X8_isMask : GoodIn wsX8_spoil wsX8_isMask := goodIn_r _ [23] (by decide +kernel) (by decide +kernel)
set_option maxRecDepth 20000 in
theorem gX8_spoil_X8_isMask : GoodIn wsX8_spoil (va_wsS RX8 166 yX8_isMask wsX8_isMask) := goodIn_app (goodIn_of _ (by decide +kernel)) ggX8_spoil_X8_isMask
set_option maxRecDepth 20000 in
theorem ggX8_spoil_Jx4a65c_get_915e3 : GoodIn wsX8_spoil wsJx4a65c_get_915e3 := goodIn_r _ [27, 17, 28, 29, 30, 31, 32, 33, 34, 35, 36, 37, 38, 15, 39, 40, 121, 122, 123] (by decide +kernel) (by decide +kernel)
set_option maxRecDepth 20000 in
theorem gX8_spoil_Jx4a65c_get_915e3 : GoodIn wsX8_spoil (wsV RX8 115 RJx4a65c yJx4a65c_get_915e3 wsJx4a65c_get_915e3) := goodIn_app (goodIn_of _ (by decide +kernel)) ggX8_spoil_Jx4a65c_get_915e3
set_option maxRecDepth 20000 in
theorem ggX8_spoil_X7_flip : GoodIn wsX8_spoil wsX7_flip := goodIn_r _ [45, 46, 47, 48, 49, 50, 51, 52, 53, 54, 55, 56, 57, 58, 59, 60, 61, 62, 63, 64, 65, 66, 67, 68, 69, 70, 71, 72, 73, 74, 75, 76, 77, 78, 79, 80, 81, 82, 83, 84, 85, 86, 87, 88, 89, 90, 91, 92, 93, 94, 95, 96, 97, 98, 99, 100, 101, 116, 117, 118, 119, 120, 124, 125, 126, 127, 128] (by decide +kernel) (by decide +kernel)
set_option maxRecDepth 20000 in
theorem gX8_spoil_X7_flip : GoodIn wsX8_spoil (wsV RX8 172 RX7 yX7_flip wsX7_flip) := goodIn_app (goodIn_of _ (by decide +kernel)) ggX8_spoil_X7_flip
theorem dX8_spoil_0 : decode cX8_spoil 0 = .ok (.aload_n 0, 1) := by decide +kernel
theorem dX8_spoil_1 : decode cX8_spoil 1 = .ok (.iload_n 1, 1) := by decide +kernel
theorem dX8_spoil_2 : decode cX8_spoil 2 = .ok (.invokevirtual 153, 3) := by decide +kernel
theorem dX8_spoil_5 : decode cX8_spoil 5 = .ok (.ifCond .eq 18, 3) := by decide +kernel
theorem dX8_spoil_8 : decode cX8_spoil 8 = .ok (.iload_n 2, 1) := by decide +kernel
theorem dX8_spoil_9 : decode cX8_spoil 9 = .ok (.invokestatic 112, 3) := by decide +kernel
theorem dX8_spoil_12 : decode cX8_spoil 12 = .ok (.ifCond .eq 11, 3) := by decide +kernel
theorem dX8_spoil_15 : decode cX8_spoil 15 = .ok (.iload 4, 2) := by decide +kernel
theorem dX8_spoil_17 : decode cX8_spoil 17 = .ok (.invokestatic 166, 3) := by decide +kernel
theorem dX8_spoil_20 : decode cX8_spoil 20 = .ok (.ifCond .ne 5, 3) := by decide +kernel
theorem dX8_spoil_23 : decode cX8_spoil 23 = .ok (.iconst 0, 1) := by decide +kernel
theorem dX8_spoil_24 : decode cX8_spoil 24 = .ok (.ireturn, 1) := by decide +kernel
theorem dX8_spoil_25 : decode cX8_spoil 25 = .ok (.aload_n 0, 1) := by decide +kernel
theorem dX8_spoil_26 : decode cX8_spoil 26 = .ok (.getfield 30, 3) := by decide +kernel
theorem dX8_spoil_29 : decode cX8_spoil 29 = .ok (.iload_n 1, 1) := by decide +kernel
theorem dX8_spoil_30 : decode cX8_spoil 30 = .ok (.invokevirtual 115, 3) := by decide +kernel
theorem dX8_spoil_33 : decode cX8_spoil 33 = .ok (.checkcast 73, 3) := by decide +kernel
theorem dX8_spoil_36 : decode cX8_spoil 36 = .ok (.astore 5, 2) := by decide +kernel
theorem dX8_spoil_38 : decode cX8_spoil 38 = .ok (.iload_n 3, 1) := by decide +kernel
theorem dX8_spoil_39 : decode cX8_spoil 39 = .ok (.ifCond .lt 17, 3) := by decide +kernel
theorem dX8_spoil_42 : decode cX8_spoil 42 = .ok (.iload_n 3, 1) := by decide +kernel
theorem dX8_spoil_43 : decode cX8_spoil 43 = .ok (.aload 5, 2) := by decide +kernel
theorem dX8_spoil_45 : decode cX8_spoil 45 = .ok (.getfield 80, 3) := by decide +kernel
theorem dX8_spoil_48 : decode cX8_spoil 48 = .ok (.getfield 139, 3) := by decide +kernel
theorem dX8_spoil_51 : decode cX8_spoil 51 = .ok (.iload_n 2, 1) := by decide +kernel
theorem dX8_spoil_52 : decode cX8_spoil 52 = .ok (.iaload, 1) := by decide +kernel
theorem dX8_spoil_53 : decode cX8_spoil 53 = .ok (.if_icmp .lt 5, 3) := by decide +kernel
theorem dX8_spoil_56 : decode cX8_spoil 56 = .ok (.iconst 0, 1) := by decide +kernel
theorem dX8_spoil_57 : decode cX8_spoil 57 = .ok (.ireturn, 1) := by decide +kernel
theorem dX8_spoil_58 : decode cX8_spoil 58 = .ok (.aload 5, 2) := by decide +kernel
theorem dX8_spoil_60 : decode cX8_spoil 60 = .ok (.iload_n 2, 1) := by decide +kernel
theorem dX8_spoil_61 : decode cX8_spoil 61 = .ok (.iload_n 3, 1) := by decide +kernel
theorem dX8_spoil_62 : decode cX8_spoil 62 = .ok (.iload 4, 2) := by decide +kernel
theorem dX8_spoil_64 : decode cX8_spoil 64 = .ok (.aload_n 0, 1) := by decide +kernel
theorem dX8_spoil_65 : decode cX8_spoil 65 = .ok (.getfield 10, 3) := by decide +kernel
theorem dX8_spoil_68 : decode cX8_spoil 68 = .ok (.invokevirtual 172, 3) := by decide +kernel
theorem dX8_spoil_71 : decode cX8_spoil 71 = .ok (.aload_n 0, 1) := by decide +kernel
theorem dX8_spoil_72 : decode cX8_spoil 72 = .ok (.iconst 1, 1) := by decide +kernel
theorem dX8_spoil_73 : decode cX8_spoil 73 = .ok (.putfield 63, 3) := by decide +kernel
theorem dX8_spoil_76 : decode cX8_spoil 76 = .ok (.iconst 1, 1) := by decide +kernel
theorem dX8_spoil_77 : decode cX8_spoil 77 = .ok (.ireturn, 1) := by decide +kernel
set_option maxRecDepth 20000 in
theorem ggX8_exchange_X8_isClient : GoodIn wsX8_exchange wsX8_isClient := goodIn_r _ [5] (by decide +kernel) (by decide +kernel)
set_option maxRecDepth 20000 in
theorem gX8_exchange_X8_isClient : GoodIn wsX8_exchange (va_wsS RX8 108 yX8_isClient wsX8_isClient) := goodIn_app (goodIn_of _ (by decide +kernel)) ggX8_exchange_X8_isClient
set_option maxRecDepth 20000 in
theorem ggX8_exchange_X5_isInLineWith : GoodIn wsX8_exchange wsX5_isInLineWith := goodIn_r _ [10, 11, 12, 13, 9, 14, 15, 16, 17, 18, 19, 34] (by decide +kernel) (by decide +kernel)
set_option maxRecDepth 20000 in
theorem gX8_exchange_X5_isInLineWith : GoodIn wsX8_exchange (wsV RX8 176 RX5 yX5_isInLineWith wsX5_isInLineWith) := goodIn_app (goodIn_of _ (by decide +kernel)) ggX8_exchange_X5_isInLineWith
theorem dX8_exchange_0 : decode cX8_exchange 0 = .ok (.iload_n 1, 1) := by decide +kernel
theorem dX8_exchange_1 : decode cX8_exchange 1 = .ok (.invokestatic 108, 3) := by decide +kernel
theorem dX8_exchange_4 : decode cX8_exchange 4 = .ok (.ifCond .eq 15, 3) := by decide +kernel
theorem dX8_exchange_7 : decode cX8_exchange 7 = .ok (.iload_n 2, 1) := by decide +kernel
theorem dX8_exchange_8 : decode cX8_exchange 8 = .ok (.invokestatic 108, 3) := by decide +kernel
theorem dX8_exchange_11 : decode cX8_exchange 11 = .ok (.ifCond .eq 8, 3) := by decide +kernel
theorem dX8_exchange_14 : decode cX8_exchange 14 = .ok (.iload_n 1, 1) := by decide +kernel
theorem dX8_exchange_15 : decode cX8_exchange 15 = .ok (.iload_n 2, 1) := by decide +kernel
theorem dX8_exchange_16 : decode cX8_exchange 16 = .ok (.if_icmp .ne 5, 3) := by decide +kernel
theorem dX8_exchange_19 : decode cX8_exchange 19 = .ok (.iconst (-1), 1) := by decide +kernel
theorem dX8_exchange_20 : decode cX8_exchange 20 = .ok (.ireturn, 1) := by decide +kernel
theorem dX8_exchange_21 : decode cX8_exchange 21 = .ok (.aload_n 0, 1) := by decide +kernel
theorem dX8_exchange_22 : decode cX8_exchange 22 = .ok (.getfield 36, 3) := by decide +kernel
theorem dX8_exchange_25 : decode cX8_exchange 25 = .ok (.iload_n 1, 1) := by decide +kernel
theorem dX8_exchange_26 : decode cX8_exchange 26 = .ok (.aaload, 1) := by decide +kernel
theorem dX8_exchange_27 : decode cX8_exchange 27 = .ok (.aload_n 0, 1) := by decide +kernel
theorem dX8_exchange_28 : decode cX8_exchange 28 = .ok (.getfield 36, 3) := by decide +kernel
theorem dX8_exchange_31 : decode cX8_exchange 31 = .ok (.iload_n 2, 1) := by decide +kernel
theorem dX8_exchange_32 : decode cX8_exchange 32 = .ok (.aaload, 1) := by decide +kernel
theorem dX8_exchange_33 : decode cX8_exchange 33 = .ok (.invokevirtual 176, 3) := by decide +kernel
theorem dX8_exchange_36 : decode cX8_exchange 36 = .ok (.ifCond .eq 7, 3) := by decide +kernel
theorem dX8_exchange_39 : decode cX8_exchange 39 = .ok (.iconst 0, 1) := by decide +kernel
theorem dX8_exchange_40 : decode cX8_exchange 40 = .ok (.goto 4, 3) := by decide +kernel
theorem dX8_exchange_43 : decode cX8_exchange 43 = .ok (.iconst 1, 1) := by decide +kernel
theorem dX8_exchange_44 : decode cX8_exchange 44 = .ok (.ireturn, 1) := by decide +kernel
set_option maxRecDepth 20000 in
theorem ggX8_statement_X8_isClient : GoodIn wsX8_statement wsX8_isClient := goodIn_r _ [9] (by decide +kernel) (by decide +kernel)
set_option maxRecDepth 20000 in
theorem gX8_statement_X8_isClient : GoodIn wsX8_statement (va_wsS RX8 108 yX8_isClient wsX8_isClient) := goodIn_app (goodIn_of _ (by decide +kernel)) ggX8_statement_X8_isClient
set_option maxRecDepth 20000 in
theorem ggX8_statement_X8_isStatementByte : GoodIn wsX8_statement wsX8_isStatementByte := goodIn_r _ [12] (by decide +kernel) (by decide +kernel)
set_option maxRecDepth 20000 in
theorem gX8_statement_X8_isStatementByte : GoodIn wsX8_statement (va_wsS RX8 163 yX8_isStatementByte wsX8_isStatementByte) := goodIn_app (goodIn_of _ (by decide +kernel)) ggX8_statement_X8_isStatementByte
set_option maxRecDepth 20000 in
theorem ggX8_statement_X8_isWorld : GoodIn wsX8_statement wsX8_isWorld := goodIn_r _ [16, 3, 17, 18, 19, 20, 21, 22, 40, 41, 42, 43, 44, 45, 46, 47, 48, 49, 50, 51, 52, 53, 58, 59, 60] (by decide +kernel) (by decide +kernel)
set_option maxRecDepth 20000 in
theorem gX8_statement_X8_isWorld : GoodIn wsX8_statement (wsV RX8 153 RX8 yX8_isWorld wsX8_isWorld) := goodIn_app (goodIn_of _ (by decide +kernel)) ggX8_statement_X8_isWorld
set_option maxRecDepth 20000 in
theorem ggX8_statement_Jx4a65c_get_915e3 : GoodIn wsX8_statement wsJx4a65c_get_915e3 := goodIn_r _ [26, 22, 27, 28, 29, 30, 31, 32, 33, 34, 35, 36, 37, 20, 38, 39, 58, 59, 60] (by decide +kernel) (by decide +kernel)
set_option maxRecDepth 20000 in
theorem gX8_statement_Jx4a65c_get_915e3 : GoodIn wsX8_statement (wsV RX8 115 RJx4a65c yJx4a65c_get_915e3 wsJx4a65c_get_915e3) := goodIn_app (goodIn_of _ (by decide +kernel)) ggX8_statement_Jx4a65c_get_915e3
theorem dX8_statement_0 : decode cX8_statement 0 = .ok (.iload_n 2, 1) := by decide +kernel
theorem dX8_statement_1 : decode cX8_statement 1 = .ok (.invokestatic 108, 3) := by decide +kernel
theorem dX8_statement_4 : decode cX8_statement 4 = .ok (.ifCond .eq 10, 3) := by decide +kernel
theorem dX8_statement_7 : decode cX8_statement 7 = .ok (.iload_n 3, 1) := by decide +kernel
theorem dX8_statement_8 : decode cX8_statement 8 = .ok (.invokestatic 163, 3) := by decide +kernel
theorem dX8_statement_11 : decode cX8_statement 11 = .ok (.ifCond .ne 5, 3) := by decide +kernel
theorem dX8_statement_14 : decode cX8_statement 14 = .ok (.iconst (-1), 1) := by decide +kernel
theorem dX8_statement_15 : decode cX8_statement 15 = .ok (.ireturn, 1) := by decide +kernel
theorem dX8_statement_16 : decode cX8_statement 16 = .ok (.iload_n 1, 1) := by decide +kernel
theorem dX8_statement_17 : decode cX8_statement 17 = .ok (.iconst (-1), 1) := by decide +kernel
theorem dX8_statement_18 : decode cX8_statement 18 = .ok (.if_icmp .ne 15, 3) := by decide +kernel
theorem dX8_statement_21 : decode cX8_statement 21 = .ok (.aload_n 0, 1) := by decide +kernel
theorem dX8_statement_22 : decode cX8_statement 22 = .ok (.getfield 36, 3) := by decide +kernel
theorem dX8_statement_25 : decode cX8_statement 25 = .ok (.iload_n 2, 1) := by decide +kernel
theorem dX8_statement_26 : decode cX8_statement 26 = .ok (.aaload, 1) := by decide +kernel
theorem dX8_statement_27 : decode cX8_statement 27 = .ok (.getfield 169, 3) := by decide +kernel
theorem dX8_statement_30 : decode cX8_statement 30 = .ok (.iload_n 3, 1) := by decide +kernel
theorem dX8_statement_31 : decode cX8_statement 31 = .ok (.iaload, 1) := by decide +kernel
theorem dX8_statement_32 : decode cX8_statement 32 = .ok (.ireturn, 1) := by decide +kernel
theorem dX8_statement_33 : decode cX8_statement 33 = .ok (.aload_n 0, 1) := by decide +kernel
theorem dX8_statement_34 : decode cX8_statement 34 = .ok (.iload_n 1, 1) := by decide +kernel
theorem dX8_statement_35 : decode cX8_statement 35 = .ok (.invokevirtual 153, 3) := by decide +kernel
theorem dX8_statement_38 : decode cX8_statement 38 = .ok (.ifCond .eq 27, 3) := by decide +kernel
theorem dX8_statement_41 : decode cX8_statement 41 = .ok (.aload_n 0, 1) := by decide +kernel
theorem dX8_statement_42 : decode cX8_statement 42 = .ok (.getfield 30, 3) := by decide +kernel
theorem dX8_statement_45 : decode cX8_statement 45 = .ok (.iload_n 1, 1) := by decide +kernel
theorem dX8_statement_46 : decode cX8_statement 46 = .ok (.invokevirtual 115, 3) := by decide +kernel
theorem dX8_statement_49 : decode cX8_statement 49 = .ok (.checkcast 73, 3) := by decide +kernel
theorem dX8_statement_52 : decode cX8_statement 52 = .ok (.getfield 97, 3) := by decide +kernel
theorem dX8_statement_55 : decode cX8_statement 55 = .ok (.iload_n 2, 1) := by decide +kernel
theorem dX8_statement_56 : decode cX8_statement 56 = .ok (.aaload, 1) := by decide +kernel
theorem dX8_statement_57 : decode cX8_statement 57 = .ok (.getfield 169, 3) := by decide +kernel
theorem dX8_statement_60 : decode cX8_statement 60 = .ok (.iload_n 3, 1) := by decide +kernel
theorem dX8_statement_61 : decode cX8_statement 61 = .ok (.iaload, 1) := by decide +kernel
theorem dX8_statement_62 : decode cX8_statement 62 = .ok (.goto 4, 3) := by decide +kernel
end
section
theorem dX8_statement_65 : decode cX8_statement 65 = .ok (.iconst (-1), 1) := by decide +kernel
theorem dX8_statement_66 : decode cX8_statement 66 = .ok (.ireturn, 1) := by decide +kernel
set_option maxRecDepth 20000 in
theorem ggX8_seen_X8_isClient : GoodIn wsX8_seen wsX8_isClient := goodIn_r _ [5] (by decide +kernel) (by decide +kernel)
set_option maxRecDepth 20000 in
theorem gX8_seen_X8_isClient : GoodIn wsX8_seen (va_wsS RX8 108 yX8_isClient wsX8_isClient) := goodIn_app (goodIn_of _ (by decide +kernel)) ggX8_seen_X8_isClient
set_option maxRecDepth 20000 in
theorem ggX8_seen_X5_countOf : GoodIn wsX8_seen wsX5_countOf := goodIn_r _ [10, 11, 26] (by decide +kernel) (by decide +kernel)
set_option maxRecDepth 20000 in
theorem gX8_seen_X5_countOf : GoodIn wsX8_seen (wsV RX8 180 RX5 yX5_countOf wsX5_countOf) := goodIn_app (goodIn_of _ (by decide +kernel)) ggX8_seen_X5_countOf
theorem dX8_seen_0 : decode cX8_seen 0 = .ok (.iload_n 1, 1) := by decide +kernel
theorem dX8_seen_1 : decode cX8_seen 1 = .ok (.invokestatic 108, 3) := by decide +kernel
theorem dX8_seen_4 : decode cX8_seen 4 = .ok (.ifCond .eq 24, 3) := by decide +kernel
theorem dX8_seen_7 : decode cX8_seen 7 = .ok (.iload_n 2, 1) := by decide +kernel
theorem dX8_seen_8 : decode cX8_seen 8 = .ok (.invokestatic 108, 3) := by decide +kernel
theorem dX8_seen_11 : decode cX8_seen 11 = .ok (.ifCond .eq 17, 3) := by decide +kernel
theorem dX8_seen_14 : decode cX8_seen 14 = .ok (.aload_n 0, 1) := by decide +kernel
theorem dX8_seen_15 : decode cX8_seen 15 = .ok (.getfield 36, 3) := by decide +kernel
theorem dX8_seen_18 : decode cX8_seen 18 = .ok (.iload_n 1, 1) := by decide +kernel
theorem dX8_seen_19 : decode cX8_seen 19 = .ok (.aaload, 1) := by decide +kernel
theorem dX8_seen_20 : decode cX8_seen 20 = .ok (.iload_n 2, 1) := by decide +kernel
theorem dX8_seen_21 : decode cX8_seen 21 = .ok (.invokevirtual 180, 3) := by decide +kernel
theorem dX8_seen_24 : decode cX8_seen 24 = .ok (.l2i, 1) := by decide +kernel
theorem dX8_seen_25 : decode cX8_seen 25 = .ok (.goto 4, 3) := by decide +kernel
theorem dX8_seen_28 : decode cX8_seen 28 = .ok (.iconst (-1), 1) := by decide +kernel
theorem dX8_seen_29 : decode cX8_seen 29 = .ok (.ireturn, 1) := by decide +kernel
set_option maxRecDepth 20000 in
theorem ggX8_digest_X4_start : GoodIn wsX8_digest wsX4_start := goodIn_r _ [10, 11, 12, 13, 14, 15, 16, 17, 18, 71, 72, 73, 74] (by decide +kernel) (by decide +kernel)
set_option maxRecDepth 20000 in
theorem gX8_digest_X4_start : GoodIn wsX8_digest (wsV RX8 184 RX4 yX4_start wsX4_start) := goodIn_app (goodIn_of _ (by decide +kernel)) ggX8_digest_X4_start
set_option maxRecDepth 20000 in
theorem ggX8_digest_X4_takeRow : GoodIn wsX8_digest wsX4_takeRow := goodIn_r _ [22, 23, 24, 25, 9, 26, 27, 17, 18, 28, 29, 30, 31, 32, 33, 34, 35, 12, 36, 71, 72, 73, 74] (by decide +kernel) (by decide +kernel)
set_option maxRecDepth 20000 in
theorem gX8_digest_X4_takeRow : GoodIn wsX8_digest (wsV RX8 187 RX4 yX4_takeRow wsX4_takeRow) := goodIn_app (goodIn_of _ (by decide +kernel)) ggX8_digest_X4_takeRow
set_option maxRecDepth 20000 in
theorem ggX8_digest_X4_finish : GoodIn wsX8_digest wsX4_finish := goodIn_r _ [40, 41, 18, 17, 12, 23, 24, 25, 9, 26, 27, 28, 29, 30, 31, 32, 33, 34, 35, 36, 71, 72, 73, 74] (by decide +kernel) (by decide +kernel)
set_option maxRecDepth 20000 in
theorem gX8_digest_X4_finish : GoodIn wsX8_digest (wsV RX8 191 RX4 yX4_finish wsX4_finish) := goodIn_app (goodIn_of _ (by decide +kernel)) ggX8_digest_X4_finish
set_option maxRecDepth 20000 in
theorem ggX8_digest_X2_make : GoodIn wsX8_digest wsX2_make := goodIn_r _ [46, 47, 48, 49, 50, 51, 45, 52, 53, 7, 8, 9, 10, 11, 12, 13, 14, 15, 16, 17, 18, 54, 24, 25, 26, 27, 28, 29, 30, 31, 32, 33, 34, 35, 36, 55, 20, 21, 22, 23, 56, 38, 39, 40, 41, 75, 76, 71, 72, 73, 74] (by decide +kernel) (by decide +kernel)
set_option maxRecDepth 20000 in
theorem gX8_digest_X2_make : GoodIn wsX8_digest (wsV RX8 195 RX2 yX2_make wsX2_make) := goodIn_app (goodIn_of _ (by decide +kernel)) ggX8_digest_X2_make
theorem dX8_digest_0 : decode cX8_digest 0 = .ok (.iload_n 1, 1) := by decide +kernel
theorem dX8_digest_1 : decode cX8_digest 1 = .ok (.ifCond .lt 18, 3) := by decide +kernel
theorem dX8_digest_4 : decode cX8_digest 4 = .ok (.iload_n 1, 1) := by decide +kernel
theorem dX8_digest_5 : decode cX8_digest 5 = .ok (.iconst 1, 1) := by decide +kernel
theorem dX8_digest_6 : decode cX8_digest 6 = .ok (.if_icmp .gt 13, 3) := by decide +kernel
theorem dX8_digest_9 : decode cX8_digest 9 = .ok (.iload_n 2, 1) := by decide +kernel
theorem dX8_digest_10 : decode cX8_digest 10 = .ok (.ifCond .lt 9, 3) := by decide +kernel
theorem dX8_digest_13 : decode cX8_digest 13 = .ok (.iload_n 2, 1) := by decide +kernel
theorem dX8_digest_14 : decode cX8_digest 14 = .ok (.bipush 32, 2) := by decide +kernel
theorem dX8_digest_16 : decode cX8_digest 16 = .ok (.if_icmp .lt 5, 3) := by decide +kernel
theorem dX8_digest_19 : decode cX8_digest 19 = .ok (.iconst (-1), 1) := by decide +kernel
theorem dX8_digest_20 : decode cX8_digest 20 = .ok (.ireturn, 1) := by decide +kernel
theorem dX8_digest_21 : decode cX8_digest 21 = .ok (.iload_n 1, 1) := by decide +kernel
theorem dX8_digest_22 : decode cX8_digest 22 = .ok (.ifCond .ne 41, 3) := by decide +kernel
theorem dX8_digest_25 : decode cX8_digest 25 = .ok (.aload_n 0, 1) := by decide +kernel
theorem dX8_digest_26 : decode cX8_digest 26 = .ok (.getfield 10, 3) := by decide +kernel
theorem dX8_digest_29 : decode cX8_digest 29 = .ok (.invokevirtual 184, 3) := by decide +kernel
theorem dX8_digest_32 : decode cX8_digest 32 = .ok (.aload_n 0, 1) := by decide +kernel
theorem dX8_digest_33 : decode cX8_digest 33 = .ok (.getfield 10, 3) := by decide +kernel
theorem dX8_digest_36 : decode cX8_digest 36 = .ok (.aload_n 0, 1) := by decide +kernel
theorem dX8_digest_37 : decode cX8_digest 37 = .ok (.getfield 43, 3) := by decide +kernel
theorem dX8_digest_40 : decode cX8_digest 40 = .ok (.iconst 0, 1) := by decide +kernel
theorem dX8_digest_41 : decode cX8_digest 41 = .ok (.aload_n 0, 1) := by decide +kernel
theorem dX8_digest_42 : decode cX8_digest 42 = .ok (.getfield 46, 3) := by decide +kernel
theorem dX8_digest_45 : decode cX8_digest 45 = .ok (.invokevirtual 187, 3) := by decide +kernel
theorem dX8_digest_48 : decode cX8_digest 48 = .ok (.aload_n 0, 1) := by decide +kernel
theorem dX8_digest_49 : decode cX8_digest 49 = .ok (.getfield 10, 3) := by decide +kernel
theorem dX8_digest_52 : decode cX8_digest 52 = .ok (.aload_n 0, 1) := by decide +kernel
theorem dX8_digest_53 : decode cX8_digest 53 = .ok (.getfield 23, 3) := by decide +kernel
theorem dX8_digest_56 : decode cX8_digest 56 = .ok (.iconst 0, 1) := by decide +kernel
theorem dX8_digest_57 : decode cX8_digest 57 = .ok (.invokevirtual 191, 3) := by decide +kernel
theorem dX8_digest_60 : decode cX8_digest 60 = .ok (.goto 23, 3) := by decide +kernel
theorem dX8_digest_63 : decode cX8_digest 63 = .ok (.aload_n 0, 1) := by decide +kernel
theorem dX8_digest_64 : decode cX8_digest 64 = .ok (.getfield 19, 3) := by decide +kernel
theorem dX8_digest_67 : decode cX8_digest 67 = .ok (.aload_n 0, 1) := by decide +kernel
theorem dX8_digest_68 : decode cX8_digest 68 = .ok (.getfield 43, 3) := by decide +kernel
theorem dX8_digest_71 : decode cX8_digest 71 = .ok (.aload_n 0, 1) := by decide +kernel
theorem dX8_digest_72 : decode cX8_digest 72 = .ok (.getfield 46, 3) := by decide +kernel
theorem dX8_digest_75 : decode cX8_digest 75 = .ok (.aload_n 0, 1) := by decide +kernel
theorem dX8_digest_76 : decode cX8_digest 76 = .ok (.getfield 23, 3) := by decide +kernel
theorem dX8_digest_79 : decode cX8_digest 79 = .ok (.iconst 0, 1) := by decide +kernel
theorem dX8_digest_80 : decode cX8_digest 80 = .ok (.invokevirtual 195, 3) := by decide +kernel
theorem dX8_digest_83 : decode cX8_digest 83 = .ok (.aload_n 0, 1) := by decide +kernel
theorem dX8_digest_84 : decode cX8_digest 84 = .ok (.getfield 23, 3) := by decide +kernel
theorem dX8_digest_87 : decode cX8_digest 87 = .ok (.iload_n 2, 1) := by decide +kernel
theorem dX8_digest_88 : decode cX8_digest 88 = .ok (.iaload, 1) := by decide +kernel
theorem dX8_digest_89 : decode cX8_digest 89 = .ok (.ireturn, 1) := by decide +kernel
set_option maxRecDepth 20000 in
theorem ggX8_plain_X1_isAnsweredPlainly : GoodIn wsX8_plain wsX1_isAnsweredPlainly := goodIn_r _ [8, 9, 10, 11, 12, 13, 14, 15, 16, 17, 18, 19, 20, 21, 22, 23, 24, 25, 26, 27, 28, 29, 30, 31, 32, 33, 34, 35, 36, 37, 38, 39, 40, 41, 42, 43, 44, 45, 46, 47, 48, 49, 50, 51, 52, 53, 54, 55, 56, 57, 58, 59, 60, 61, 62, 63, 64, 65, 66, 67, 68, 69, 70, 71, 72, 73, 74, 75, 76, 77, 105, 106, 107, 108, 109, 110, 111, 112, 113, 114, 115, 116, 117, 118] (by decide +kernel) (by decide +kernel)
set_option maxRecDepth 20000 in
theorem gX8_plain_X1_isAnsweredPlainly : GoodIn wsX8_plain (wsV RX8 199 RX1 yX1_isAnsweredPlainly wsX1_isAnsweredPlainly) := goodIn_app (goodIn_of _ (by decide +kernel)) ggX8_plain_X1_isAnsweredPlainly
set_option maxRecDepth 20000 in
theorem ggX8_plain_X5_isInLineWith : GoodIn wsX8_plain wsX5_isInLineWith := goodIn_r _ [81, 82, 83, 84, 59, 85, 86, 57, 58, 60, 61, 118] (by decide +kernel) (by decide +kernel)
set_option maxRecDepth 20000 in
theorem gX8_plain_X5_isInLineWith : GoodIn wsX8_plain (wsV RX8 176 RX5 yX5_isInLineWith wsX5_isInLineWith) := goodIn_app (goodIn_of _ (by decide +kernel)) ggX8_plain_X5_isInLineWith
set_option maxRecDepth 20000 in
theorem ggX8_plain_X1_oneBeginsTheOther : GoodIn wsX8_plain wsX1_oneBeginsTheOther := goodIn_r _ [90, 10, 11, 26, 27, 28, 29, 30, 31, 32, 33, 34, 35, 36, 37, 38, 39, 40, 41, 42, 43, 44, 45, 46, 47, 48, 49, 50, 51, 52, 53, 54, 55, 56, 57, 58, 59, 60, 61, 105, 106, 107, 115, 116, 117, 108, 109, 110, 111, 112, 118] (by decide +kernel) (by decide +kernel)
set_option maxRecDepth 20000 in
theorem gX8_plain_X1_oneBeginsTheOther : GoodIn wsX8_plain (wsV RX8 203 RX1 yX1_oneBeginsTheOther wsX1_oneBeginsTheOther) := goodIn_app (goodIn_of _ (by decide +kernel)) ggX8_plain_X1_oneBeginsTheOther
theorem dX8_plain_0 : decode cX8_plain 0 = .ok (.aload_n 0, 1) := by decide +kernel
theorem dX8_plain_1 : decode cX8_plain 1 = .ok (.getfield 63, 3) := by decide +kernel
theorem dX8_plain_4 : decode cX8_plain 4 = .ok (.ifCond .eq 5, 3) := by decide +kernel
theorem dX8_plain_7 : decode cX8_plain 7 = .ok (.iconst 1, 1) := by decide +kernel
theorem dX8_plain_8 : decode cX8_plain 8 = .ok (.ireturn, 1) := by decide +kernel
theorem dX8_plain_9 : decode cX8_plain 9 = .ok (.iconst 0, 1) := by decide +kernel
theorem dX8_plain_10 : decode cX8_plain 10 = .ok (.istore_n 1, 1) := by decide +kernel
theorem dX8_plain_11 : decode cX8_plain 11 = .ok (.iload_n 1, 1) := by decide +kernel
theorem dX8_plain_12 : decode cX8_plain 12 = .ok (.iconst 4, 1) := by decide +kernel
theorem dX8_plain_13 : decode cX8_plain 13 = .ok (.if_icmp .ge 85, 3) := by decide +kernel
theorem dX8_plain_16 : decode cX8_plain 16 = .ok (.aload_n 0, 1) := by decide +kernel
theorem dX8_plain_17 : decode cX8_plain 17 = .ok (.getfield 59, 3) := by decide +kernel
theorem dX8_plain_20 : decode cX8_plain 20 = .ok (.iload_n 1, 1) := by decide +kernel
theorem dX8_plain_21 : decode cX8_plain 21 = .ok (.aload_n 0, 1) := by decide +kernel
theorem dX8_plain_22 : decode cX8_plain 22 = .ok (.getfield 36, 3) := by decide +kernel
theorem dX8_plain_25 : decode cX8_plain 25 = .ok (.iload_n 1, 1) := by decide +kernel
theorem dX8_plain_26 : decode cX8_plain 26 = .ok (.aaload, 1) := by decide +kernel
theorem dX8_plain_27 : decode cX8_plain 27 = .ok (.invokevirtual 199, 3) := by decide +kernel
theorem dX8_plain_30 : decode cX8_plain 30 = .ok (.ifCond .ne 5, 3) := by decide +kernel
theorem dX8_plain_33 : decode cX8_plain 33 = .ok (.iconst 0, 1) := by decide +kernel
theorem dX8_plain_34 : decode cX8_plain 34 = .ok (.ireturn, 1) := by decide +kernel
theorem dX8_plain_35 : decode cX8_plain 35 = .ok (.iload_n 1, 1) := by decide +kernel
theorem dX8_plain_36 : decode cX8_plain 36 = .ok (.iconst 1, 1) := by decide +kernel
theorem dX8_plain_37 : decode cX8_plain 37 = .ok (.iadd, 1) := by decide +kernel
theorem dX8_plain_38 : decode cX8_plain 38 = .ok (.istore_n 2, 1) := by decide +kernel
theorem dX8_plain_39 : decode cX8_plain 39 = .ok (.iload_n 2, 1) := by decide +kernel
theorem dX8_plain_40 : decode cX8_plain 40 = .ok (.iconst 4, 1) := by decide +kernel
theorem dX8_plain_41 : decode cX8_plain 41 = .ok (.if_icmp .ge 51, 3) := by decide +kernel
theorem dX8_plain_44 : decode cX8_plain 44 = .ok (.aload_n 0, 1) := by decide +kernel
theorem dX8_plain_45 : decode cX8_plain 45 = .ok (.getfield 36, 3) := by decide +kernel
theorem dX8_plain_48 : decode cX8_plain 48 = .ok (.iload_n 1, 1) := by decide +kernel
theorem dX8_plain_49 : decode cX8_plain 49 = .ok (.aaload, 1) := by decide +kernel
theorem dX8_plain_50 : decode cX8_plain 50 = .ok (.aload_n 0, 1) := by decide +kernel
theorem dX8_plain_51 : decode cX8_plain 51 = .ok (.getfield 36, 3) := by decide +kernel
theorem dX8_plain_54 : decode cX8_plain 54 = .ok (.iload_n 2, 1) := by decide +kernel
theorem dX8_plain_55 : decode cX8_plain 55 = .ok (.aaload, 1) := by decide +kernel
theorem dX8_plain_56 : decode cX8_plain 56 = .ok (.invokevirtual 176, 3) := by decide +kernel
theorem dX8_plain_59 : decode cX8_plain 59 = .ok (.ifCond .eq 27, 3) := by decide +kernel
theorem dX8_plain_62 : decode cX8_plain 62 = .ok (.aload_n 0, 1) := by decide +kernel
theorem dX8_plain_63 : decode cX8_plain 63 = .ok (.getfield 59, 3) := by decide +kernel
theorem dX8_plain_66 : decode cX8_plain 66 = .ok (.aload_n 0, 1) := by decide +kernel
theorem dX8_plain_67 : decode cX8_plain 67 = .ok (.getfield 36, 3) := by decide +kernel
theorem dX8_plain_70 : decode cX8_plain 70 = .ok (.iload_n 1, 1) := by decide +kernel
theorem dX8_plain_71 : decode cX8_plain 71 = .ok (.aaload, 1) := by decide +kernel
theorem dX8_plain_72 : decode cX8_plain 72 = .ok (.aload_n 0, 1) := by decide +kernel
theorem dX8_plain_73 : decode cX8_plain 73 = .ok (.getfield 36, 3) := by decide +kernel
theorem dX8_plain_76 : decode cX8_plain 76 = .ok (.iload_n 2, 1) := by decide +kernel
theorem dX8_plain_77 : decode cX8_plain 77 = .ok (.aaload, 1) := by decide +kernel
theorem dX8_plain_78 : decode cX8_plain 78 = .ok (.invokevirtual 203, 3) := by decide +kernel
theorem dX8_plain_81 : decode cX8_plain 81 = .ok (.ifCond .ne 5, 3) := by decide +kernel
theorem dX8_plain_84 : decode cX8_plain 84 = .ok (.iconst 0, 1) := by decide +kernel
theorem dX8_plain_85 : decode cX8_plain 85 = .ok (.ireturn, 1) := by decide +kernel
theorem dX8_plain_86 : decode cX8_plain 86 = .ok (.iinc 2 1, 3) := by decide +kernel
theorem dX8_plain_89 : decode cX8_plain 89 = .ok (.goto (-50), 3) := by decide +kernel
theorem dX8_plain_92 : decode cX8_plain 92 = .ok (.iinc 1 1, 3) := by decide +kernel
theorem dX8_plain_95 : decode cX8_plain 95 = .ok (.goto (-84), 3) := by decide +kernel
theorem dX8_plain_98 : decode cX8_plain 98 = .ok (.iconst 1, 1) := by decide +kernel
theorem dX8_plain_99 : decode cX8_plain 99 = .ok (.ireturn, 1) := by decide +kernel
set_option maxRecDepth 20000 in
theorem ggX8_count_Jx4a65c_size_8abf5 : GoodIn wsX8_count wsJx4a65c_size_8abf5 := goodIn_r _ [10, 11, 26, 27, 28] (by decide +kernel) (by decide +kernel)
set_option maxRecDepth 20000 in
theorem gX8_count_Jx4a65c_size_8abf5 : GoodIn wsX8_count (wsV RX8 156 RJx4a65c yJx4a65c_size_8abf5 wsJx4a65c_size_8abf5) := goodIn_app (goodIn_of _ (by decide +kernel)) ggX8_count_Jx4a65c_size_8abf5
theorem dX8_count_0 : decode cX8_count 0 = .ok (.iload_n 1, 1) := by decide +kernel
theorem dX8_count_1 : decode cX8_count 1 = .ok (.tableswitch 54 0 3 #[31, 39, 44, 49], 31) := by decide +kernel
theorem dX8_count_32 : decode cX8_count 32 = .ok (.aload_n 0, 1) := by decide +kernel
theorem dX8_count_33 : decode cX8_count 33 = .ok (.getfield 30, 3) := by decide +kernel
theorem dX8_count_36 : decode cX8_count 36 = .ok (.invokevirtual 156, 3) := by decide +kernel
theorem dX8_count_39 : decode cX8_count 39 = .ok (.ireturn, 1) := by decide +kernel
theorem dX8_count_40 : decode cX8_count 40 = .ok (.aload_n 0, 1) := by decide +kernel
theorem dX8_count_41 : decode cX8_count 41 = .ok (.getfield 67, 3) := by decide +kernel
theorem dX8_count_44 : decode cX8_count 44 = .ok (.ireturn, 1) := by decide +kernel
theorem dX8_count_45 : decode cX8_count 45 = .ok (.aload_n 0, 1) := by decide +kernel
theorem dX8_count_46 : decode cX8_count 46 = .ok (.getfield 70, 3) := by decide +kernel
theorem dX8_count_49 : decode cX8_count 49 = .ok (.ireturn, 1) := by decide +kernel
theorem dX8_count_50 : decode cX8_count 50 = .ok (.aload_n 0, 1) := by decide +kernel
theorem dX8_count_51 : decode cX8_count 51 = .ok (.getfield 46, 3) := by decide +kernel
theorem dX8_count_54 : decode cX8_count 54 = .ok (.ireturn, 1) := by decide +kernel
theorem dX8_count_55 : decode cX8_count 55 = .ok (.iload_n 1, 1) := by decide +kernel
theorem dX8_count_56 : decode cX8_count 56 = .ok (.iconst 4, 1) := by decide +kernel
theorem dX8_count_57 : decode cX8_count 57 = .ok (.if_icmp .lt 20, 3) := by decide +kernel
theorem dX8_count_60 : decode cX8_count 60 = .ok (.iload_n 1, 1) := by decide +kernel
theorem dX8_count_61 : decode cX8_count 61 = .ok (.bipush 8, 2) := by decide +kernel
theorem dX8_count_63 : decode cX8_count 63 = .ok (.if_icmp .ge 14, 3) := by decide +kernel
theorem dX8_count_66 : decode cX8_count 66 = .ok (.aload_n 0, 1) := by decide +kernel
theorem dX8_count_67 : decode cX8_count 67 = .ok (.getfield 40, 3) := by decide +kernel
theorem dX8_count_70 : decode cX8_count 70 = .ok (.iload_n 1, 1) := by decide +kernel
theorem dX8_count_71 : decode cX8_count 71 = .ok (.iconst 4, 1) := by decide +kernel
theorem dX8_count_72 : decode cX8_count 72 = .ok (.isub, 1) := by decide +kernel
theorem dX8_count_73 : decode cX8_count 73 = .ok (.iaload, 1) := by decide +kernel
theorem dX8_count_74 : decode cX8_count 74 = .ok (.goto 4, 3) := by decide +kernel
theorem dX8_count_77 : decode cX8_count 77 = .ok (.iconst (-1), 1) := by decide +kernel
theorem dX8_count_78 : decode cX8_count 78 = .ok (.ireturn, 1) := by decide +kernel
set_option maxRecDepth 20000 in
theorem ggX8_isWorld_Jx4a65c_size_8abf5 : GoodIn wsX8_isWorld wsJx4a65c_size_8abf5 := goodIn_r _ [6, 7, 22, 23, 24] (by decide +kernel) (by decide +kernel)
set_option maxRecDepth 20000 in
theorem gX8_isWorld_Jx4a65c_size_8abf5 : GoodIn wsX8_isWorld (wsV RX8 156 RJx4a65c yJx4a65c_size_8abf5 wsJx4a65c_size_8abf5) := goodIn_app (goodIn_of _ (by decide +kernel)) ggX8_isWorld_Jx4a65c_size_8abf5
theorem dX8_isWorld_0 : decode cX8_isWorld 0 = .ok (.iload_n 1, 1) := by decide +kernel
theorem dX8_isWorld_1 : decode cX8_isWorld 1 = .ok (.ifCond .lt 18, 3) := by decide +kernel
theorem dX8_isWorld_4 : decode cX8_isWorld 4 = .ok (.iload_n 1, 1) := by decide +kernel
theorem dX8_isWorld_5 : decode cX8_isWorld 5 = .ok (.aload_n 0, 1) := by decide +kernel
theorem dX8_isWorld_6 : decode cX8_isWorld 6 = .ok (.getfield 30, 3) := by decide +kernel
theorem dX8_isWorld_9 : decode cX8_isWorld 9 = .ok (.invokevirtual 156, 3) := by decide +kernel
theorem dX8_isWorld_12 : decode cX8_isWorld 12 = .ok (.if_icmp .ge 7, 3) := by decide +kernel
theorem dX8_isWorld_15 : decode cX8_isWorld 15 = .ok (.iconst 1, 1) := by decide +kernel
theorem dX8_isWorld_16 : decode cX8_isWorld 16 = .ok (.goto 4, 3) := by decide +kernel
theorem dX8_isWorld_19 : decode cX8_isWorld 19 = .ok (.iconst 0, 1) := by decide +kernel
theorem dX8_isWorld_20 : decode cX8_isWorld 20 = .ok (.ireturn, 1) := by decide +kernel
theorem dX8_isClient_0 : decode cX8_isClient 0 = .ok (.iload_n 0, 1) := by decide +kernel
theorem dX8_isClient_1 : decode cX8_isClient 1 = .ok (.ifCond .lt 12, 3) := by decide +kernel
theorem dX8_isClient_4 : decode cX8_isClient 4 = .ok (.iload_n 0, 1) := by decide +kernel
theorem dX8_isClient_5 : decode cX8_isClient 5 = .ok (.iconst 4, 1) := by decide +kernel
theorem dX8_isClient_6 : decode cX8_isClient 6 = .ok (.if_icmp .ge 7, 3) := by decide +kernel
theorem dX8_isClient_9 : decode cX8_isClient 9 = .ok (.iconst 1, 1) := by decide +kernel
theorem dX8_isClient_10 : decode cX8_isClient 10 = .ok (.goto 4, 3) := by decide +kernel
theorem dX8_isClient_13 : decode cX8_isClient 13 = .ok (.iconst 0, 1) := by decide +kernel
theorem dX8_isClient_14 : decode cX8_isClient 14 = .ok (.ireturn, 1) := by decide +kernel
theorem dX8_isFile_0 : decode cX8_isFile 0 = .ok (.iload_n 0, 1) := by decide +kernel
theorem dX8_isFile_1 : decode cX8_isFile 1 = .ok (.ifCond .lt 13, 3) := by decide +kernel
theorem dX8_isFile_4 : decode cX8_isFile 4 = .ok (.iload_n 0, 1) := by decide +kernel
theorem dX8_isFile_5 : decode cX8_isFile 5 = .ok (.bipush 16, 2) := by decide +kernel
theorem dX8_isFile_7 : decode cX8_isFile 7 = .ok (.if_icmp .ge 7, 3) := by decide +kernel
theorem dX8_isFile_10 : decode cX8_isFile 10 = .ok (.iconst 1, 1) := by decide +kernel
theorem dX8_isFile_11 : decode cX8_isFile 11 = .ok (.goto 4, 3) := by decide +kernel
theorem dX8_isFile_14 : decode cX8_isFile 14 = .ok (.iconst 0, 1) := by decide +kernel
theorem dX8_isFile_15 : decode cX8_isFile 15 = .ok (.ireturn, 1) := by decide +kernel
theorem dX8_isStatementByte_0 : decode cX8_isStatementByte 0 = .ok (.iload_n 0, 1) := by decide +kernel
theorem dX8_isStatementByte_1 : decode cX8_isStatementByte 1 = .ok (.ifCond .lt 13, 3) := by decide +kernel
theorem dX8_isStatementByte_4 : decode cX8_isStatementByte 4 = .ok (.iload_n 0, 1) := by decide +kernel
theorem dX8_isStatementByte_5 : decode cX8_isStatementByte 5 = .ok (.bipush 84, 2) := by decide +kernel
theorem dX8_isStatementByte_7 : decode cX8_isStatementByte 7 = .ok (.if_icmp .ge 7, 3) := by decide +kernel
theorem dX8_isStatementByte_10 : decode cX8_isStatementByte 10 = .ok (.iconst 1, 1) := by decide +kernel
theorem dX8_isStatementByte_11 : decode cX8_isStatementByte 11 = .ok (.goto 4, 3) := by decide +kernel
theorem dX8_isStatementByte_14 : decode cX8_isStatementByte 14 = .ok (.iconst 0, 1) := by decide +kernel
theorem dX8_isStatementByte_15 : decode cX8_isStatementByte 15 = .ok (.ireturn, 1) := by decide +kernel
theorem dX8_isMask_0 : decode cX8_isMask 0 = .ok (.iload_n 0, 1) := by decide +kernel
theorem dX8_isMask_1 : decode cX8_isMask 1 = .ok (.iconst 1, 1) := by decide +kernel
theorem dX8_isMask_2 : decode cX8_isMask 2 = .ok (.if_icmp .lt 14, 3) := by decide +kernel
theorem dX8_isMask_5 : decode cX8_isMask 5 = .ok (.iload_n 0, 1) := by decide +kernel
theorem dX8_isMask_6 : decode cX8_isMask 6 = .ok (.sipush 255, 3) := by decide +kernel
theorem dX8_isMask_9 : decode cX8_isMask 9 = .ok (.if_icmp .gt 7, 3) := by decide +kernel
theorem dX8_isMask_12 : decode cX8_isMask 12 = .ok (.iconst 1, 1) := by decide +kernel
theorem dX8_isMask_13 : decode cX8_isMask 13 = .ok (.goto 4, 3) := by decide +kernel
theorem dX8_isMask_16 : decode cX8_isMask 16 = .ok (.iconst 0, 1) := by decide +kernel
theorem dX8_isMask_17 : decode cX8_isMask 17 = .ok (.ireturn, 1) := by decide +kernel
set_option maxRecDepth 20000 in
theorem ggX8_failedCheck_X8_areSigned : GoodIn wsX8_failedCheck wsX8_areSigned := goodIn_r _ [9, 1, 2, 10, 11, 12, 13, 14, 15, 16, 17, 18, 19, 20, 21, 22, 23, 24, 25, 26, 27, 28, 29, 30, 31, 32, 33, 34, 35, 36, 37, 38, 39, 40, 41, 42, 43, 44, 45, 46, 47, 48, 49, 50, 51, 52, 53, 54, 55, 56, 57, 58, 59, 60, 61, 8, 62, 94, 95, 96, 97, 98, 99, 100, 101, 102, 103, 104, 105, 106, 107, 108, 109, 110, 111, 112, 113, 114, 115, 116, 117] (by decide +kernel) (by decide +kernel)
set_option maxRecDepth 20000 in
theorem gX8_failedCheck_X8_areSigned : GoodIn wsX8_failedCheck (wsV RX8 207 RX8 yX8_areSigned wsX8_areSigned) := goodIn_app (goodIn_of _ (by decide +kernel)) ggX8_failedCheck_X8_areSigned
set_option maxRecDepth 20000 in
theorem ggX8_failedCheck_X8_sameRow : GoodIn wsX8_failedCheck wsX8_sameRow := goodIn_r _ [62] (by decide +kernel) (by decide +kernel)
set_option maxRecDepth 20000 in
theorem gX8_failedCheck_X8_sameRow : GoodIn wsX8_failedCheck (va_wsS RX8 211 yX8_sameRow wsX8_sameRow) := goodIn_app (goodIn_of _ (by decide +kernel)) ggX8_failedCheck_X8_sameRow
set_option maxRecDepth 20000 in
theorem ggX8_failedCheck_X7_isInLine : GoodIn wsX8_failedCheck wsX7_isInLine := goodIn_r _ [67, 68, 69, 70, 71, 72, 73, 74, 75, 76, 77, 78, 79, 80, 81, 82, 94, 95, 96, 97] (by decide +kernel) (by decide +kernel)
set_option maxRecDepth 20000 in
theorem gX8_failedCheck_X7_isInLine : GoodIn wsX8_failedCheck (wsV RX8 215 RX7 yX7_isInLine wsX7_isInLine) := goodIn_app (goodIn_of _ (by decide +kernel)) ggX8_failedCheck_X7_isInLine
set_option maxRecDepth 20000 in
theorem ggX8_failedCheck_X7_greatest : GoodIn wsX8_failedCheck wsX7_greatest := goodIn_r _ [86, 68, 87, 75, 76, 72, 77, 78, 79, 80, 81, 82, 94, 95, 96, 97] (by decide +kernel) (by decide +kernel)
set_option maxRecDepth 20000 in
theorem gX8_failedCheck_X7_greatest : GoodIn wsX8_failedCheck (wsV RX8 219 RX7 yX7_greatest wsX7_greatest) := goodIn_app (goodIn_of _ (by decide +kernel)) ggX8_failedCheck_X7_greatest
set_option maxRecDepth 20000 in
theorem ggX8_failedCheck_X6_hasRoot : GoodIn wsX8_failedCheck wsX6_hasRoot := goodIn_r _ [92, 93, 61, 8, 62, 118] (by decide +kernel) (by decide +kernel)
set_option maxRecDepth 20000 in
theorem gX8_failedCheck_X6_hasRoot : GoodIn wsX8_failedCheck (wsV RX8 223 RX6 yX6_hasRoot wsX6_hasRoot) := goodIn_app (goodIn_of _ (by decide +kernel)) ggX8_failedCheck_X6_hasRoot
theorem dX8_failedCheck_0 : decode cX8_failedCheck 0 = .ok (.aload_n 0, 1) := by decide +kernel
theorem dX8_failedCheck_1 : decode cX8_failedCheck 1 = .ok (.aload_n 2, 1) := by decide +kernel
theorem dX8_failedCheck_2 : decode cX8_failedCheck 2 = .ok (.invokevirtual 207, 3) := by decide +kernel
theorem dX8_failedCheck_5 : decode cX8_failedCheck 5 = .ok (.ifCond .ne 5, 3) := by decide +kernel
theorem dX8_failedCheck_8 : decode cX8_failedCheck 8 = .ok (.iconst 1, 1) := by decide +kernel
theorem dX8_failedCheck_9 : decode cX8_failedCheck 9 = .ok (.ireturn, 1) := by decide +kernel
theorem dX8_failedCheck_10 : decode cX8_failedCheck 10 = .ok (.aload_n 2, 1) := by decide +kernel
theorem dX8_failedCheck_11 : decode cX8_failedCheck 11 = .ok (.getfield 97, 3) := by decide +kernel
theorem dX8_failedCheck_14 : decode cX8_failedCheck 14 = .ok (.iload_n 1, 1) := by decide +kernel
theorem dX8_failedCheck_15 : decode cX8_failedCheck 15 = .ok (.aaload, 1) := by decide +kernel
theorem dX8_failedCheck_16 : decode cX8_failedCheck 16 = .ok (.getfield 169, 3) := by decide +kernel
theorem dX8_failedCheck_19 : decode cX8_failedCheck 19 = .ok (.iconst 0, 1) := by decide +kernel
theorem dX8_failedCheck_20 : decode cX8_failedCheck 20 = .ok (.aload_n 0, 1) := by decide +kernel
theorem dX8_failedCheck_21 : decode cX8_failedCheck 21 = .ok (.getfield 36, 3) := by decide +kernel
theorem dX8_failedCheck_24 : decode cX8_failedCheck 24 = .ok (.iload_n 1, 1) := by decide +kernel
theorem dX8_failedCheck_25 : decode cX8_failedCheck 25 = .ok (.aaload, 1) := by decide +kernel
theorem dX8_failedCheck_26 : decode cX8_failedCheck 26 = .ok (.getfield 169, 3) := by decide +kernel
theorem dX8_failedCheck_29 : decode cX8_failedCheck 29 = .ok (.iconst 0, 1) := by decide +kernel
theorem dX8_failedCheck_30 : decode cX8_failedCheck 30 = .ok (.bipush 84, 2) := by decide +kernel
theorem dX8_failedCheck_32 : decode cX8_failedCheck 32 = .ok (.invokestatic 211, 3) := by decide +kernel
theorem dX8_failedCheck_35 : decode cX8_failedCheck 35 = .ok (.ifCond .ne 5, 3) := by decide +kernel
theorem dX8_failedCheck_38 : decode cX8_failedCheck 38 = .ok (.iconst 2, 1) := by decide +kernel
theorem dX8_failedCheck_39 : decode cX8_failedCheck 39 = .ok (.ireturn, 1) := by decide +kernel
theorem dX8_failedCheck_40 : decode cX8_failedCheck 40 = .ok (.aload_n 2, 1) := by decide +kernel
theorem dX8_failedCheck_41 : decode cX8_failedCheck 41 = .ok (.invokevirtual 215, 3) := by decide +kernel
theorem dX8_failedCheck_44 : decode cX8_failedCheck 44 = .ok (.ifCond .ne 5, 3) := by decide +kernel
theorem dX8_failedCheck_47 : decode cX8_failedCheck 47 = .ok (.iconst 3, 1) := by decide +kernel
theorem dX8_failedCheck_48 : decode cX8_failedCheck 48 = .ok (.ireturn, 1) := by decide +kernel
theorem dX8_failedCheck_49 : decode cX8_failedCheck 49 = .ok (.aload_n 2, 1) := by decide +kernel
theorem dX8_failedCheck_50 : decode cX8_failedCheck 50 = .ok (.getfield 76, 3) := by decide +kernel
theorem dX8_failedCheck_53 : decode cX8_failedCheck 53 = .ok (.aload_n 2, 1) := by decide +kernel
theorem dX8_failedCheck_54 : decode cX8_failedCheck 54 = .ok (.invokevirtual 219, 3) := by decide +kernel
theorem dX8_failedCheck_57 : decode cX8_failedCheck 57 = .ok (.getfield 169, 3) := by decide +kernel
theorem dX8_failedCheck_60 : decode cX8_failedCheck 60 = .ok (.bipush 20, 2) := by decide +kernel
theorem dX8_failedCheck_62 : decode cX8_failedCheck 62 = .ok (.invokevirtual 223, 3) := by decide +kernel
theorem dX8_failedCheck_65 : decode cX8_failedCheck 65 = .ok (.ifCond .eq 7, 3) := by decide +kernel
theorem dX8_failedCheck_68 : decode cX8_failedCheck 68 = .ok (.iconst 0, 1) := by decide +kernel
theorem dX8_failedCheck_69 : decode cX8_failedCheck 69 = .ok (.goto 4, 3) := by decide +kernel
theorem dX8_failedCheck_72 : decode cX8_failedCheck 72 = .ok (.iconst 4, 1) := by decide +kernel
theorem dX8_failedCheck_73 : decode cX8_failedCheck 73 = .ok (.ireturn, 1) := by decide +kernel
set_option maxRecDepth 20000 in
theorem ggX8_areSigned_X2_make : GoodIn wsX8_areSigned wsX2_make := goodIn_r _ [9, 10, 11, 12, 13, 14, 8, 15, 16, 17, 18, 19, 20, 21, 22, 23, 24, 25, 26, 27, 28, 29, 30, 31, 32, 33, 34, 35, 36, 37, 38, 39, 40, 41, 42, 43, 44, 45, 46, 47, 48, 49, 50, 51, 52, 75, 76, 77, 78, 79, 80] (by decide +kernel) (by decide +kernel)
set_option maxRecDepth 20000 in
theorem gX8_areSigned_X2_make : GoodIn wsX8_areSigned (wsV RX8 195 RX2 yX2_make wsX2_make) := goodIn_app (goodIn_of _ (by decide +kernel)) ggX8_areSigned_X2_make
set_option maxRecDepth 20000 in
theorem ggX8_areSigned_X8_sameRow : GoodIn wsX8_areSigned wsX8_sameRow := goodIn_r _ [56] (by decide +kernel) (by decide +kernel)
set_option maxRecDepth 20000 in
theorem gX8_areSigned_X8_sameRow : GoodIn wsX8_areSigned (va_wsS RX8 211 yX8_sameRow wsX8_sameRow) := goodIn_app (goodIn_of _ (by decide +kernel)) ggX8_areSigned_X8_sameRow
theorem dX8_areSigned_0 : decode cX8_areSigned 0 = .ok (.iconst 0, 1) := by decide +kernel
theorem dX8_areSigned_1 : decode cX8_areSigned 1 = .ok (.istore_n 2, 1) := by decide +kernel
theorem dX8_areSigned_2 : decode cX8_areSigned 2 = .ok (.iload_n 2, 1) := by decide +kernel
theorem dX8_areSigned_3 : decode cX8_areSigned 3 = .ok (.iconst 4, 1) := by decide +kernel
theorem dX8_areSigned_4 : decode cX8_areSigned 4 = .ok (.if_icmp .ge 59, 3) := by decide +kernel
theorem dX8_areSigned_7 : decode cX8_areSigned 7 = .ok (.aload_n 1, 1) := by decide +kernel
theorem dX8_areSigned_8 : decode cX8_areSigned 8 = .ok (.getfield 97, 3) := by decide +kernel
theorem dX8_areSigned_11 : decode cX8_areSigned 11 = .ok (.iload_n 2, 1) := by decide +kernel
theorem dX8_areSigned_12 : decode cX8_areSigned 12 = .ok (.aaload, 1) := by decide +kernel
theorem dX8_areSigned_13 : decode cX8_areSigned 13 = .ok (.getfield 169, 3) := by decide +kernel
theorem dX8_areSigned_16 : decode cX8_areSigned 16 = .ok (.astore_n 3, 1) := by decide +kernel
theorem dX8_areSigned_17 : decode cX8_areSigned 17 = .ok (.aload_n 0, 1) := by decide +kernel
theorem dX8_areSigned_18 : decode cX8_areSigned 18 = .ok (.getfield 19, 3) := by decide +kernel
theorem dX8_areSigned_21 : decode cX8_areSigned 21 = .ok (.aload_n 3, 1) := by decide +kernel
theorem dX8_areSigned_22 : decode cX8_areSigned 22 = .ok (.bipush 52, 2) := by decide +kernel
theorem dX8_areSigned_24 : decode cX8_areSigned 24 = .ok (.aload_n 0, 1) := by decide +kernel
theorem dX8_areSigned_25 : decode cX8_areSigned 25 = .ok (.getfield 23, 3) := by decide +kernel
theorem dX8_areSigned_28 : decode cX8_areSigned 28 = .ok (.iconst 0, 1) := by decide +kernel
theorem dX8_areSigned_29 : decode cX8_areSigned 29 = .ok (.invokevirtual 195, 3) := by decide +kernel
theorem dX8_areSigned_32 : decode cX8_areSigned 32 = .ok (.aload_n 3, 1) := by decide +kernel
theorem dX8_areSigned_33 : decode cX8_areSigned 33 = .ok (.iconst 0, 1) := by decide +kernel
theorem dX8_areSigned_34 : decode cX8_areSigned 34 = .ok (.iaload, 1) := by decide +kernel
theorem dX8_areSigned_35 : decode cX8_areSigned 35 = .ok (.iload_n 2, 1) := by decide +kernel
theorem dX8_areSigned_36 : decode cX8_areSigned 36 = .ok (.if_icmp .ne 19, 3) := by decide +kernel
theorem dX8_areSigned_39 : decode cX8_areSigned 39 = .ok (.aload_n 3, 1) := by decide +kernel
theorem dX8_areSigned_40 : decode cX8_areSigned 40 = .ok (.bipush 52, 2) := by decide +kernel
theorem dX8_areSigned_42 : decode cX8_areSigned 42 = .ok (.aload_n 0, 1) := by decide +kernel
theorem dX8_areSigned_43 : decode cX8_areSigned 43 = .ok (.getfield 23, 3) := by decide +kernel
theorem dX8_areSigned_46 : decode cX8_areSigned 46 = .ok (.iconst 0, 1) := by decide +kernel
theorem dX8_areSigned_47 : decode cX8_areSigned 47 = .ok (.bipush 32, 2) := by decide +kernel
theorem dX8_areSigned_49 : decode cX8_areSigned 49 = .ok (.invokestatic 211, 3) := by decide +kernel
theorem dX8_areSigned_52 : decode cX8_areSigned 52 = .ok (.ifCond .ne 5, 3) := by decide +kernel
theorem dX8_areSigned_55 : decode cX8_areSigned 55 = .ok (.iconst 0, 1) := by decide +kernel
theorem dX8_areSigned_56 : decode cX8_areSigned 56 = .ok (.ireturn, 1) := by decide +kernel
theorem dX8_areSigned_57 : decode cX8_areSigned 57 = .ok (.iinc 2 1, 3) := by decide +kernel
theorem dX8_areSigned_60 : decode cX8_areSigned 60 = .ok (.goto (-58), 3) := by decide +kernel
theorem dX8_areSigned_63 : decode cX8_areSigned 63 = .ok (.iconst 1, 1) := by decide +kernel
theorem dX8_areSigned_64 : decode cX8_areSigned 64 = .ok (.ireturn, 1) := by decide +kernel
theorem dX8_stoppedBy_0 : decode cX8_stoppedBy 0 = .ok (.aload_n 0, 1) := by decide +kernel
theorem dX8_stoppedBy_1 : decode cX8_stoppedBy 1 = .ok (.dup, 1) := by decide +kernel
theorem dX8_stoppedBy_2 : decode cX8_stoppedBy 2 = .ok (.getfield 70, 3) := by decide +kernel
theorem dX8_stoppedBy_5 : decode cX8_stoppedBy 5 = .ok (.iconst 1, 1) := by decide +kernel
theorem dX8_stoppedBy_6 : decode cX8_stoppedBy 6 = .ok (.iadd, 1) := by decide +kernel
theorem dX8_stoppedBy_7 : decode cX8_stoppedBy 7 = .ok (.putfield 70, 3) := by decide +kernel
theorem dX8_stoppedBy_10 : decode cX8_stoppedBy 10 = .ok (.iconst (-1), 1) := by decide +kernel
theorem dX8_stoppedBy_11 : decode cX8_stoppedBy 11 = .ok (.iload_n 1, 1) := by decide +kernel
theorem dX8_stoppedBy_12 : decode cX8_stoppedBy 12 = .ok (.isub, 1) := by decide +kernel
theorem dX8_stoppedBy_13 : decode cX8_stoppedBy 13 = .ok (.ireturn, 1) := by decide +kernel
set_option maxRecDepth 20000 in
theorem ggX8_makeStatement_X7_greatest : GoodIn wsX8_makeStatement wsX7_greatest := goodIn_r _ [9, 10, 11, 12, 13, 14, 15, 16, 17, 18, 19, 20, 107, 108, 109, 110] (by decide +kernel) (by decide +kernel)
set_option maxRecDepth 20000 in
theorem gX8_makeStatement_X7_greatest : GoodIn wsX8_makeStatement (wsV RX8 219 RX7 yX7_greatest wsX7_greatest) := goodIn_app (goodIn_of _ (by decide +kernel)) ggX8_makeStatement_X7_greatest
set_option maxRecDepth 20000 in
theorem ggX8_makeStatement_X5_countOf : GoodIn wsX8_makeStatement wsX5_countOf := goodIn_r _ [19, 20, 110] (by decide +kernel) (by decide +kernel)
set_option maxRecDepth 20000 in
theorem gX8_makeStatement_X5_countOf : GoodIn wsX8_makeStatement (wsV RX8 180 RX5 yX5_countOf wsX5_countOf) := goodIn_app (goodIn_of _ (by decide +kernel)) ggX8_makeStatement_X5_countOf
set_option maxRecDepth 20000 in
theorem ggX8_makeStatement_X5_setCount : GoodIn wsX8_makeStatement wsX5_setCount := goodIn_r _ [25, 20, 110] (by decide +kernel) (by decide +kernel)
set_option maxRecDepth 20000 in
theorem gX8_makeStatement_X5_setCount : GoodIn wsX8_makeStatement (wsV RX8 227 RX5 yX5_setCount wsX5_setCount) := goodIn_app (goodIn_of _ (by decide +kernel)) ggX8_makeStatement_X5_setCount
set_option maxRecDepth 20000 in
theorem ggX8_makeStatement_X8_sign : GoodIn wsX8_makeStatement wsX8_sign := goodIn_r _ [30, 31, 32, 33, 34, 35, 36, 37, 38, 39, 40, 41, 42, 43, 44, 45, 46, 47, 48, 49, 50, 51, 52, 53, 54, 55, 56, 57, 58, 59, 60, 61, 62, 63, 64, 65, 66, 67, 68, 69, 70, 71, 72, 73, 74, 75, 76, 77, 78, 79, 80, 81, 82, 83, 84, 85, 86, 87, 110, 93, 94, 95, 96, 97, 98, 99, 100, 101, 102, 103, 104, 105, 106, 111, 112, 113, 114, 115, 116, 117] (by decide +kernel) (by decide +kernel)
set_option maxRecDepth 20000 in
theorem gX8_makeStatement_X8_sign : GoodIn wsX8_makeStatement (wsV RX8 93 RX8 yX8_sign wsX8_sign) := goodIn_app (goodIn_of _ (by decide +kernel)) ggX8_makeStatement_X8_sign
set_option maxRecDepth 20000 in
theorem ggX8_makeStatement_X5_become : GoodIn wsX8_makeStatement wsX5_become := goodIn_r _ [91, 20, 92, 40, 41, 42, 110] (by decide +kernel) (by decide +kernel)
set_option maxRecDepth 20000 in
theorem gX8_makeStatement_X5_become : GoodIn wsX8_makeStatement (wsV RX8 100 RX5 yX5_become wsX5_become) := goodIn_app (goodIn_of _ (by decide +kernel)) ggX8_makeStatement_X5_become
theorem dX8_makeStatement_0 : decode cX8_makeStatement 0 = .ok (.aload_n 0, 1) := by decide +kernel
theorem dX8_makeStatement_1 : decode cX8_makeStatement 1 = .ok (.getfield 36, 3) := by decide +kernel
theorem dX8_makeStatement_4 : decode cX8_makeStatement 4 = .ok (.iload_n 1, 1) := by decide +kernel
theorem dX8_makeStatement_5 : decode cX8_makeStatement 5 = .ok (.aaload, 1) := by decide +kernel
theorem dX8_makeStatement_6 : decode cX8_makeStatement 6 = .ok (.astore_n 3, 1) := by decide +kernel
theorem dX8_makeStatement_7 : decode cX8_makeStatement 7 = .ok (.aload_n 2, 1) := by decide +kernel
theorem dX8_makeStatement_8 : decode cX8_makeStatement 8 = .ok (.invokevirtual 219, 3) := by decide +kernel
theorem dX8_makeStatement_11 : decode cX8_makeStatement 11 = .ok (.astore 4, 2) := by decide +kernel
theorem dX8_makeStatement_13 : decode cX8_makeStatement 13 = .ok (.iconst 0, 1) := by decide +kernel
theorem dX8_makeStatement_14 : decode cX8_makeStatement 14 = .ok (.istore 5, 2) := by decide +kernel
theorem dX8_makeStatement_16 : decode cX8_makeStatement 16 = .ok (.iload 5, 2) := by decide +kernel
theorem dX8_makeStatement_18 : decode cX8_makeStatement 18 = .ok (.iconst 4, 1) := by decide +kernel
theorem dX8_makeStatement_19 : decode cX8_makeStatement 19 = .ok (.if_icmp .ge 35, 3) := by decide +kernel
theorem dX8_makeStatement_22 : decode cX8_makeStatement 22 = .ok (.aload_n 3, 1) := by decide +kernel
theorem dX8_makeStatement_23 : decode cX8_makeStatement 23 = .ok (.iload 5, 2) := by decide +kernel
theorem dX8_makeStatement_25 : decode cX8_makeStatement 25 = .ok (.aload 4, 2) := by decide +kernel
theorem dX8_makeStatement_27 : decode cX8_makeStatement 27 = .ok (.iload 5, 2) := by decide +kernel
theorem dX8_makeStatement_29 : decode cX8_makeStatement 29 = .ok (.invokevirtual 180, 3) := by decide +kernel
theorem dX8_makeStatement_32 : decode cX8_makeStatement 32 = .ok (.iload 5, 2) := by decide +kernel
theorem dX8_makeStatement_34 : decode cX8_makeStatement 34 = .ok (.iload_n 1, 1) := by decide +kernel
theorem dX8_makeStatement_35 : decode cX8_makeStatement 35 = .ok (.if_icmp .ne 7, 3) := by decide +kernel
theorem dX8_makeStatement_38 : decode cX8_makeStatement 38 = .ok (.iconst 1, 1) := by decide +kernel
theorem dX8_makeStatement_39 : decode cX8_makeStatement 39 = .ok (.goto 4, 3) := by decide +kernel
theorem dX8_makeStatement_42 : decode cX8_makeStatement 42 = .ok (.iconst 0, 1) := by decide +kernel
theorem dX8_makeStatement_43 : decode cX8_makeStatement 43 = .ok (.i2l, 1) := by decide +kernel
theorem dX8_makeStatement_44 : decode cX8_makeStatement 44 = .ok (.ladd, 1) := by decide +kernel
theorem dX8_makeStatement_45 : decode cX8_makeStatement 45 = .ok (.invokevirtual 227, 3) := by decide +kernel
theorem dX8_makeStatement_48 : decode cX8_makeStatement 48 = .ok (.iinc 5 1, 3) := by decide +kernel
theorem dX8_makeStatement_51 : decode cX8_makeStatement 51 = .ok (.goto (-35), 3) := by decide +kernel
theorem dX8_makeStatement_54 : decode cX8_makeStatement 54 = .ok (.aload_n 0, 1) := by decide +kernel
theorem dX8_makeStatement_55 : decode cX8_makeStatement 55 = .ok (.aload_n 3, 1) := by decide +kernel
theorem dX8_makeStatement_56 : decode cX8_makeStatement 56 = .ok (.aload_n 2, 1) := by decide +kernel
theorem dX8_makeStatement_57 : decode cX8_makeStatement 57 = .ok (.getfield 76, 3) := by decide +kernel
theorem dX8_makeStatement_60 : decode cX8_makeStatement 60 = .ok (.invokevirtual 93, 3) := by decide +kernel
theorem dX8_makeStatement_63 : decode cX8_makeStatement 63 = .ok (.aload_n 2, 1) := by decide +kernel
theorem dX8_makeStatement_64 : decode cX8_makeStatement 64 = .ok (.getfield 97, 3) := by decide +kernel
theorem dX8_makeStatement_67 : decode cX8_makeStatement 67 = .ok (.iload_n 1, 1) := by decide +kernel
theorem dX8_makeStatement_68 : decode cX8_makeStatement 68 = .ok (.aaload, 1) := by decide +kernel
theorem dX8_makeStatement_69 : decode cX8_makeStatement 69 = .ok (.aload_n 3, 1) := by decide +kernel
theorem dX8_makeStatement_70 : decode cX8_makeStatement 70 = .ok (.invokevirtual 100, 3) := by decide +kernel
theorem dX8_makeStatement_73 : decode cX8_makeStatement 73 = .ok (.aload_n 0, 1) := by decide +kernel
theorem dX8_makeStatement_74 : decode cX8_makeStatement 74 = .ok (.dup, 1) := by decide +kernel
theorem dX8_makeStatement_75 : decode cX8_makeStatement 75 = .ok (.getfield 67, 3) := by decide +kernel
theorem dX8_makeStatement_78 : decode cX8_makeStatement 78 = .ok (.iconst 1, 1) := by decide +kernel
theorem dX8_makeStatement_79 : decode cX8_makeStatement 79 = .ok (.iadd, 1) := by decide +kernel
theorem dX8_makeStatement_80 : decode cX8_makeStatement 80 = .ok (.putfield 67, 3) := by decide +kernel
theorem dX8_makeStatement_83 : decode cX8_makeStatement 83 = .ok (.return_, 1) := by decide +kernel
set_option maxRecDepth 20000 in
theorem ggX8_sign_X6_copyRoot : GoodIn wsX8_sign wsX6_copyRoot := goodIn_r _ [7, 8, 9, 10, 11, 12, 73] (by decide +kernel) (by decide +kernel)
set_option maxRecDepth 20000 in
theorem gX8_sign_X6_copyRoot : GoodIn wsX8_sign (wsV RX8 231 RX6 yX6_copyRoot wsX6_copyRoot) := goodIn_app (goodIn_of _ (by decide +kernel)) ggX8_sign_X6_copyRoot
set_option maxRecDepth 20000 in
theorem ggX8_sign_X2_make : GoodIn wsX8_sign wsX2_make := goodIn_r _ [17, 18, 19, 20, 21, 22, 16, 23, 24, 25, 26, 27, 28, 29, 30, 31, 10, 11, 12, 32, 33, 34, 35, 36, 37, 38, 39, 40, 41, 42, 43, 44, 45, 46, 47, 48, 49, 50, 51, 52, 53, 54, 55, 56, 57, 74, 75, 76, 77, 78, 79] (by decide +kernel) (by decide +kernel)
set_option maxRecDepth 20000 in
theorem gX8_sign_X2_make : GoodIn wsX8_sign (wsV RX8 195 RX2 yX2_make wsX2_make) := goodIn_app (goodIn_of _ (by decide +kernel)) ggX8_sign_X2_make
theorem dX8_sign_0 : decode cX8_sign 0 = .ok (.aload_n 2, 1) := by decide +kernel
theorem dX8_sign_1 : decode cX8_sign 1 = .ok (.aload_n 1, 1) := by decide +kernel
theorem dX8_sign_2 : decode cX8_sign 2 = .ok (.getfield 169, 3) := by decide +kernel
theorem dX8_sign_5 : decode cX8_sign 5 = .ok (.bipush 20, 2) := by decide +kernel
theorem dX8_sign_7 : decode cX8_sign 7 = .ok (.invokevirtual 231, 3) := by decide +kernel
theorem dX8_sign_10 : decode cX8_sign 10 = .ok (.aload_n 0, 1) := by decide +kernel
theorem dX8_sign_11 : decode cX8_sign 11 = .ok (.getfield 19, 3) := by decide +kernel
theorem dX8_sign_14 : decode cX8_sign 14 = .ok (.aload_n 1, 1) := by decide +kernel
theorem dX8_sign_15 : decode cX8_sign 15 = .ok (.getfield 169, 3) := by decide +kernel
theorem dX8_sign_18 : decode cX8_sign 18 = .ok (.bipush 52, 2) := by decide +kernel
theorem dX8_sign_20 : decode cX8_sign 20 = .ok (.aload_n 1, 1) := by decide +kernel
theorem dX8_sign_21 : decode cX8_sign 21 = .ok (.getfield 169, 3) := by decide +kernel
theorem dX8_sign_24 : decode cX8_sign 24 = .ok (.bipush 52, 2) := by decide +kernel
theorem dX8_sign_26 : decode cX8_sign 26 = .ok (.invokevirtual 195, 3) := by decide +kernel
theorem dX8_sign_29 : decode cX8_sign 29 = .ok (.return_, 1) := by decide +kernel
end
section
set_option maxRecDepth 20000 in
theorem ggX9_init_X9_findRoot : GoodIn wsX9_init wsX9_findRoot := goodIn_r _ [98, 99, 82, 81, 92, 88, 100, 101, 102, 97, 103, 87, 104, 105, 106, 107, 91, 78, 108, 109, 110, 111, 90, 69, 112, 113, 114, 135, 136, 137, 138, 139, 140, 141, 142, 143, 144, 145, 146, 147, 148, 149, 150, 151, 152, 153, 154, 155, 156, 157] (by decide +kernel) (by decide +kernel)
set_option maxRecDepth 20000 in
theorem gX9_init_X9_findRoot : GoodIn wsX9_init (wsV RX9 134 RX9 yX9_findRoot wsX9_findRoot) := goodIn_app (goodIn_of _ (by decide +kernel)) ggX9_init_X9_findRoot
set_option maxRecDepth 20000 in
theorem ggX9_init_X9_sign : GoodIn wsX9_init wsX9_sign := goodIn_r _ [118, 80, 92, 119, 93, 88, 120, 121, 122, 97, 123, 99, 89, 124, 125, 126, 127, 100, 101, 102, 103, 87, 104, 105, 106, 107, 91, 78, 108, 109, 110, 111, 90, 69, 112, 113, 114, 135, 136, 137, 138, 139, 140, 141, 142, 143, 144, 145, 146, 147, 148, 149, 150, 151, 152, 153, 154, 155, 156, 157] (by decide +kernel) (by decide +kernel)
set_option maxRecDepth 20000 in
theorem gX9_init_X9_sign : GoodIn wsX9_init (wsV RX9 138 RX9 yX9_sign wsX9_sign) := goodIn_app (goodIn_of _ (by decide +kernel)) ggX9_init_X9_sign
set_option maxRecDepth 20000 in
theorem ggX9_init_X9_tell : GoodIn wsX9_init wsX9_tell := goodIn_r _ [131, 79, 80, 132, 133, 97, 134, 135, 136, 137, 138, 139, 140, 141, 142, 143, 144, 145, 146, 147, 148, 149, 150, 151, 152, 153, 154, 155, 156, 157] (by decide +kernel) (by decide +kernel)
set_option maxRecDepth 20000 in
theorem gX9_init_X9_tell : GoodIn wsX9_init (wsV RX9 141 RX9 yX9_tell wsX9_tell) := goodIn_app (goodIn_of _ (by decide +kernel)) ggX9_init_X9_tell
theorem dX9_init_0 : decode cX9_init 0 = .ok (.aload_n 0, 1) := by decide +kernel
theorem dX9_init_1 : decode cX9_init 1 = .ok (.invokespecial 1, 3) := by decide +kernel
theorem dX9_init_4 : decode cX9_init 4 = .ok (.aload_n 0, 1) := by decide +kernel
theorem dX9_init_5 : decode cX9_init 5 = .ok (.bipush 64, 2) := by decide +kernel
theorem dX9_init_7 : decode cX9_init 7 = .ok (.newarray .int, 2) := by decide +kernel
theorem dX9_init_9 : decode cX9_init 9 = .ok (.dup, 1) := by decide +kernel
theorem dX9_init_10 : decode cX9_init 10 = .ok (.iconst 0, 1) := by decide +kernel
theorem dX9_init_11 : decode cX9_init 11 = .ok (.ldc 7, 2) := by decide +kernel
theorem dX9_init_13 : decode cX9_init 13 = .ok (.iastore, 1) := by decide +kernel
theorem dX9_init_14 : decode cX9_init 14 = .ok (.dup, 1) := by decide +kernel
theorem dX9_init_15 : decode cX9_init 15 = .ok (.iconst 1, 1) := by decide +kernel
theorem dX9_init_16 : decode cX9_init 16 = .ok (.ldc 8, 2) := by decide +kernel
theorem dX9_init_18 : decode cX9_init 18 = .ok (.iastore, 1) := by decide +kernel
theorem dX9_init_19 : decode cX9_init 19 = .ok (.dup, 1) := by decide +kernel
theorem dX9_init_20 : decode cX9_init 20 = .ok (.iconst 2, 1) := by decide +kernel
theorem dX9_init_21 : decode cX9_init 21 = .ok (.ldc 9, 2) := by decide +kernel
theorem dX9_init_23 : decode cX9_init 23 = .ok (.iastore, 1) := by decide +kernel
theorem dX9_init_24 : decode cX9_init 24 = .ok (.dup, 1) := by decide +kernel
theorem dX9_init_25 : decode cX9_init 25 = .ok (.iconst 3, 1) := by decide +kernel
theorem dX9_init_26 : decode cX9_init 26 = .ok (.ldc 10, 2) := by decide +kernel
theorem dX9_init_28 : decode cX9_init 28 = .ok (.iastore, 1) := by decide +kernel
theorem dX9_init_29 : decode cX9_init 29 = .ok (.dup, 1) := by decide +kernel
theorem dX9_init_30 : decode cX9_init 30 = .ok (.iconst 4, 1) := by decide +kernel
theorem dX9_init_31 : decode cX9_init 31 = .ok (.ldc 11, 2) := by decide +kernel
theorem dX9_init_33 : decode cX9_init 33 = .ok (.iastore, 1) := by decide +kernel
theorem dX9_init_34 : decode cX9_init 34 = .ok (.dup, 1) := by decide +kernel
theorem dX9_init_35 : decode cX9_init 35 = .ok (.iconst 5, 1) := by decide +kernel
theorem dX9_init_36 : decode cX9_init 36 = .ok (.ldc 12, 2) := by decide +kernel
theorem dX9_init_38 : decode cX9_init 38 = .ok (.iastore, 1) := by decide +kernel
theorem dX9_init_39 : decode cX9_init 39 = .ok (.dup, 1) := by decide +kernel
theorem dX9_init_40 : decode cX9_init 40 = .ok (.bipush 6, 2) := by decide +kernel
theorem dX9_init_42 : decode cX9_init 42 = .ok (.ldc 13, 2) := by decide +kernel
theorem dX9_init_44 : decode cX9_init 44 = .ok (.iastore, 1) := by decide +kernel
theorem dX9_init_45 : decode cX9_init 45 = .ok (.dup, 1) := by decide +kernel
theorem dX9_init_46 : decode cX9_init 46 = .ok (.bipush 7, 2) := by decide +kernel
theorem dX9_init_48 : decode cX9_init 48 = .ok (.ldc 14, 2) := by decide +kernel
theorem dX9_init_50 : decode cX9_init 50 = .ok (.iastore, 1) := by decide +kernel
theorem dX9_init_51 : decode cX9_init 51 = .ok (.dup, 1) := by decide +kernel
theorem dX9_init_52 : decode cX9_init 52 = .ok (.bipush 8, 2) := by decide +kernel
theorem dX9_init_54 : decode cX9_init 54 = .ok (.ldc 15, 2) := by decide +kernel
theorem dX9_init_56 : decode cX9_init 56 = .ok (.iastore, 1) := by decide +kernel
theorem dX9_init_57 : decode cX9_init 57 = .ok (.dup, 1) := by decide +kernel
theorem dX9_init_58 : decode cX9_init 58 = .ok (.bipush 9, 2) := by decide +kernel
theorem dX9_init_60 : decode cX9_init 60 = .ok (.ldc 16, 2) := by decide +kernel
theorem dX9_init_62 : decode cX9_init 62 = .ok (.iastore, 1) := by decide +kernel
theorem dX9_init_63 : decode cX9_init 63 = .ok (.dup, 1) := by decide +kernel
theorem dX9_init_64 : decode cX9_init 64 = .ok (.bipush 10, 2) := by decide +kernel
theorem dX9_init_66 : decode cX9_init 66 = .ok (.ldc 17, 2) := by decide +kernel
theorem dX9_init_68 : decode cX9_init 68 = .ok (.iastore, 1) := by decide +kernel
theorem dX9_init_69 : decode cX9_init 69 = .ok (.dup, 1) := by decide +kernel
theorem dX9_init_70 : decode cX9_init 70 = .ok (.bipush 11, 2) := by decide +kernel
theorem dX9_init_72 : decode cX9_init 72 = .ok (.ldc 18, 2) := by decide +kernel
theorem dX9_init_74 : decode cX9_init 74 = .ok (.iastore, 1) := by decide +kernel
theorem dX9_init_75 : decode cX9_init 75 = .ok (.dup, 1) := by decide +kernel
theorem dX9_init_76 : decode cX9_init 76 = .ok (.bipush 12, 2) := by decide +kernel
theorem dX9_init_78 : decode cX9_init 78 = .ok (.ldc 19, 2) := by decide +kernel
theorem dX9_init_80 : decode cX9_init 80 = .ok (.iastore, 1) := by decide +kernel
theorem dX9_init_81 : decode cX9_init 81 = .ok (.dup, 1) := by decide +kernel
theorem dX9_init_82 : decode cX9_init 82 = .ok (.bipush 13, 2) := by decide +kernel
theorem dX9_init_84 : decode cX9_init 84 = .ok (.ldc 20, 2) := by decide +kernel
theorem dX9_init_86 : decode cX9_init 86 = .ok (.iastore, 1) := by decide +kernel
theorem dX9_init_87 : decode cX9_init 87 = .ok (.dup, 1) := by decide +kernel
theorem dX9_init_88 : decode cX9_init 88 = .ok (.bipush 14, 2) := by decide +kernel
theorem dX9_init_90 : decode cX9_init 90 = .ok (.ldc 21, 2) := by decide +kernel
theorem dX9_init_92 : decode cX9_init 92 = .ok (.iastore, 1) := by decide +kernel
theorem dX9_init_93 : decode cX9_init 93 = .ok (.dup, 1) := by decide +kernel
theorem dX9_init_94 : decode cX9_init 94 = .ok (.bipush 15, 2) := by decide +kernel
theorem dX9_init_96 : decode cX9_init 96 = .ok (.ldc 22, 2) := by decide +kernel
theorem dX9_init_98 : decode cX9_init 98 = .ok (.iastore, 1) := by decide +kernel
theorem dX9_init_99 : decode cX9_init 99 = .ok (.dup, 1) := by decide +kernel
theorem dX9_init_100 : decode cX9_init 100 = .ok (.bipush 16, 2) := by decide +kernel
theorem dX9_init_102 : decode cX9_init 102 = .ok (.ldc 23, 2) := by decide +kernel
theorem dX9_init_104 : decode cX9_init 104 = .ok (.iastore, 1) := by decide +kernel
theorem dX9_init_105 : decode cX9_init 105 = .ok (.dup, 1) := by decide +kernel
theorem dX9_init_106 : decode cX9_init 106 = .ok (.bipush 17, 2) := by decide +kernel
theorem dX9_init_108 : decode cX9_init 108 = .ok (.ldc 24, 2) := by decide +kernel
theorem dX9_init_110 : decode cX9_init 110 = .ok (.iastore, 1) := by decide +kernel
theorem dX9_init_111 : decode cX9_init 111 = .ok (.dup, 1) := by decide +kernel
theorem dX9_init_112 : decode cX9_init 112 = .ok (.bipush 18, 2) := by decide +kernel
theorem dX9_init_114 : decode cX9_init 114 = .ok (.ldc 25, 2) := by decide +kernel
theorem dX9_init_116 : decode cX9_init 116 = .ok (.iastore, 1) := by decide +kernel
theorem dX9_init_117 : decode cX9_init 117 = .ok (.dup, 1) := by decide +kernel
theorem dX9_init_118 : decode cX9_init 118 = .ok (.bipush 19, 2) := by decide +kernel
theorem dX9_init_120 : decode cX9_init 120 = .ok (.ldc 26, 2) := by decide +kernel
theorem dX9_init_122 : decode cX9_init 122 = .ok (.iastore, 1) := by decide +kernel
theorem dX9_init_123 : decode cX9_init 123 = .ok (.dup, 1) := by decide +kernel
theorem dX9_init_124 : decode cX9_init 124 = .ok (.bipush 20, 2) := by decide +kernel
theorem dX9_init_126 : decode cX9_init 126 = .ok (.ldc 27, 2) := by decide +kernel
theorem dX9_init_128 : decode cX9_init 128 = .ok (.iastore, 1) := by decide +kernel
theorem dX9_init_129 : decode cX9_init 129 = .ok (.dup, 1) := by decide +kernel
theorem dX9_init_130 : decode cX9_init 130 = .ok (.bipush 21, 2) := by decide +kernel
theorem dX9_init_132 : decode cX9_init 132 = .ok (.ldc 28, 2) := by decide +kernel
theorem dX9_init_134 : decode cX9_init 134 = .ok (.iastore, 1) := by decide +kernel
theorem dX9_init_135 : decode cX9_init 135 = .ok (.dup, 1) := by decide +kernel
theorem dX9_init_136 : decode cX9_init 136 = .ok (.bipush 22, 2) := by decide +kernel
theorem dX9_init_138 : decode cX9_init 138 = .ok (.ldc 29, 2) := by decide +kernel
theorem dX9_init_140 : decode cX9_init 140 = .ok (.iastore, 1) := by decide +kernel
theorem dX9_init_141 : decode cX9_init 141 = .ok (.dup, 1) := by decide +kernel
theorem dX9_init_142 : decode cX9_init 142 = .ok (.bipush 23, 2) := by decide +kernel
theorem dX9_init_144 : decode cX9_init 144 = .ok (.ldc 30, 2) := by decide +kernel
theorem dX9_init_146 : decode cX9_init 146 = .ok (.iastore, 1) := by decide +kernel
theorem dX9_init_147 : decode cX9_init 147 = .ok (.dup, 1) := by decide +kernel
theorem dX9_init_148 : decode cX9_init 148 = .ok (.bipush 24, 2) := by decide +kernel
theorem dX9_init_150 : decode cX9_init 150 = .ok (.ldc 31, 2) := by decide +kernel
theorem dX9_init_152 : decode cX9_init 152 = .ok (.iastore, 1) := by decide +kernel
theorem dX9_init_153 : decode cX9_init 153 = .ok (.dup, 1) := by decide +kernel
theorem dX9_init_154 : decode cX9_init 154 = .ok (.bipush 25, 2) := by decide +kernel
theorem dX9_init_156 : decode cX9_init 156 = .ok (.ldc 32, 2) := by decide +kernel
theorem dX9_init_158 : decode cX9_init 158 = .ok (.iastore, 1) := by decide +kernel
theorem dX9_init_159 : decode cX9_init 159 = .ok (.dup, 1) := by decide +kernel
theorem dX9_init_160 : decode cX9_init 160 = .ok (.bipush 26, 2) := by decide +kernel
theorem dX9_init_162 : decode cX9_init 162 = .ok (.ldc 33, 2) := by decide +kernel
theorem dX9_init_164 : decode cX9_init 164 = .ok (.iastore, 1) := by decide +kernel
theorem dX9_init_165 : decode cX9_init 165 = .ok (.dup, 1) := by decide +kernel
theorem dX9_init_166 : decode cX9_init 166 = .ok (.bipush 27, 2) := by decide +kernel
theorem dX9_init_168 : decode cX9_init 168 = .ok (.ldc 34, 2) := by decide +kernel
theorem dX9_init_170 : decode cX9_init 170 = .ok (.iastore, 1) := by decide +kernel
theorem dX9_init_171 : decode cX9_init 171 = .ok (.dup, 1) := by decide +kernel
theorem dX9_init_172 : decode cX9_init 172 = .ok (.bipush 28, 2) := by decide +kernel
theorem dX9_init_174 : decode cX9_init 174 = .ok (.ldc 35, 2) := by decide +kernel
theorem dX9_init_176 : decode cX9_init 176 = .ok (.iastore, 1) := by decide +kernel
theorem dX9_init_177 : decode cX9_init 177 = .ok (.dup, 1) := by decide +kernel
theorem dX9_init_178 : decode cX9_init 178 = .ok (.bipush 29, 2) := by decide +kernel
theorem dX9_init_180 : decode cX9_init 180 = .ok (.ldc 36, 2) := by decide +kernel
theorem dX9_init_182 : decode cX9_init 182 = .ok (.iastore, 1) := by decide +kernel
theorem dX9_init_183 : decode cX9_init 183 = .ok (.dup, 1) := by decide +kernel
theorem dX9_init_184 : decode cX9_init 184 = .ok (.bipush 30, 2) := by decide +kernel
theorem dX9_init_186 : decode cX9_init 186 = .ok (.ldc 37, 2) := by decide +kernel
theorem dX9_init_188 : decode cX9_init 188 = .ok (.iastore, 1) := by decide +kernel
theorem dX9_init_189 : decode cX9_init 189 = .ok (.dup, 1) := by decide +kernel
theorem dX9_init_190 : decode cX9_init 190 = .ok (.bipush 31, 2) := by decide +kernel
theorem dX9_init_192 : decode cX9_init 192 = .ok (.ldc 38, 2) := by decide +kernel
theorem dX9_init_194 : decode cX9_init 194 = .ok (.iastore, 1) := by decide +kernel
theorem dX9_init_195 : decode cX9_init 195 = .ok (.dup, 1) := by decide +kernel
theorem dX9_init_196 : decode cX9_init 196 = .ok (.bipush 32, 2) := by decide +kernel
theorem dX9_init_198 : decode cX9_init 198 = .ok (.ldc 39, 2) := by decide +kernel
theorem dX9_init_200 : decode cX9_init 200 = .ok (.iastore, 1) := by decide +kernel
theorem dX9_init_201 : decode cX9_init 201 = .ok (.dup, 1) := by decide +kernel
theorem dX9_init_202 : decode cX9_init 202 = .ok (.bipush 33, 2) := by decide +kernel
theorem dX9_init_204 : decode cX9_init 204 = .ok (.ldc 40, 2) := by decide +kernel
theorem dX9_init_206 : decode cX9_init 206 = .ok (.iastore, 1) := by decide +kernel
theorem dX9_init_207 : decode cX9_init 207 = .ok (.dup, 1) := by decide +kernel
theorem dX9_init_208 : decode cX9_init 208 = .ok (.bipush 34, 2) := by decide +kernel
theorem dX9_init_210 : decode cX9_init 210 = .ok (.ldc 41, 2) := by decide +kernel
theorem dX9_init_212 : decode cX9_init 212 = .ok (.iastore, 1) := by decide +kernel
theorem dX9_init_213 : decode cX9_init 213 = .ok (.dup, 1) := by decide +kernel
theorem dX9_init_214 : decode cX9_init 214 = .ok (.bipush 35, 2) := by decide +kernel
theorem dX9_init_216 : decode cX9_init 216 = .ok (.ldc 42, 2) := by decide +kernel
theorem dX9_init_218 : decode cX9_init 218 = .ok (.iastore, 1) := by decide +kernel
theorem dX9_init_219 : decode cX9_init 219 = .ok (.dup, 1) := by decide +kernel
theorem dX9_init_220 : decode cX9_init 220 = .ok (.bipush 36, 2) := by decide +kernel
theorem dX9_init_222 : decode cX9_init 222 = .ok (.ldc 43, 2) := by decide +kernel
theorem dX9_init_224 : decode cX9_init 224 = .ok (.iastore, 1) := by decide +kernel
theorem dX9_init_225 : decode cX9_init 225 = .ok (.dup, 1) := by decide +kernel
theorem dX9_init_226 : decode cX9_init 226 = .ok (.bipush 37, 2) := by decide +kernel
theorem dX9_init_228 : decode cX9_init 228 = .ok (.ldc 44, 2) := by decide +kernel
theorem dX9_init_230 : decode cX9_init 230 = .ok (.iastore, 1) := by decide +kernel
theorem dX9_init_231 : decode cX9_init 231 = .ok (.dup, 1) := by decide +kernel
theorem dX9_init_232 : decode cX9_init 232 = .ok (.bipush 38, 2) := by decide +kernel
theorem dX9_init_234 : decode cX9_init 234 = .ok (.ldc 45, 2) := by decide +kernel
theorem dX9_init_236 : decode cX9_init 236 = .ok (.iastore, 1) := by decide +kernel
theorem dX9_init_237 : decode cX9_init 237 = .ok (.dup, 1) := by decide +kernel
theorem dX9_init_238 : decode cX9_init 238 = .ok (.bipush 39, 2) := by decide +kernel
theorem dX9_init_240 : decode cX9_init 240 = .ok (.ldc 46, 2) := by decide +kernel
theorem dX9_init_242 : decode cX9_init 242 = .ok (.iastore, 1) := by decide +kernel
theorem dX9_init_243 : decode cX9_init 243 = .ok (.dup, 1) := by decide +kernel
theorem dX9_init_244 : decode cX9_init 244 = .ok (.bipush 40, 2) := by decide +kernel
theorem dX9_init_246 : decode cX9_init 246 = .ok (.ldc 47, 2) := by decide +kernel
theorem dX9_init_248 : decode cX9_init 248 = .ok (.iastore, 1) := by decide +kernel
theorem dX9_init_249 : decode cX9_init 249 = .ok (.dup, 1) := by decide +kernel
theorem dX9_init_250 : decode cX9_init 250 = .ok (.bipush 41, 2) := by decide +kernel
theorem dX9_init_252 : decode cX9_init 252 = .ok (.ldc 48, 2) := by decide +kernel
theorem dX9_init_254 : decode cX9_init 254 = .ok (.iastore, 1) := by decide +kernel
theorem dX9_init_255 : decode cX9_init 255 = .ok (.dup, 1) := by decide +kernel
theorem dX9_init_256 : decode cX9_init 256 = .ok (.bipush 42, 2) := by decide +kernel
theorem dX9_init_258 : decode cX9_init 258 = .ok (.ldc 49, 2) := by decide +kernel
theorem dX9_init_260 : decode cX9_init 260 = .ok (.iastore, 1) := by decide +kernel
theorem dX9_init_261 : decode cX9_init 261 = .ok (.dup, 1) := by decide +kernel
theorem dX9_init_262 : decode cX9_init 262 = .ok (.bipush 43, 2) := by decide +kernel
theorem dX9_init_264 : decode cX9_init 264 = .ok (.ldc 50, 2) := by decide +kernel
theorem dX9_init_266 : decode cX9_init 266 = .ok (.iastore, 1) := by decide +kernel
theorem dX9_init_267 : decode cX9_init 267 = .ok (.dup, 1) := by decide +kernel
theorem dX9_init_268 : decode cX9_init 268 = .ok (.bipush 44, 2) := by decide +kernel
theorem dX9_init_270 : decode cX9_init 270 = .ok (.ldc 51, 2) := by decide +kernel
theorem dX9_init_272 : decode cX9_init 272 = .ok (.iastore, 1) := by decide +kernel
theorem dX9_init_273 : decode cX9_init 273 = .ok (.dup, 1) := by decide +kernel
theorem dX9_init_274 : decode cX9_init 274 = .ok (.bipush 45, 2) := by decide +kernel
theorem dX9_init_276 : decode cX9_init 276 = .ok (.ldc 52, 2) := by decide +kernel
theorem dX9_init_278 : decode cX9_init 278 = .ok (.iastore, 1) := by decide +kernel
theorem dX9_init_279 : decode cX9_init 279 = .ok (.dup, 1) := by decide +kernel
theorem dX9_init_280 : decode cX9_init 280 = .ok (.bipush 46, 2) := by decide +kernel
theorem dX9_init_282 : decode cX9_init 282 = .ok (.ldc 53, 2) := by decide +kernel
theorem dX9_init_284 : decode cX9_init 284 = .ok (.iastore, 1) := by decide +kernel
theorem dX9_init_285 : decode cX9_init 285 = .ok (.dup, 1) := by decide +kernel
theorem dX9_init_286 : decode cX9_init 286 = .ok (.bipush 47, 2) := by decide +kernel
theorem dX9_init_288 : decode cX9_init 288 = .ok (.ldc 54, 2) := by decide +kernel
theorem dX9_init_290 : decode cX9_init 290 = .ok (.iastore, 1) := by decide +kernel
theorem dX9_init_291 : decode cX9_init 291 = .ok (.dup, 1) := by decide +kernel
theorem dX9_init_292 : decode cX9_init 292 = .ok (.bipush 48, 2) := by decide +kernel
theorem dX9_init_294 : decode cX9_init 294 = .ok (.ldc 55, 2) := by decide +kernel
theorem dX9_init_296 : decode cX9_init 296 = .ok (.iastore, 1) := by decide +kernel
theorem dX9_init_297 : decode cX9_init 297 = .ok (.dup, 1) := by decide +kernel
theorem dX9_init_298 : decode cX9_init 298 = .ok (.bipush 49, 2) := by decide +kernel
theorem dX9_init_300 : decode cX9_init 300 = .ok (.ldc 56, 2) := by decide +kernel
theorem dX9_init_302 : decode cX9_init 302 = .ok (.iastore, 1) := by decide +kernel
theorem dX9_init_303 : decode cX9_init 303 = .ok (.dup, 1) := by decide +kernel
theorem dX9_init_304 : decode cX9_init 304 = .ok (.bipush 50, 2) := by decide +kernel
theorem dX9_init_306 : decode cX9_init 306 = .ok (.ldc 57, 2) := by decide +kernel
theorem dX9_init_308 : decode cX9_init 308 = .ok (.iastore, 1) := by decide +kernel
theorem dX9_init_309 : decode cX9_init 309 = .ok (.dup, 1) := by decide +kernel
theorem dX9_init_310 : decode cX9_init 310 = .ok (.bipush 51, 2) := by decide +kernel
theorem dX9_init_312 : decode cX9_init 312 = .ok (.ldc 58, 2) := by decide +kernel
theorem dX9_init_314 : decode cX9_init 314 = .ok (.iastore, 1) := by decide +kernel
theorem dX9_init_315 : decode cX9_init 315 = .ok (.dup, 1) := by decide +kernel
theorem dX9_init_316 : decode cX9_init 316 = .ok (.bipush 52, 2) := by decide +kernel
theorem dX9_init_318 : decode cX9_init 318 = .ok (.ldc 59, 2) := by decide +kernel
theorem dX9_init_320 : decode cX9_init 320 = .ok (.iastore, 1) := by decide +kernel
theorem dX9_init_321 : decode cX9_init 321 = .ok (.dup, 1) := by decide +kernel
theorem dX9_init_322 : decode cX9_init 322 = .ok (.bipush 53, 2) := by decide +kernel
theorem dX9_init_324 : decode cX9_init 324 = .ok (.ldc 60, 2) := by decide +kernel
theorem dX9_init_326 : decode cX9_init 326 = .ok (.iastore, 1) := by decide +kernel
theorem dX9_init_327 : decode cX9_init 327 = .ok (.dup, 1) := by decide +kernel
theorem dX9_init_328 : decode cX9_init 328 = .ok (.bipush 54, 2) := by decide +kernel
theorem dX9_init_330 : decode cX9_init 330 = .ok (.ldc 61, 2) := by decide +kernel
theorem dX9_init_332 : decode cX9_init 332 = .ok (.iastore, 1) := by decide +kernel
theorem dX9_init_333 : decode cX9_init 333 = .ok (.dup, 1) := by decide +kernel
theorem dX9_init_334 : decode cX9_init 334 = .ok (.bipush 55, 2) := by decide +kernel
theorem dX9_init_336 : decode cX9_init 336 = .ok (.ldc 62, 2) := by decide +kernel
theorem dX9_init_338 : decode cX9_init 338 = .ok (.iastore, 1) := by decide +kernel
theorem dX9_init_339 : decode cX9_init 339 = .ok (.dup, 1) := by decide +kernel
theorem dX9_init_340 : decode cX9_init 340 = .ok (.bipush 56, 2) := by decide +kernel
theorem dX9_init_342 : decode cX9_init 342 = .ok (.ldc 63, 2) := by decide +kernel
theorem dX9_init_344 : decode cX9_init 344 = .ok (.iastore, 1) := by decide +kernel
theorem dX9_init_345 : decode cX9_init 345 = .ok (.dup, 1) := by decide +kernel
theorem dX9_init_346 : decode cX9_init 346 = .ok (.bipush 57, 2) := by decide +kernel
theorem dX9_init_348 : decode cX9_init 348 = .ok (.ldc 64, 2) := by decide +kernel
theorem dX9_init_350 : decode cX9_init 350 = .ok (.iastore, 1) := by decide +kernel
theorem dX9_init_351 : decode cX9_init 351 = .ok (.dup, 1) := by decide +kernel
theorem dX9_init_352 : decode cX9_init 352 = .ok (.bipush 58, 2) := by decide +kernel
theorem dX9_init_354 : decode cX9_init 354 = .ok (.ldc 65, 2) := by decide +kernel
theorem dX9_init_356 : decode cX9_init 356 = .ok (.iastore, 1) := by decide +kernel
theorem dX9_init_357 : decode cX9_init 357 = .ok (.dup, 1) := by decide +kernel
theorem dX9_init_358 : decode cX9_init 358 = .ok (.bipush 59, 2) := by decide +kernel
theorem dX9_init_360 : decode cX9_init 360 = .ok (.ldc 66, 2) := by decide +kernel
theorem dX9_init_362 : decode cX9_init 362 = .ok (.iastore, 1) := by decide +kernel
theorem dX9_init_363 : decode cX9_init 363 = .ok (.dup, 1) := by decide +kernel
theorem dX9_init_364 : decode cX9_init 364 = .ok (.bipush 60, 2) := by decide +kernel
theorem dX9_init_366 : decode cX9_init 366 = .ok (.ldc 67, 2) := by decide +kernel
theorem dX9_init_368 : decode cX9_init 368 = .ok (.iastore, 1) := by decide +kernel
theorem dX9_init_369 : decode cX9_init 369 = .ok (.dup, 1) := by decide +kernel
theorem dX9_init_370 : decode cX9_init 370 = .ok (.bipush 61, 2) := by decide +kernel
theorem dX9_init_372 : decode cX9_init 372 = .ok (.ldc 68, 2) := by decide +kernel
theorem dX9_init_374 : decode cX9_init 374 = .ok (.iastore, 1) := by decide +kernel
theorem dX9_init_375 : decode cX9_init 375 = .ok (.dup, 1) := by decide +kernel
theorem dX9_init_376 : decode cX9_init 376 = .ok (.bipush 62, 2) := by decide +kernel
theorem dX9_init_378 : decode cX9_init 378 = .ok (.ldc 69, 2) := by decide +kernel
theorem dX9_init_380 : decode cX9_init 380 = .ok (.iastore, 1) := by decide +kernel
theorem dX9_init_381 : decode cX9_init 381 = .ok (.dup, 1) := by decide +kernel
theorem dX9_init_382 : decode cX9_init 382 = .ok (.bipush 63, 2) := by decide +kernel
theorem dX9_init_384 : decode cX9_init 384 = .ok (.ldc 70, 2) := by decide +kernel
theorem dX9_init_386 : decode cX9_init 386 = .ok (.iastore, 1) := by decide +kernel
theorem dX9_init_387 : decode cX9_init 387 = .ok (.putfield 71, 3) := by decide +kernel
theorem dX9_init_390 : decode cX9_init 390 = .ok (.aload_n 0, 1) := by decide +kernel
theorem dX9_init_391 : decode cX9_init 391 = .ok (.bipush 8, 2) := by decide +kernel
theorem dX9_init_393 : decode cX9_init 393 = .ok (.newarray .int, 2) := by decide +kernel
theorem dX9_init_395 : decode cX9_init 395 = .ok (.dup, 1) := by decide +kernel
theorem dX9_init_396 : decode cX9_init 396 = .ok (.iconst 0, 1) := by decide +kernel
theorem dX9_init_397 : decode cX9_init 397 = .ok (.ldc 77, 2) := by decide +kernel
theorem dX9_init_399 : decode cX9_init 399 = .ok (.iastore, 1) := by decide +kernel
theorem dX9_init_400 : decode cX9_init 400 = .ok (.dup, 1) := by decide +kernel
theorem dX9_init_401 : decode cX9_init 401 = .ok (.iconst 1, 1) := by decide +kernel
theorem dX9_init_402 : decode cX9_init 402 = .ok (.ldc 78, 2) := by decide +kernel
theorem dX9_init_404 : decode cX9_init 404 = .ok (.iastore, 1) := by decide +kernel
theorem dX9_init_405 : decode cX9_init 405 = .ok (.dup, 1) := by decide +kernel
theorem dX9_init_406 : decode cX9_init 406 = .ok (.iconst 2, 1) := by decide +kernel
theorem dX9_init_407 : decode cX9_init 407 = .ok (.ldc 79, 2) := by decide +kernel
theorem dX9_init_409 : decode cX9_init 409 = .ok (.iastore, 1) := by decide +kernel
theorem dX9_init_410 : decode cX9_init 410 = .ok (.dup, 1) := by decide +kernel
theorem dX9_init_411 : decode cX9_init 411 = .ok (.iconst 3, 1) := by decide +kernel
theorem dX9_init_412 : decode cX9_init 412 = .ok (.ldc 80, 2) := by decide +kernel
theorem dX9_init_414 : decode cX9_init 414 = .ok (.iastore, 1) := by decide +kernel
theorem dX9_init_415 : decode cX9_init 415 = .ok (.dup, 1) := by decide +kernel
theorem dX9_init_416 : decode cX9_init 416 = .ok (.iconst 4, 1) := by decide +kernel
theorem dX9_init_417 : decode cX9_init 417 = .ok (.ldc 81, 2) := by decide +kernel
theorem dX9_init_419 : decode cX9_init 419 = .ok (.iastore, 1) := by decide +kernel
theorem dX9_init_420 : decode cX9_init 420 = .ok (.dup, 1) := by decide +kernel
theorem dX9_init_421 : decode cX9_init 421 = .ok (.iconst 5, 1) := by decide +kernel
theorem dX9_init_422 : decode cX9_init 422 = .ok (.ldc 82, 2) := by decide +kernel
theorem dX9_init_424 : decode cX9_init 424 = .ok (.iastore, 1) := by decide +kernel
theorem dX9_init_425 : decode cX9_init 425 = .ok (.dup, 1) := by decide +kernel
theorem dX9_init_426 : decode cX9_init 426 = .ok (.bipush 6, 2) := by decide +kernel
theorem dX9_init_428 : decode cX9_init 428 = .ok (.ldc 83, 2) := by decide +kernel
theorem dX9_init_430 : decode cX9_init 430 = .ok (.iastore, 1) := by decide +kernel
theorem dX9_init_431 : decode cX9_init 431 = .ok (.dup, 1) := by decide +kernel
theorem dX9_init_432 : decode cX9_init 432 = .ok (.bipush 7, 2) := by decide +kernel
theorem dX9_init_434 : decode cX9_init 434 = .ok (.ldc 84, 2) := by decide +kernel
theorem dX9_init_436 : decode cX9_init 436 = .ok (.iastore, 1) := by decide +kernel
theorem dX9_init_437 : decode cX9_init 437 = .ok (.putfield 85, 3) := by decide +kernel
theorem dX9_init_440 : decode cX9_init 440 = .ok (.aload_n 0, 1) := by decide +kernel
theorem dX9_init_441 : decode cX9_init 441 = .ok (.sipush 2016, 3) := by decide +kernel
theorem dX9_init_444 : decode cX9_init 444 = .ok (.newarray .int, 2) := by decide +kernel
theorem dX9_init_446 : decode cX9_init 446 = .ok (.putfield 88, 3) := by decide +kernel
theorem dX9_init_449 : decode cX9_init 449 = .ok (.aload_n 0, 1) := by decide +kernel
theorem dX9_init_450 : decode cX9_init 450 = .ok (.sipush 336, 3) := by decide +kernel
theorem dX9_init_453 : decode cX9_init 453 = .ok (.newarray .int, 2) := by decide +kernel
theorem dX9_init_455 : decode cX9_init 455 = .ok (.putfield 91, 3) := by decide +kernel
theorem dX9_init_458 : decode cX9_init 458 = .ok (.aload_n 0, 1) := by decide +kernel
theorem dX9_init_459 : decode cX9_init 459 = .ok (.sipush 1152, 3) := by decide +kernel
theorem dX9_init_462 : decode cX9_init 462 = .ok (.newarray .int, 2) := by decide +kernel
theorem dX9_init_464 : decode cX9_init 464 = .ok (.putfield 94, 3) := by decide +kernel
theorem dX9_init_467 : decode cX9_init 467 = .ok (.aload_n 0, 1) := by decide +kernel
theorem dX9_init_468 : decode cX9_init 468 = .ok (.bipush 96, 2) := by decide +kernel
theorem dX9_init_470 : decode cX9_init 470 = .ok (.newarray .int, 2) := by decide +kernel
theorem dX9_init_472 : decode cX9_init 472 = .ok (.putfield 97, 3) := by decide +kernel
theorem dX9_init_475 : decode cX9_init 475 = .ok (.aload_n 0, 1) := by decide +kernel
theorem dX9_init_476 : decode cX9_init 476 = .ok (.iconst 1, 1) := by decide +kernel
theorem dX9_init_477 : decode cX9_init 477 = .ok (.putfield 100, 3) := by decide +kernel
theorem dX9_init_480 : decode cX9_init 480 = .ok (.aload_n 0, 1) := by decide +kernel
theorem dX9_init_481 : decode cX9_init 481 = .ok (.iconst 4, 1) := by decide +kernel
theorem dX9_init_482 : decode cX9_init 482 = .ok (.newarray .int, 2) := by decide +kernel
theorem dX9_init_484 : decode cX9_init 484 = .ok (.putfield 104, 3) := by decide +kernel
theorem dX9_init_487 : decode cX9_init 487 = .ok (.aload_n 0, 1) := by decide +kernel
theorem dX9_init_488 : decode cX9_init 488 = .ok (.bipush 64, 2) := by decide +kernel
theorem dX9_init_490 : decode cX9_init 490 = .ok (.newarray .int, 2) := by decide +kernel
theorem dX9_init_492 : decode cX9_init 492 = .ok (.putfield 107, 3) := by decide +kernel
theorem dX9_init_495 : decode cX9_init 495 = .ok (.aload_n 0, 1) := by decide +kernel
theorem dX9_init_496 : decode cX9_init 496 = .ok (.bipush 12, 2) := by decide +kernel
theorem dX9_init_498 : decode cX9_init 498 = .ok (.newarray .int, 2) := by decide +kernel
theorem dX9_init_500 : decode cX9_init 500 = .ok (.putfield 110, 3) := by decide +kernel
theorem dX9_init_503 : decode cX9_init 503 = .ok (.aload_n 0, 1) := by decide +kernel
theorem dX9_init_504 : decode cX9_init 504 = .ok (.sipush 256, 3) := by decide +kernel
theorem dX9_init_507 : decode cX9_init 507 = .ok (.newarray .int, 2) := by decide +kernel
theorem dX9_init_509 : decode cX9_init 509 = .ok (.putfield 113, 3) := by decide +kernel
theorem dX9_init_512 : decode cX9_init 512 = .ok (.aload_n 0, 1) := by decide +kernel
theorem dX9_init_513 : decode cX9_init 513 = .ok (.bipush 32, 2) := by decide +kernel
theorem dX9_init_515 : decode cX9_init 515 = .ok (.newarray .int, 2) := by decide +kernel
theorem dX9_init_517 : decode cX9_init 517 = .ok (.putfield 116, 3) := by decide +kernel
theorem dX9_init_520 : decode cX9_init 520 = .ok (.aload_n 0, 1) := by decide +kernel
theorem dX9_init_521 : decode cX9_init 521 = .ok (.bipush 32, 2) := by decide +kernel
theorem dX9_init_523 : decode cX9_init 523 = .ok (.newarray .int, 2) := by decide +kernel
theorem dX9_init_525 : decode cX9_init 525 = .ok (.putfield 119, 3) := by decide +kernel
theorem dX9_init_528 : decode cX9_init 528 = .ok (.aload_n 0, 1) := by decide +kernel
theorem dX9_init_529 : decode cX9_init 529 = .ok (.bipush 64, 2) := by decide +kernel
theorem dX9_init_531 : decode cX9_init 531 = .ok (.newarray .int, 2) := by decide +kernel
theorem dX9_init_533 : decode cX9_init 533 = .ok (.putfield 122, 3) := by decide +kernel
theorem dX9_init_536 : decode cX9_init 536 = .ok (.aload_n 0, 1) := by decide +kernel
theorem dX9_init_537 : decode cX9_init 537 = .ok (.bipush 8, 2) := by decide +kernel
theorem dX9_init_539 : decode cX9_init 539 = .ok (.newarray .int, 2) := by decide +kernel
theorem dX9_init_541 : decode cX9_init 541 = .ok (.putfield 125, 3) := by decide +kernel
theorem dX9_init_544 : decode cX9_init 544 = .ok (.aload_n 0, 1) := by decide +kernel
theorem dX9_init_545 : decode cX9_init 545 = .ok (.sipush 512, 3) := by decide +kernel
theorem dX9_init_548 : decode cX9_init 548 = .ok (.newarray .int, 2) := by decide +kernel
theorem dX9_init_550 : decode cX9_init 550 = .ok (.putfield 128, 3) := by decide +kernel
theorem dX9_init_553 : decode cX9_init 553 = .ok (.aload_n 0, 1) := by decide +kernel
theorem dX9_init_554 : decode cX9_init 554 = .ok (.bipush 64, 2) := by decide +kernel
theorem dX9_init_556 : decode cX9_init 556 = .ok (.newarray .int, 2) := by decide +kernel
theorem dX9_init_558 : decode cX9_init 558 = .ok (.putfield 131, 3) := by decide +kernel
theorem dX9_init_561 : decode cX9_init 561 = .ok (.aload_n 0, 1) := by decide +kernel
theorem dX9_init_562 : decode cX9_init 562 = .ok (.iconst 0, 1) := by decide +kernel
theorem dX9_init_563 : decode cX9_init 563 = .ok (.invokevirtual 134, 3) := by decide +kernel
theorem dX9_init_566 : decode cX9_init 566 = .ok (.iconst 0, 1) := by decide +kernel
theorem dX9_init_567 : decode cX9_init 567 = .ok (.istore_n 1, 1) := by decide +kernel
theorem dX9_init_568 : decode cX9_init 568 = .ok (.iload_n 1, 1) := by decide +kernel
theorem dX9_init_569 : decode cX9_init 569 = .ok (.iconst 4, 1) := by decide +kernel
theorem dX9_init_570 : decode cX9_init 570 = .ok (.if_icmp .ge 54, 3) := by decide +kernel
theorem dX9_init_573 : decode cX9_init 573 = .ok (.iconst 0, 1) := by decide +kernel
theorem dX9_init_574 : decode cX9_init 574 = .ok (.istore_n 2, 1) := by decide +kernel
theorem dX9_init_575 : decode cX9_init 575 = .ok (.iload_n 2, 1) := by decide +kernel
theorem dX9_init_576 : decode cX9_init 576 = .ok (.bipush 84, 2) := by decide +kernel
theorem dX9_init_578 : decode cX9_init 578 = .ok (.if_icmp .ge 29, 3) := by decide +kernel
theorem dX9_init_581 : decode cX9_init 581 = .ok (.aload_n 0, 1) := by decide +kernel
theorem dX9_init_582 : decode cX9_init 582 = .ok (.getfield 91, 3) := by decide +kernel
theorem dX9_init_585 : decode cX9_init 585 = .ok (.bipush 84, 2) := by decide +kernel
theorem dX9_init_587 : decode cX9_init 587 = .ok (.iload_n 1, 1) := by decide +kernel
theorem dX9_init_588 : decode cX9_init 588 = .ok (.imul, 1) := by decide +kernel
theorem dX9_init_589 : decode cX9_init 589 = .ok (.iload_n 2, 1) := by decide +kernel
theorem dX9_init_590 : decode cX9_init 590 = .ok (.iadd, 1) := by decide +kernel
theorem dX9_init_591 : decode cX9_init 591 = .ok (.iload_n 2, 1) := by decide +kernel
theorem dX9_init_592 : decode cX9_init 592 = .ok (.ifCond .ne 7, 3) := by decide +kernel
theorem dX9_init_595 : decode cX9_init 595 = .ok (.iload_n 1, 1) := by decide +kernel
theorem dX9_init_596 : decode cX9_init 596 = .ok (.goto 4, 3) := by decide +kernel
theorem dX9_init_599 : decode cX9_init 599 = .ok (.iconst 0, 1) := by decide +kernel
theorem dX9_init_600 : decode cX9_init 600 = .ok (.iastore, 1) := by decide +kernel
theorem dX9_init_601 : decode cX9_init 601 = .ok (.iinc 2 1, 3) := by decide +kernel
theorem dX9_init_604 : decode cX9_init 604 = .ok (.goto (-29), 3) := by decide +kernel
theorem dX9_init_607 : decode cX9_init 607 = .ok (.aload_n 0, 1) := by decide +kernel
theorem dX9_init_608 : decode cX9_init 608 = .ok (.iload_n 1, 1) := by decide +kernel
theorem dX9_init_609 : decode cX9_init 609 = .ok (.invokevirtual 138, 3) := by decide +kernel
theorem dX9_init_612 : decode cX9_init 612 = .ok (.aload_n 0, 1) := by decide +kernel
theorem dX9_init_613 : decode cX9_init 613 = .ok (.iconst 0, 1) := by decide +kernel
theorem dX9_init_614 : decode cX9_init 614 = .ok (.iload_n 1, 1) := by decide +kernel
theorem dX9_init_615 : decode cX9_init 615 = .ok (.invokevirtual 141, 3) := by decide +kernel
theorem dX9_init_618 : decode cX9_init 618 = .ok (.iinc 1 1, 3) := by decide +kernel
theorem dX9_init_621 : decode cX9_init 621 = .ok (.goto (-53), 3) := by decide +kernel
theorem dX9_init_624 : decode cX9_init 624 = .ok (.return_, 1) := by decide +kernel
theorem dX9_add_0 : decode cX9_add 0 = .ok (.aload_n 0, 1) := by decide +kernel
theorem dX9_add_1 : decode cX9_add 1 = .ok (.getfield 113, 3) := by decide +kernel
theorem dX9_add_4 : decode cX9_add 4 = .ok (.aload_n 0, 1) := by decide +kernel
theorem dX9_add_5 : decode cX9_add 5 = .ok (.getfield 145, 3) := by decide +kernel
theorem dX9_add_8 : decode cX9_add 8 = .ok (.iload_n 1, 1) := by decide +kernel
theorem dX9_add_9 : decode cX9_add 9 = .ok (.sipush 255, 3) := by decide +kernel
theorem dX9_add_12 : decode cX9_add 12 = .ok (.iand, 1) := by decide +kernel
theorem dX9_add_13 : decode cX9_add 13 = .ok (.iastore, 1) := by decide +kernel
theorem dX9_add_14 : decode cX9_add 14 = .ok (.aload_n 0, 1) := by decide +kernel
theorem dX9_add_15 : decode cX9_add 15 = .ok (.dup, 1) := by decide +kernel
theorem dX9_add_16 : decode cX9_add 16 = .ok (.getfield 145, 3) := by decide +kernel
theorem dX9_add_19 : decode cX9_add 19 = .ok (.iconst 1, 1) := by decide +kernel
theorem dX9_add_20 : decode cX9_add 20 = .ok (.iadd, 1) := by decide +kernel
theorem dX9_add_21 : decode cX9_add 21 = .ok (.putfield 145, 3) := by decide +kernel
theorem dX9_add_24 : decode cX9_add 24 = .ok (.return_, 1) := by decide +kernel
theorem dX9_right_0 : decode cX9_right 0 = .ok (.iload_n 0, 1) := by decide +kernel
theorem dX9_right_1 : decode cX9_right 1 = .ok (.iload_n 1, 1) := by decide +kernel
theorem dX9_right_2 : decode cX9_right 2 = .ok (.iushr, 1) := by decide +kernel
theorem dX9_right_3 : decode cX9_right 3 = .ok (.iload_n 0, 1) := by decide +kernel
theorem dX9_right_4 : decode cX9_right 4 = .ok (.bipush 32, 2) := by decide +kernel
theorem dX9_right_6 : decode cX9_right 6 = .ok (.iload_n 1, 1) := by decide +kernel
theorem dX9_right_7 : decode cX9_right 7 = .ok (.isub, 1) := by decide +kernel
theorem dX9_right_8 : decode cX9_right 8 = .ok (.ishl, 1) := by decide +kernel
theorem dX9_right_9 : decode cX9_right 9 = .ok (.ior, 1) := by decide +kernel
theorem dX9_right_10 : decode cX9_right 10 = .ok (.ireturn, 1) := by decide +kernel
set_option maxRecDepth 20000 in
theorem ggX9_mix_X9_right : GoodIn wsX9_mix wsX9_right := goodIn_r _ [8] (by decide +kernel) (by decide +kernel)
set_option maxRecDepth 20000 in
theorem gX9_mix_X9_right : GoodIn wsX9_mix (va_wsS RX9 148 yX9_right wsX9_right) := goodIn_app (goodIn_of _ (by decide +kernel)) ggX9_mix_X9_right
theorem dX9_mix_0 : decode cX9_mix 0 = .ok (.iconst 0, 1) := by decide +kernel
theorem dX9_mix_1 : decode cX9_mix 1 = .ok (.istore_n 2, 1) := by decide +kernel
theorem dX9_mix_2 : decode cX9_mix 2 = .ok (.iload_n 2, 1) := by decide +kernel
theorem dX9_mix_3 : decode cX9_mix 3 = .ok (.bipush 16, 2) := by decide +kernel
theorem dX9_mix_5 : decode cX9_mix 5 = .ok (.if_icmp .ge 63, 3) := by decide +kernel
theorem dX9_mix_8 : decode cX9_mix 8 = .ok (.iload_n 1, 1) := by decide +kernel
theorem dX9_mix_9 : decode cX9_mix 9 = .ok (.iconst 4, 1) := by decide +kernel
theorem dX9_mix_10 : decode cX9_mix 10 = .ok (.iload_n 2, 1) := by decide +kernel
theorem dX9_mix_11 : decode cX9_mix 11 = .ok (.imul, 1) := by decide +kernel
theorem dX9_mix_12 : decode cX9_mix 12 = .ok (.iadd, 1) := by decide +kernel
theorem dX9_mix_13 : decode cX9_mix 13 = .ok (.istore_n 3, 1) := by decide +kernel
theorem dX9_mix_14 : decode cX9_mix 14 = .ok (.aload_n 0, 1) := by decide +kernel
theorem dX9_mix_15 : decode cX9_mix 15 = .ok (.getfield 122, 3) := by decide +kernel
theorem dX9_mix_18 : decode cX9_mix 18 = .ok (.iload_n 2, 1) := by decide +kernel
theorem dX9_mix_19 : decode cX9_mix 19 = .ok (.aload_n 0, 1) := by decide +kernel
theorem dX9_mix_20 : decode cX9_mix 20 = .ok (.getfield 113, 3) := by decide +kernel
theorem dX9_mix_23 : decode cX9_mix 23 = .ok (.iload_n 3, 1) := by decide +kernel
theorem dX9_mix_24 : decode cX9_mix 24 = .ok (.iaload, 1) := by decide +kernel
theorem dX9_mix_25 : decode cX9_mix 25 = .ok (.bipush 24, 2) := by decide +kernel
theorem dX9_mix_27 : decode cX9_mix 27 = .ok (.ishl, 1) := by decide +kernel
theorem dX9_mix_28 : decode cX9_mix 28 = .ok (.aload_n 0, 1) := by decide +kernel
theorem dX9_mix_29 : decode cX9_mix 29 = .ok (.getfield 113, 3) := by decide +kernel
theorem dX9_mix_32 : decode cX9_mix 32 = .ok (.iload_n 3, 1) := by decide +kernel
theorem dX9_mix_33 : decode cX9_mix 33 = .ok (.iconst 1, 1) := by decide +kernel
theorem dX9_mix_34 : decode cX9_mix 34 = .ok (.iadd, 1) := by decide +kernel
theorem dX9_mix_35 : decode cX9_mix 35 = .ok (.iaload, 1) := by decide +kernel
theorem dX9_mix_36 : decode cX9_mix 36 = .ok (.bipush 16, 2) := by decide +kernel
theorem dX9_mix_38 : decode cX9_mix 38 = .ok (.ishl, 1) := by decide +kernel
theorem dX9_mix_39 : decode cX9_mix 39 = .ok (.ior, 1) := by decide +kernel
theorem dX9_mix_40 : decode cX9_mix 40 = .ok (.aload_n 0, 1) := by decide +kernel
theorem dX9_mix_41 : decode cX9_mix 41 = .ok (.getfield 113, 3) := by decide +kernel
theorem dX9_mix_44 : decode cX9_mix 44 = .ok (.iload_n 3, 1) := by decide +kernel
theorem dX9_mix_45 : decode cX9_mix 45 = .ok (.iconst 2, 1) := by decide +kernel
theorem dX9_mix_46 : decode cX9_mix 46 = .ok (.iadd, 1) := by decide +kernel
theorem dX9_mix_47 : decode cX9_mix 47 = .ok (.iaload, 1) := by decide +kernel
theorem dX9_mix_48 : decode cX9_mix 48 = .ok (.bipush 8, 2) := by decide +kernel
theorem dX9_mix_50 : decode cX9_mix 50 = .ok (.ishl, 1) := by decide +kernel
theorem dX9_mix_51 : decode cX9_mix 51 = .ok (.ior, 1) := by decide +kernel
theorem dX9_mix_52 : decode cX9_mix 52 = .ok (.aload_n 0, 1) := by decide +kernel
theorem dX9_mix_53 : decode cX9_mix 53 = .ok (.getfield 113, 3) := by decide +kernel
theorem dX9_mix_56 : decode cX9_mix 56 = .ok (.iload_n 3, 1) := by decide +kernel
theorem dX9_mix_57 : decode cX9_mix 57 = .ok (.iconst 3, 1) := by decide +kernel
theorem dX9_mix_58 : decode cX9_mix 58 = .ok (.iadd, 1) := by decide +kernel
theorem dX9_mix_59 : decode cX9_mix 59 = .ok (.iaload, 1) := by decide +kernel
theorem dX9_mix_60 : decode cX9_mix 60 = .ok (.ior, 1) := by decide +kernel
theorem dX9_mix_61 : decode cX9_mix 61 = .ok (.iastore, 1) := by decide +kernel
theorem dX9_mix_62 : decode cX9_mix 62 = .ok (.iinc 2 1, 3) := by decide +kernel
theorem dX9_mix_65 : decode cX9_mix 65 = .ok (.goto (-63), 3) := by decide +kernel
theorem dX9_mix_68 : decode cX9_mix 68 = .ok (.bipush 16, 2) := by decide +kernel
theorem dX9_mix_70 : decode cX9_mix 70 = .ok (.istore_n 2, 1) := by decide +kernel
theorem dX9_mix_71 : decode cX9_mix 71 = .ok (.iload_n 2, 1) := by decide +kernel
theorem dX9_mix_72 : decode cX9_mix 72 = .ok (.bipush 64, 2) := by decide +kernel
theorem dX9_mix_74 : decode cX9_mix 74 = .ok (.if_icmp .ge 94, 3) := by decide +kernel
theorem dX9_mix_77 : decode cX9_mix 77 = .ok (.aload_n 0, 1) := by decide +kernel
theorem dX9_mix_78 : decode cX9_mix 78 = .ok (.getfield 122, 3) := by decide +kernel
theorem dX9_mix_81 : decode cX9_mix 81 = .ok (.iload_n 2, 1) := by decide +kernel
theorem dX9_mix_82 : decode cX9_mix 82 = .ok (.bipush 15, 2) := by decide +kernel
theorem dX9_mix_84 : decode cX9_mix 84 = .ok (.isub, 1) := by decide +kernel
theorem dX9_mix_85 : decode cX9_mix 85 = .ok (.iaload, 1) := by decide +kernel
theorem dX9_mix_86 : decode cX9_mix 86 = .ok (.istore_n 3, 1) := by decide +kernel
theorem dX9_mix_87 : decode cX9_mix 87 = .ok (.aload_n 0, 1) := by decide +kernel
theorem dX9_mix_88 : decode cX9_mix 88 = .ok (.getfield 122, 3) := by decide +kernel
theorem dX9_mix_91 : decode cX9_mix 91 = .ok (.iload_n 2, 1) := by decide +kernel
theorem dX9_mix_92 : decode cX9_mix 92 = .ok (.iconst 2, 1) := by decide +kernel
theorem dX9_mix_93 : decode cX9_mix 93 = .ok (.isub, 1) := by decide +kernel
theorem dX9_mix_94 : decode cX9_mix 94 = .ok (.iaload, 1) := by decide +kernel
theorem dX9_mix_95 : decode cX9_mix 95 = .ok (.istore 4, 2) := by decide +kernel
theorem dX9_mix_97 : decode cX9_mix 97 = .ok (.aload_n 0, 1) := by decide +kernel
theorem dX9_mix_98 : decode cX9_mix 98 = .ok (.getfield 122, 3) := by decide +kernel
theorem dX9_mix_101 : decode cX9_mix 101 = .ok (.iload_n 2, 1) := by decide +kernel
theorem dX9_mix_102 : decode cX9_mix 102 = .ok (.aload_n 0, 1) := by decide +kernel
theorem dX9_mix_103 : decode cX9_mix 103 = .ok (.getfield 122, 3) := by decide +kernel
theorem dX9_mix_106 : decode cX9_mix 106 = .ok (.iload_n 2, 1) := by decide +kernel
theorem dX9_mix_107 : decode cX9_mix 107 = .ok (.bipush 16, 2) := by decide +kernel
theorem dX9_mix_109 : decode cX9_mix 109 = .ok (.isub, 1) := by decide +kernel
theorem dX9_mix_110 : decode cX9_mix 110 = .ok (.iaload, 1) := by decide +kernel
theorem dX9_mix_111 : decode cX9_mix 111 = .ok (.aload_n 0, 1) := by decide +kernel
theorem dX9_mix_112 : decode cX9_mix 112 = .ok (.getfield 122, 3) := by decide +kernel
theorem dX9_mix_115 : decode cX9_mix 115 = .ok (.iload_n 2, 1) := by decide +kernel
theorem dX9_mix_116 : decode cX9_mix 116 = .ok (.bipush 7, 2) := by decide +kernel
theorem dX9_mix_118 : decode cX9_mix 118 = .ok (.isub, 1) := by decide +kernel
theorem dX9_mix_119 : decode cX9_mix 119 = .ok (.iaload, 1) := by decide +kernel
theorem dX9_mix_120 : decode cX9_mix 120 = .ok (.iadd, 1) := by decide +kernel
theorem dX9_mix_121 : decode cX9_mix 121 = .ok (.iload_n 3, 1) := by decide +kernel
theorem dX9_mix_122 : decode cX9_mix 122 = .ok (.bipush 7, 2) := by decide +kernel
theorem dX9_mix_124 : decode cX9_mix 124 = .ok (.invokestatic 148, 3) := by decide +kernel
theorem dX9_mix_127 : decode cX9_mix 127 = .ok (.iload_n 3, 1) := by decide +kernel
theorem dX9_mix_128 : decode cX9_mix 128 = .ok (.bipush 18, 2) := by decide +kernel
theorem dX9_mix_130 : decode cX9_mix 130 = .ok (.invokestatic 148, 3) := by decide +kernel
theorem dX9_mix_133 : decode cX9_mix 133 = .ok (.ixor, 1) := by decide +kernel
theorem dX9_mix_134 : decode cX9_mix 134 = .ok (.iload_n 3, 1) := by decide +kernel
theorem dX9_mix_135 : decode cX9_mix 135 = .ok (.iconst 3, 1) := by decide +kernel
theorem dX9_mix_136 : decode cX9_mix 136 = .ok (.iushr, 1) := by decide +kernel
theorem dX9_mix_137 : decode cX9_mix 137 = .ok (.ixor, 1) := by decide +kernel
theorem dX9_mix_138 : decode cX9_mix 138 = .ok (.iadd, 1) := by decide +kernel
theorem dX9_mix_139 : decode cX9_mix 139 = .ok (.iload 4, 2) := by decide +kernel
theorem dX9_mix_141 : decode cX9_mix 141 = .ok (.bipush 17, 2) := by decide +kernel
theorem dX9_mix_143 : decode cX9_mix 143 = .ok (.invokestatic 148, 3) := by decide +kernel
theorem dX9_mix_146 : decode cX9_mix 146 = .ok (.iload 4, 2) := by decide +kernel
theorem dX9_mix_148 : decode cX9_mix 148 = .ok (.bipush 19, 2) := by decide +kernel
theorem dX9_mix_150 : decode cX9_mix 150 = .ok (.invokestatic 148, 3) := by decide +kernel
theorem dX9_mix_153 : decode cX9_mix 153 = .ok (.ixor, 1) := by decide +kernel
theorem dX9_mix_154 : decode cX9_mix 154 = .ok (.iload 4, 2) := by decide +kernel
theorem dX9_mix_156 : decode cX9_mix 156 = .ok (.bipush 10, 2) := by decide +kernel
theorem dX9_mix_158 : decode cX9_mix 158 = .ok (.iushr, 1) := by decide +kernel
theorem dX9_mix_159 : decode cX9_mix 159 = .ok (.ixor, 1) := by decide +kernel
theorem dX9_mix_160 : decode cX9_mix 160 = .ok (.iadd, 1) := by decide +kernel
theorem dX9_mix_161 : decode cX9_mix 161 = .ok (.iastore, 1) := by decide +kernel
theorem dX9_mix_162 : decode cX9_mix 162 = .ok (.iinc 2 1, 3) := by decide +kernel
theorem dX9_mix_165 : decode cX9_mix 165 = .ok (.goto (-94), 3) := by decide +kernel
theorem dX9_mix_168 : decode cX9_mix 168 = .ok (.aload_n 0, 1) := by decide +kernel
theorem dX9_mix_169 : decode cX9_mix 169 = .ok (.getfield 125, 3) := by decide +kernel
theorem dX9_mix_172 : decode cX9_mix 172 = .ok (.iconst 0, 1) := by decide +kernel
theorem dX9_mix_173 : decode cX9_mix 173 = .ok (.iaload, 1) := by decide +kernel
theorem dX9_mix_174 : decode cX9_mix 174 = .ok (.istore_n 2, 1) := by decide +kernel
theorem dX9_mix_175 : decode cX9_mix 175 = .ok (.aload_n 0, 1) := by decide +kernel
theorem dX9_mix_176 : decode cX9_mix 176 = .ok (.getfield 125, 3) := by decide +kernel
theorem dX9_mix_179 : decode cX9_mix 179 = .ok (.iconst 1, 1) := by decide +kernel
theorem dX9_mix_180 : decode cX9_mix 180 = .ok (.iaload, 1) := by decide +kernel
theorem dX9_mix_181 : decode cX9_mix 181 = .ok (.istore_n 3, 1) := by decide +kernel
theorem dX9_mix_182 : decode cX9_mix 182 = .ok (.aload_n 0, 1) := by decide +kernel
theorem dX9_mix_183 : decode cX9_mix 183 = .ok (.getfield 125, 3) := by decide +kernel
theorem dX9_mix_186 : decode cX9_mix 186 = .ok (.iconst 2, 1) := by decide +kernel
theorem dX9_mix_187 : decode cX9_mix 187 = .ok (.iaload, 1) := by decide +kernel
theorem dX9_mix_188 : decode cX9_mix 188 = .ok (.istore 4, 2) := by decide +kernel
theorem dX9_mix_190 : decode cX9_mix 190 = .ok (.aload_n 0, 1) := by decide +kernel
theorem dX9_mix_191 : decode cX9_mix 191 = .ok (.getfield 125, 3) := by decide +kernel
theorem dX9_mix_194 : decode cX9_mix 194 = .ok (.iconst 3, 1) := by decide +kernel
theorem dX9_mix_195 : decode cX9_mix 195 = .ok (.iaload, 1) := by decide +kernel
theorem dX9_mix_196 : decode cX9_mix 196 = .ok (.istore 5, 2) := by decide +kernel
theorem dX9_mix_198 : decode cX9_mix 198 = .ok (.aload_n 0, 1) := by decide +kernel
theorem dX9_mix_199 : decode cX9_mix 199 = .ok (.getfield 125, 3) := by decide +kernel
theorem dX9_mix_202 : decode cX9_mix 202 = .ok (.iconst 4, 1) := by decide +kernel
theorem dX9_mix_203 : decode cX9_mix 203 = .ok (.iaload, 1) := by decide +kernel
theorem dX9_mix_204 : decode cX9_mix 204 = .ok (.istore 6, 2) := by decide +kernel
theorem dX9_mix_206 : decode cX9_mix 206 = .ok (.aload_n 0, 1) := by decide +kernel
theorem dX9_mix_207 : decode cX9_mix 207 = .ok (.getfield 125, 3) := by decide +kernel
theorem dX9_mix_210 : decode cX9_mix 210 = .ok (.iconst 5, 1) := by decide +kernel
theorem dX9_mix_211 : decode cX9_mix 211 = .ok (.iaload, 1) := by decide +kernel
theorem dX9_mix_212 : decode cX9_mix 212 = .ok (.istore 7, 2) := by decide +kernel
theorem dX9_mix_214 : decode cX9_mix 214 = .ok (.aload_n 0, 1) := by decide +kernel
theorem dX9_mix_215 : decode cX9_mix 215 = .ok (.getfield 125, 3) := by decide +kernel
theorem dX9_mix_218 : decode cX9_mix 218 = .ok (.bipush 6, 2) := by decide +kernel
theorem dX9_mix_220 : decode cX9_mix 220 = .ok (.iaload, 1) := by decide +kernel
theorem dX9_mix_221 : decode cX9_mix 221 = .ok (.istore 8, 2) := by decide +kernel
theorem dX9_mix_223 : decode cX9_mix 223 = .ok (.aload_n 0, 1) := by decide +kernel
theorem dX9_mix_224 : decode cX9_mix 224 = .ok (.getfield 125, 3) := by decide +kernel
theorem dX9_mix_227 : decode cX9_mix 227 = .ok (.bipush 7, 2) := by decide +kernel
theorem dX9_mix_229 : decode cX9_mix 229 = .ok (.iaload, 1) := by decide +kernel
theorem dX9_mix_230 : decode cX9_mix 230 = .ok (.istore 9, 2) := by decide +kernel
theorem dX9_mix_232 : decode cX9_mix 232 = .ok (.iconst 0, 1) := by decide +kernel
theorem dX9_mix_233 : decode cX9_mix 233 = .ok (.istore 10, 2) := by decide +kernel
theorem dX9_mix_235 : decode cX9_mix 235 = .ok (.iload 10, 2) := by decide +kernel
theorem dX9_mix_237 : decode cX9_mix 237 = .ok (.bipush 64, 2) := by decide +kernel
theorem dX9_mix_239 : decode cX9_mix 239 = .ok (.if_icmp .ge 136, 3) := by decide +kernel
theorem dX9_mix_242 : decode cX9_mix 242 = .ok (.iload 9, 2) := by decide +kernel
theorem dX9_mix_244 : decode cX9_mix 244 = .ok (.iload 6, 2) := by decide +kernel
theorem dX9_mix_246 : decode cX9_mix 246 = .ok (.bipush 6, 2) := by decide +kernel
theorem dX9_mix_248 : decode cX9_mix 248 = .ok (.invokestatic 148, 3) := by decide +kernel
theorem dX9_mix_251 : decode cX9_mix 251 = .ok (.iload 6, 2) := by decide +kernel
theorem dX9_mix_253 : decode cX9_mix 253 = .ok (.bipush 11, 2) := by decide +kernel
theorem dX9_mix_255 : decode cX9_mix 255 = .ok (.invokestatic 148, 3) := by decide +kernel
theorem dX9_mix_258 : decode cX9_mix 258 = .ok (.ixor, 1) := by decide +kernel
theorem dX9_mix_259 : decode cX9_mix 259 = .ok (.iload 6, 2) := by decide +kernel
theorem dX9_mix_261 : decode cX9_mix 261 = .ok (.bipush 25, 2) := by decide +kernel
theorem dX9_mix_263 : decode cX9_mix 263 = .ok (.invokestatic 148, 3) := by decide +kernel
theorem dX9_mix_266 : decode cX9_mix 266 = .ok (.ixor, 1) := by decide +kernel
theorem dX9_mix_267 : decode cX9_mix 267 = .ok (.iadd, 1) := by decide +kernel
theorem dX9_mix_268 : decode cX9_mix 268 = .ok (.iload 6, 2) := by decide +kernel
theorem dX9_mix_270 : decode cX9_mix 270 = .ok (.iload 7, 2) := by decide +kernel
theorem dX9_mix_272 : decode cX9_mix 272 = .ok (.iand, 1) := by decide +kernel
theorem dX9_mix_273 : decode cX9_mix 273 = .ok (.iload 6, 2) := by decide +kernel
end
section
theorem dX9_mix_275 : decode cX9_mix 275 = .ok (.iconst (-1), 1) := by decide +kernel
theorem dX9_mix_276 : decode cX9_mix 276 = .ok (.ixor, 1) := by decide +kernel
theorem dX9_mix_277 : decode cX9_mix 277 = .ok (.iload 8, 2) := by decide +kernel
theorem dX9_mix_279 : decode cX9_mix 279 = .ok (.iand, 1) := by decide +kernel
theorem dX9_mix_280 : decode cX9_mix 280 = .ok (.ixor, 1) := by decide +kernel
theorem dX9_mix_281 : decode cX9_mix 281 = .ok (.iadd, 1) := by decide +kernel
theorem dX9_mix_282 : decode cX9_mix 282 = .ok (.aload_n 0, 1) := by decide +kernel
theorem dX9_mix_283 : decode cX9_mix 283 = .ok (.getfield 71, 3) := by decide +kernel
theorem dX9_mix_286 : decode cX9_mix 286 = .ok (.iload 10, 2) := by decide +kernel
theorem dX9_mix_288 : decode cX9_mix 288 = .ok (.iaload, 1) := by decide +kernel
theorem dX9_mix_289 : decode cX9_mix 289 = .ok (.iadd, 1) := by decide +kernel
theorem dX9_mix_290 : decode cX9_mix 290 = .ok (.aload_n 0, 1) := by decide +kernel
theorem dX9_mix_291 : decode cX9_mix 291 = .ok (.getfield 122, 3) := by decide +kernel
theorem dX9_mix_294 : decode cX9_mix 294 = .ok (.iload 10, 2) := by decide +kernel
theorem dX9_mix_296 : decode cX9_mix 296 = .ok (.iaload, 1) := by decide +kernel
theorem dX9_mix_297 : decode cX9_mix 297 = .ok (.iadd, 1) := by decide +kernel
theorem dX9_mix_298 : decode cX9_mix 298 = .ok (.istore 11, 2) := by decide +kernel
theorem dX9_mix_300 : decode cX9_mix 300 = .ok (.iload_n 2, 1) := by decide +kernel
theorem dX9_mix_301 : decode cX9_mix 301 = .ok (.iconst 2, 1) := by decide +kernel
theorem dX9_mix_302 : decode cX9_mix 302 = .ok (.invokestatic 148, 3) := by decide +kernel
theorem dX9_mix_305 : decode cX9_mix 305 = .ok (.iload_n 2, 1) := by decide +kernel
theorem dX9_mix_306 : decode cX9_mix 306 = .ok (.bipush 13, 2) := by decide +kernel
theorem dX9_mix_308 : decode cX9_mix 308 = .ok (.invokestatic 148, 3) := by decide +kernel
theorem dX9_mix_311 : decode cX9_mix 311 = .ok (.ixor, 1) := by decide +kernel
theorem dX9_mix_312 : decode cX9_mix 312 = .ok (.iload_n 2, 1) := by decide +kernel
theorem dX9_mix_313 : decode cX9_mix 313 = .ok (.bipush 22, 2) := by decide +kernel
theorem dX9_mix_315 : decode cX9_mix 315 = .ok (.invokestatic 148, 3) := by decide +kernel
theorem dX9_mix_318 : decode cX9_mix 318 = .ok (.ixor, 1) := by decide +kernel
theorem dX9_mix_319 : decode cX9_mix 319 = .ok (.iload_n 2, 1) := by decide +kernel
theorem dX9_mix_320 : decode cX9_mix 320 = .ok (.iload_n 3, 1) := by decide +kernel
theorem dX9_mix_321 : decode cX9_mix 321 = .ok (.iand, 1) := by decide +kernel
theorem dX9_mix_322 : decode cX9_mix 322 = .ok (.iload_n 2, 1) := by decide +kernel
theorem dX9_mix_323 : decode cX9_mix 323 = .ok (.iload 4, 2) := by decide +kernel
theorem dX9_mix_325 : decode cX9_mix 325 = .ok (.iand, 1) := by decide +kernel
theorem dX9_mix_326 : decode cX9_mix 326 = .ok (.ixor, 1) := by decide +kernel
theorem dX9_mix_327 : decode cX9_mix 327 = .ok (.iload_n 3, 1) := by decide +kernel
theorem dX9_mix_328 : decode cX9_mix 328 = .ok (.iload 4, 2) := by decide +kernel
theorem dX9_mix_330 : decode cX9_mix 330 = .ok (.iand, 1) := by decide +kernel
theorem dX9_mix_331 : decode cX9_mix 331 = .ok (.ixor, 1) := by decide +kernel
theorem dX9_mix_332 : decode cX9_mix 332 = .ok (.iadd, 1) := by decide +kernel
theorem dX9_mix_333 : decode cX9_mix 333 = .ok (.istore 12, 2) := by decide +kernel
theorem dX9_mix_335 : decode cX9_mix 335 = .ok (.iload 8, 2) := by decide +kernel
theorem dX9_mix_337 : decode cX9_mix 337 = .ok (.istore 9, 2) := by decide +kernel
theorem dX9_mix_339 : decode cX9_mix 339 = .ok (.iload 7, 2) := by decide +kernel
theorem dX9_mix_341 : decode cX9_mix 341 = .ok (.istore 8, 2) := by decide +kernel
theorem dX9_mix_343 : decode cX9_mix 343 = .ok (.iload 6, 2) := by decide +kernel
theorem dX9_mix_345 : decode cX9_mix 345 = .ok (.istore 7, 2) := by decide +kernel
theorem dX9_mix_347 : decode cX9_mix 347 = .ok (.iload 5, 2) := by decide +kernel
theorem dX9_mix_349 : decode cX9_mix 349 = .ok (.iload 11, 2) := by decide +kernel
theorem dX9_mix_351 : decode cX9_mix 351 = .ok (.iadd, 1) := by decide +kernel
theorem dX9_mix_352 : decode cX9_mix 352 = .ok (.istore 6, 2) := by decide +kernel
theorem dX9_mix_354 : decode cX9_mix 354 = .ok (.iload 4, 2) := by decide +kernel
theorem dX9_mix_356 : decode cX9_mix 356 = .ok (.istore 5, 2) := by decide +kernel
theorem dX9_mix_358 : decode cX9_mix 358 = .ok (.iload_n 3, 1) := by decide +kernel
theorem dX9_mix_359 : decode cX9_mix 359 = .ok (.istore 4, 2) := by decide +kernel
theorem dX9_mix_361 : decode cX9_mix 361 = .ok (.iload_n 2, 1) := by decide +kernel
theorem dX9_mix_362 : decode cX9_mix 362 = .ok (.istore_n 3, 1) := by decide +kernel
theorem dX9_mix_363 : decode cX9_mix 363 = .ok (.iload 11, 2) := by decide +kernel
theorem dX9_mix_365 : decode cX9_mix 365 = .ok (.iload 12, 2) := by decide +kernel
theorem dX9_mix_367 : decode cX9_mix 367 = .ok (.iadd, 1) := by decide +kernel
theorem dX9_mix_368 : decode cX9_mix 368 = .ok (.istore_n 2, 1) := by decide +kernel
theorem dX9_mix_369 : decode cX9_mix 369 = .ok (.iinc 10 1, 3) := by decide +kernel
theorem dX9_mix_372 : decode cX9_mix 372 = .ok (.goto (-137), 3) := by decide +kernel
theorem dX9_mix_375 : decode cX9_mix 375 = .ok (.aload_n 0, 1) := by decide +kernel
theorem dX9_mix_376 : decode cX9_mix 376 = .ok (.getfield 125, 3) := by decide +kernel
theorem dX9_mix_379 : decode cX9_mix 379 = .ok (.iconst 0, 1) := by decide +kernel
theorem dX9_mix_380 : decode cX9_mix 380 = .ok (.dup2, 1) := by decide +kernel
theorem dX9_mix_381 : decode cX9_mix 381 = .ok (.iaload, 1) := by decide +kernel
theorem dX9_mix_382 : decode cX9_mix 382 = .ok (.iload_n 2, 1) := by decide +kernel
theorem dX9_mix_383 : decode cX9_mix 383 = .ok (.iadd, 1) := by decide +kernel
theorem dX9_mix_384 : decode cX9_mix 384 = .ok (.iastore, 1) := by decide +kernel
theorem dX9_mix_385 : decode cX9_mix 385 = .ok (.aload_n 0, 1) := by decide +kernel
theorem dX9_mix_386 : decode cX9_mix 386 = .ok (.getfield 125, 3) := by decide +kernel
theorem dX9_mix_389 : decode cX9_mix 389 = .ok (.iconst 1, 1) := by decide +kernel
theorem dX9_mix_390 : decode cX9_mix 390 = .ok (.dup2, 1) := by decide +kernel
theorem dX9_mix_391 : decode cX9_mix 391 = .ok (.iaload, 1) := by decide +kernel
theorem dX9_mix_392 : decode cX9_mix 392 = .ok (.iload_n 3, 1) := by decide +kernel
theorem dX9_mix_393 : decode cX9_mix 393 = .ok (.iadd, 1) := by decide +kernel
theorem dX9_mix_394 : decode cX9_mix 394 = .ok (.iastore, 1) := by decide +kernel
theorem dX9_mix_395 : decode cX9_mix 395 = .ok (.aload_n 0, 1) := by decide +kernel
theorem dX9_mix_396 : decode cX9_mix 396 = .ok (.getfield 125, 3) := by decide +kernel
theorem dX9_mix_399 : decode cX9_mix 399 = .ok (.iconst 2, 1) := by decide +kernel
theorem dX9_mix_400 : decode cX9_mix 400 = .ok (.dup2, 1) := by decide +kernel
theorem dX9_mix_401 : decode cX9_mix 401 = .ok (.iaload, 1) := by decide +kernel
theorem dX9_mix_402 : decode cX9_mix 402 = .ok (.iload 4, 2) := by decide +kernel
theorem dX9_mix_404 : decode cX9_mix 404 = .ok (.iadd, 1) := by decide +kernel
theorem dX9_mix_405 : decode cX9_mix 405 = .ok (.iastore, 1) := by decide +kernel
theorem dX9_mix_406 : decode cX9_mix 406 = .ok (.aload_n 0, 1) := by decide +kernel
theorem dX9_mix_407 : decode cX9_mix 407 = .ok (.getfield 125, 3) := by decide +kernel
theorem dX9_mix_410 : decode cX9_mix 410 = .ok (.iconst 3, 1) := by decide +kernel
theorem dX9_mix_411 : decode cX9_mix 411 = .ok (.dup2, 1) := by decide +kernel
theorem dX9_mix_412 : decode cX9_mix 412 = .ok (.iaload, 1) := by decide +kernel
theorem dX9_mix_413 : decode cX9_mix 413 = .ok (.iload 5, 2) := by decide +kernel
theorem dX9_mix_415 : decode cX9_mix 415 = .ok (.iadd, 1) := by decide +kernel
theorem dX9_mix_416 : decode cX9_mix 416 = .ok (.iastore, 1) := by decide +kernel
theorem dX9_mix_417 : decode cX9_mix 417 = .ok (.aload_n 0, 1) := by decide +kernel
theorem dX9_mix_418 : decode cX9_mix 418 = .ok (.getfield 125, 3) := by decide +kernel
theorem dX9_mix_421 : decode cX9_mix 421 = .ok (.iconst 4, 1) := by decide +kernel
theorem dX9_mix_422 : decode cX9_mix 422 = .ok (.dup2, 1) := by decide +kernel
theorem dX9_mix_423 : decode cX9_mix 423 = .ok (.iaload, 1) := by decide +kernel
theorem dX9_mix_424 : decode cX9_mix 424 = .ok (.iload 6, 2) := by decide +kernel
theorem dX9_mix_426 : decode cX9_mix 426 = .ok (.iadd, 1) := by decide +kernel
theorem dX9_mix_427 : decode cX9_mix 427 = .ok (.iastore, 1) := by decide +kernel
theorem dX9_mix_428 : decode cX9_mix 428 = .ok (.aload_n 0, 1) := by decide +kernel
theorem dX9_mix_429 : decode cX9_mix 429 = .ok (.getfield 125, 3) := by decide +kernel
theorem dX9_mix_432 : decode cX9_mix 432 = .ok (.iconst 5, 1) := by decide +kernel
theorem dX9_mix_433 : decode cX9_mix 433 = .ok (.dup2, 1) := by decide +kernel
theorem dX9_mix_434 : decode cX9_mix 434 = .ok (.iaload, 1) := by decide +kernel
theorem dX9_mix_435 : decode cX9_mix 435 = .ok (.iload 7, 2) := by decide +kernel
theorem dX9_mix_437 : decode cX9_mix 437 = .ok (.iadd, 1) := by decide +kernel
theorem dX9_mix_438 : decode cX9_mix 438 = .ok (.iastore, 1) := by decide +kernel
theorem dX9_mix_439 : decode cX9_mix 439 = .ok (.aload_n 0, 1) := by decide +kernel
theorem dX9_mix_440 : decode cX9_mix 440 = .ok (.getfield 125, 3) := by decide +kernel
theorem dX9_mix_443 : decode cX9_mix 443 = .ok (.bipush 6, 2) := by decide +kernel
theorem dX9_mix_445 : decode cX9_mix 445 = .ok (.dup2, 1) := by decide +kernel
theorem dX9_mix_446 : decode cX9_mix 446 = .ok (.iaload, 1) := by decide +kernel
theorem dX9_mix_447 : decode cX9_mix 447 = .ok (.iload 8, 2) := by decide +kernel
theorem dX9_mix_449 : decode cX9_mix 449 = .ok (.iadd, 1) := by decide +kernel
theorem dX9_mix_450 : decode cX9_mix 450 = .ok (.iastore, 1) := by decide +kernel
theorem dX9_mix_451 : decode cX9_mix 451 = .ok (.aload_n 0, 1) := by decide +kernel
theorem dX9_mix_452 : decode cX9_mix 452 = .ok (.getfield 125, 3) := by decide +kernel
theorem dX9_mix_455 : decode cX9_mix 455 = .ok (.bipush 7, 2) := by decide +kernel
theorem dX9_mix_457 : decode cX9_mix 457 = .ok (.dup2, 1) := by decide +kernel
theorem dX9_mix_458 : decode cX9_mix 458 = .ok (.iaload, 1) := by decide +kernel
theorem dX9_mix_459 : decode cX9_mix 459 = .ok (.iload 9, 2) := by decide +kernel
theorem dX9_mix_461 : decode cX9_mix 461 = .ok (.iadd, 1) := by decide +kernel
theorem dX9_mix_462 : decode cX9_mix 462 = .ok (.iastore, 1) := by decide +kernel
theorem dX9_mix_463 : decode cX9_mix 463 = .ok (.return_, 1) := by decide +kernel
set_option maxRecDepth 20000 in
theorem ggX9_hash_X9_add : GoodIn wsX9_hash wsX9_add := goodIn_r _ [9, 10, 1, 20, 21, 22, 23, 24, 25, 26, 27, 28, 29, 30, 31, 32, 33, 34, 35, 36, 37, 38, 39, 40, 41, 42] (by decide +kernel) (by decide +kernel)
set_option maxRecDepth 20000 in
theorem gX9_hash_X9_add : GoodIn wsX9_hash (wsV RX9 152 RX9 yX9_add wsX9_add) := goodIn_app (goodIn_of _ (by decide +kernel)) ggX9_hash_X9_add
set_option maxRecDepth 20000 in
theorem ggX9_hash_X9_mix : GoodIn wsX9_hash wsX9_mix := goodIn_r _ [14, 15, 10, 2, 16, 17, 18, 8, 19, 20, 21, 22, 23, 24, 25, 26, 27, 28, 29, 30, 31, 32, 33, 34, 35, 36, 37, 38, 39, 40, 41, 42] (by decide +kernel) (by decide +kernel)
set_option maxRecDepth 20000 in
theorem gX9_hash_X9_mix : GoodIn wsX9_hash (wsV RX9 155 RX9 yX9_mix wsX9_mix) := goodIn_app (goodIn_of _ (by decide +kernel)) ggX9_hash_X9_mix
theorem dX9_hash_0 : decode cX9_hash 0 = .ok (.bipush 8, 2) := by decide +kernel
theorem dX9_hash_2 : decode cX9_hash 2 = .ok (.aload_n 0, 1) := by decide +kernel
theorem dX9_hash_3 : decode cX9_hash 3 = .ok (.getfield 145, 3) := by decide +kernel
theorem dX9_hash_6 : decode cX9_hash 6 = .ok (.imul, 1) := by decide +kernel
theorem dX9_hash_7 : decode cX9_hash 7 = .ok (.istore_n 1, 1) := by decide +kernel
theorem dX9_hash_8 : decode cX9_hash 8 = .ok (.aload_n 0, 1) := by decide +kernel
theorem dX9_hash_9 : decode cX9_hash 9 = .ok (.sipush 128, 3) := by decide +kernel
theorem dX9_hash_12 : decode cX9_hash 12 = .ok (.invokevirtual 152, 3) := by decide +kernel
theorem dX9_hash_15 : decode cX9_hash 15 = .ok (.aload_n 0, 1) := by decide +kernel
theorem dX9_hash_16 : decode cX9_hash 16 = .ok (.getfield 145, 3) := by decide +kernel
theorem dX9_hash_19 : decode cX9_hash 19 = .ok (.bipush 64, 2) := by decide +kernel
theorem dX9_hash_21 : decode cX9_hash 21 = .ok (.irem, 1) := by decide +kernel
theorem dX9_hash_22 : decode cX9_hash 22 = .ok (.bipush 56, 2) := by decide +kernel
theorem dX9_hash_24 : decode cX9_hash 24 = .ok (.if_icmp .eq 11, 3) := by decide +kernel
theorem dX9_hash_27 : decode cX9_hash 27 = .ok (.aload_n 0, 1) := by decide +kernel
theorem dX9_hash_28 : decode cX9_hash 28 = .ok (.iconst 0, 1) := by decide +kernel
theorem dX9_hash_29 : decode cX9_hash 29 = .ok (.invokevirtual 152, 3) := by decide +kernel
theorem dX9_hash_32 : decode cX9_hash 32 = .ok (.goto (-17), 3) := by decide +kernel
theorem dX9_hash_35 : decode cX9_hash 35 = .ok (.iconst 0, 1) := by decide +kernel
theorem dX9_hash_36 : decode cX9_hash 36 = .ok (.istore_n 2, 1) := by decide +kernel
theorem dX9_hash_37 : decode cX9_hash 37 = .ok (.iload_n 2, 1) := by decide +kernel
theorem dX9_hash_38 : decode cX9_hash 38 = .ok (.iconst 4, 1) := by decide +kernel
theorem dX9_hash_39 : decode cX9_hash 39 = .ok (.if_icmp .ge 14, 3) := by decide +kernel
theorem dX9_hash_42 : decode cX9_hash 42 = .ok (.aload_n 0, 1) := by decide +kernel
theorem dX9_hash_43 : decode cX9_hash 43 = .ok (.iconst 0, 1) := by decide +kernel
theorem dX9_hash_44 : decode cX9_hash 44 = .ok (.invokevirtual 152, 3) := by decide +kernel
theorem dX9_hash_47 : decode cX9_hash 47 = .ok (.iinc 2 1, 3) := by decide +kernel
theorem dX9_hash_50 : decode cX9_hash 50 = .ok (.goto (-13), 3) := by decide +kernel
theorem dX9_hash_53 : decode cX9_hash 53 = .ok (.aload_n 0, 1) := by decide +kernel
theorem dX9_hash_54 : decode cX9_hash 54 = .ok (.iload_n 1, 1) := by decide +kernel
theorem dX9_hash_55 : decode cX9_hash 55 = .ok (.bipush 24, 2) := by decide +kernel
theorem dX9_hash_57 : decode cX9_hash 57 = .ok (.ishr, 1) := by decide +kernel
theorem dX9_hash_58 : decode cX9_hash 58 = .ok (.invokevirtual 152, 3) := by decide +kernel
theorem dX9_hash_61 : decode cX9_hash 61 = .ok (.aload_n 0, 1) := by decide +kernel
theorem dX9_hash_62 : decode cX9_hash 62 = .ok (.iload_n 1, 1) := by decide +kernel
theorem dX9_hash_63 : decode cX9_hash 63 = .ok (.bipush 16, 2) := by decide +kernel
theorem dX9_hash_65 : decode cX9_hash 65 = .ok (.ishr, 1) := by decide +kernel
theorem dX9_hash_66 : decode cX9_hash 66 = .ok (.invokevirtual 152, 3) := by decide +kernel
theorem dX9_hash_69 : decode cX9_hash 69 = .ok (.aload_n 0, 1) := by decide +kernel
theorem dX9_hash_70 : decode cX9_hash 70 = .ok (.iload_n 1, 1) := by decide +kernel
theorem dX9_hash_71 : decode cX9_hash 71 = .ok (.bipush 8, 2) := by decide +kernel
theorem dX9_hash_73 : decode cX9_hash 73 = .ok (.ishr, 1) := by decide +kernel
theorem dX9_hash_74 : decode cX9_hash 74 = .ok (.invokevirtual 152, 3) := by decide +kernel
theorem dX9_hash_77 : decode cX9_hash 77 = .ok (.aload_n 0, 1) := by decide +kernel
theorem dX9_hash_78 : decode cX9_hash 78 = .ok (.iload_n 1, 1) := by decide +kernel
theorem dX9_hash_79 : decode cX9_hash 79 = .ok (.invokevirtual 152, 3) := by decide +kernel
theorem dX9_hash_82 : decode cX9_hash 82 = .ok (.iconst 0, 1) := by decide +kernel
theorem dX9_hash_83 : decode cX9_hash 83 = .ok (.istore_n 2, 1) := by decide +kernel
theorem dX9_hash_84 : decode cX9_hash 84 = .ok (.iload_n 2, 1) := by decide +kernel
theorem dX9_hash_85 : decode cX9_hash 85 = .ok (.bipush 8, 2) := by decide +kernel
theorem dX9_hash_87 : decode cX9_hash 87 = .ok (.if_icmp .ge 21, 3) := by decide +kernel
theorem dX9_hash_90 : decode cX9_hash 90 = .ok (.aload_n 0, 1) := by decide +kernel
theorem dX9_hash_91 : decode cX9_hash 91 = .ok (.getfield 125, 3) := by decide +kernel
theorem dX9_hash_94 : decode cX9_hash 94 = .ok (.iload_n 2, 1) := by decide +kernel
theorem dX9_hash_95 : decode cX9_hash 95 = .ok (.aload_n 0, 1) := by decide +kernel
theorem dX9_hash_96 : decode cX9_hash 96 = .ok (.getfield 85, 3) := by decide +kernel
theorem dX9_hash_99 : decode cX9_hash 99 = .ok (.iload_n 2, 1) := by decide +kernel
theorem dX9_hash_100 : decode cX9_hash 100 = .ok (.iaload, 1) := by decide +kernel
theorem dX9_hash_101 : decode cX9_hash 101 = .ok (.iastore, 1) := by decide +kernel
theorem dX9_hash_102 : decode cX9_hash 102 = .ok (.iinc 2 1, 3) := by decide +kernel
theorem dX9_hash_105 : decode cX9_hash 105 = .ok (.goto (-21), 3) := by decide +kernel
theorem dX9_hash_108 : decode cX9_hash 108 = .ok (.iconst 0, 1) := by decide +kernel
theorem dX9_hash_109 : decode cX9_hash 109 = .ok (.istore_n 2, 1) := by decide +kernel
theorem dX9_hash_110 : decode cX9_hash 110 = .ok (.iload_n 2, 1) := by decide +kernel
theorem dX9_hash_111 : decode cX9_hash 111 = .ok (.aload_n 0, 1) := by decide +kernel
theorem dX9_hash_112 : decode cX9_hash 112 = .ok (.getfield 145, 3) := by decide +kernel
theorem dX9_hash_115 : decode cX9_hash 115 = .ok (.if_icmp .ge 14, 3) := by decide +kernel
theorem dX9_hash_118 : decode cX9_hash 118 = .ok (.aload_n 0, 1) := by decide +kernel
theorem dX9_hash_119 : decode cX9_hash 119 = .ok (.iload_n 2, 1) := by decide +kernel
theorem dX9_hash_120 : decode cX9_hash 120 = .ok (.invokevirtual 155, 3) := by decide +kernel
theorem dX9_hash_123 : decode cX9_hash 123 = .ok (.iinc 2 64, 3) := by decide +kernel
theorem dX9_hash_126 : decode cX9_hash 126 = .ok (.goto (-16), 3) := by decide +kernel
theorem dX9_hash_129 : decode cX9_hash 129 = .ok (.iconst 0, 1) := by decide +kernel
theorem dX9_hash_130 : decode cX9_hash 130 = .ok (.istore_n 2, 1) := by decide +kernel
theorem dX9_hash_131 : decode cX9_hash 131 = .ok (.iload_n 2, 1) := by decide +kernel
theorem dX9_hash_132 : decode cX9_hash 132 = .ok (.bipush 32, 2) := by decide +kernel
theorem dX9_hash_134 : decode cX9_hash 134 = .ok (.if_icmp .ge 37, 3) := by decide +kernel
theorem dX9_hash_137 : decode cX9_hash 137 = .ok (.aload_n 0, 1) := by decide +kernel
theorem dX9_hash_138 : decode cX9_hash 138 = .ok (.getfield 116, 3) := by decide +kernel
theorem dX9_hash_141 : decode cX9_hash 141 = .ok (.iload_n 2, 1) := by decide +kernel
theorem dX9_hash_142 : decode cX9_hash 142 = .ok (.aload_n 0, 1) := by decide +kernel
theorem dX9_hash_143 : decode cX9_hash 143 = .ok (.getfield 125, 3) := by decide +kernel
theorem dX9_hash_146 : decode cX9_hash 146 = .ok (.iload_n 2, 1) := by decide +kernel
theorem dX9_hash_147 : decode cX9_hash 147 = .ok (.iconst 4, 1) := by decide +kernel
theorem dX9_hash_148 : decode cX9_hash 148 = .ok (.idiv, 1) := by decide +kernel
theorem dX9_hash_149 : decode cX9_hash 149 = .ok (.iaload, 1) := by decide +kernel
theorem dX9_hash_150 : decode cX9_hash 150 = .ok (.bipush 24, 2) := by decide +kernel
theorem dX9_hash_152 : decode cX9_hash 152 = .ok (.bipush 8, 2) := by decide +kernel
theorem dX9_hash_154 : decode cX9_hash 154 = .ok (.iload_n 2, 1) := by decide +kernel
theorem dX9_hash_155 : decode cX9_hash 155 = .ok (.iconst 4, 1) := by decide +kernel
theorem dX9_hash_156 : decode cX9_hash 156 = .ok (.irem, 1) := by decide +kernel
theorem dX9_hash_157 : decode cX9_hash 157 = .ok (.imul, 1) := by decide +kernel
theorem dX9_hash_158 : decode cX9_hash 158 = .ok (.isub, 1) := by decide +kernel
theorem dX9_hash_159 : decode cX9_hash 159 = .ok (.iushr, 1) := by decide +kernel
theorem dX9_hash_160 : decode cX9_hash 160 = .ok (.sipush 255, 3) := by decide +kernel
theorem dX9_hash_163 : decode cX9_hash 163 = .ok (.iand, 1) := by decide +kernel
theorem dX9_hash_164 : decode cX9_hash 164 = .ok (.iastore, 1) := by decide +kernel
theorem dX9_hash_165 : decode cX9_hash 165 = .ok (.iinc 2 1, 3) := by decide +kernel
theorem dX9_hash_168 : decode cX9_hash 168 = .ok (.goto (-37), 3) := by decide +kernel
theorem dX9_hash_171 : decode cX9_hash 171 = .ok (.aload_n 0, 1) := by decide +kernel
theorem dX9_hash_172 : decode cX9_hash 172 = .ok (.iconst 0, 1) := by decide +kernel
theorem dX9_hash_173 : decode cX9_hash 173 = .ok (.putfield 145, 3) := by decide +kernel
theorem dX9_hash_176 : decode cX9_hash 176 = .ok (.return_, 1) := by decide +kernel
set_option maxRecDepth 20000 in
theorem ggX9_addKey_X9_add : GoodIn wsX9_addKey wsX9_add := goodIn_r _ [5, 6, 7, 8, 9, 10, 11, 12, 13, 14, 15, 16, 17, 18, 19, 20, 21, 22, 23, 24, 25, 26, 27, 28, 29, 30] (by decide +kernel) (by decide +kernel)
set_option maxRecDepth 20000 in
theorem gX9_addKey_X9_add : GoodIn wsX9_addKey (wsV RX9 152 RX9 yX9_add wsX9_add) := goodIn_app (goodIn_of _ (by decide +kernel)) ggX9_addKey_X9_add
theorem dX9_addKey_0 : decode cX9_addKey 0 = .ok (.iconst 0, 1) := by decide +kernel
theorem dX9_addKey_1 : decode cX9_addKey 1 = .ok (.istore_n 2, 1) := by decide +kernel
theorem dX9_addKey_2 : decode cX9_addKey 2 = .ok (.iload_n 2, 1) := by decide +kernel
theorem dX9_addKey_3 : decode cX9_addKey 3 = .ok (.bipush 64, 2) := by decide +kernel
theorem dX9_addKey_5 : decode cX9_addKey 5 = .ok (.if_icmp .ge 28, 3) := by decide +kernel
theorem dX9_addKey_8 : decode cX9_addKey 8 = .ok (.aload_n 0, 1) := by decide +kernel
theorem dX9_addKey_9 : decode cX9_addKey 9 = .ok (.iload_n 2, 1) := by decide +kernel
theorem dX9_addKey_10 : decode cX9_addKey 10 = .ok (.bipush 32, 2) := by decide +kernel
theorem dX9_addKey_12 : decode cX9_addKey 12 = .ok (.if_icmp .ge 9, 3) := by decide +kernel
theorem dX9_addKey_15 : decode cX9_addKey 15 = .ok (.iload_n 2, 1) := by decide +kernel
theorem dX9_addKey_16 : decode cX9_addKey 16 = .ok (.iconst 1, 1) := by decide +kernel
theorem dX9_addKey_17 : decode cX9_addKey 17 = .ok (.iadd, 1) := by decide +kernel
theorem dX9_addKey_18 : decode cX9_addKey 18 = .ok (.goto 4, 3) := by decide +kernel
theorem dX9_addKey_21 : decode cX9_addKey 21 = .ok (.iconst 0, 1) := by decide +kernel
theorem dX9_addKey_22 : decode cX9_addKey 22 = .ok (.iload_n 1, 1) := by decide +kernel
theorem dX9_addKey_23 : decode cX9_addKey 23 = .ok (.ixor, 1) := by decide +kernel
theorem dX9_addKey_24 : decode cX9_addKey 24 = .ok (.invokevirtual 152, 3) := by decide +kernel
theorem dX9_addKey_27 : decode cX9_addKey 27 = .ok (.iinc 2 1, 3) := by decide +kernel
theorem dX9_addKey_30 : decode cX9_addKey 30 = .ok (.goto (-28), 3) := by decide +kernel
theorem dX9_addKey_33 : decode cX9_addKey 33 = .ok (.return_, 1) := by decide +kernel
set_option maxRecDepth 20000 in
theorem ggX9_mac_X9_addKey : GoodIn wsX9_mac wsX9_addKey := goodIn_r _ [10, 11, 12, 13, 9, 14, 15, 1, 31, 32, 33, 34, 35, 36, 37, 38, 39, 40, 41, 42, 43, 44, 45, 46, 47, 48, 49, 50, 51, 52, 53] (by decide +kernel) (by decide +kernel)
set_option maxRecDepth 20000 in
theorem gX9_mac_X9_addKey : GoodIn wsX9_mac (wsV RX9 158 RX9 yX9_addKey wsX9_addKey) := goodIn_app (goodIn_of _ (by decide +kernel)) ggX9_mac_X9_addKey
set_option maxRecDepth 20000 in
theorem ggX9_mac_X9_add : GoodIn wsX9_mac wsX9_add := goodIn_r _ [14, 15, 1, 31, 32, 33, 34, 35, 36, 37, 38, 39, 40, 41, 42, 43, 44, 45, 46, 47, 48, 49, 50, 51, 52, 53] (by decide +kernel) (by decide +kernel)
set_option maxRecDepth 20000 in
theorem gX9_mac_X9_add : GoodIn wsX9_mac (wsV RX9 152 RX9 yX9_add wsX9_add) := goodIn_app (goodIn_of _ (by decide +kernel)) ggX9_mac_X9_add
set_option maxRecDepth 20000 in
theorem ggX9_mac_X9_hash : GoodIn wsX9_mac wsX9_hash := goodIn_r _ [19, 1, 20, 21, 5, 11, 12, 13, 9, 14, 15, 22, 23, 24, 25, 26, 27, 28, 29, 30, 31, 32, 33, 34, 35, 36, 37, 38, 39, 40, 41, 42, 43, 44, 45, 46, 47, 48, 49, 50, 51, 52, 53] (by decide +kernel) (by decide +kernel)
set_option maxRecDepth 20000 in
theorem gX9_mac_X9_hash : GoodIn wsX9_mac (wsV RX9 164 RX9 yX9_hash wsX9_hash) := goodIn_app (goodIn_of _ (by decide +kernel)) ggX9_mac_X9_hash
theorem dX9_mac_0 : decode cX9_mac 0 = .ok (.aload_n 0, 1) := by decide +kernel
theorem dX9_mac_1 : decode cX9_mac 1 = .ok (.iconst 0, 1) := by decide +kernel
theorem dX9_mac_2 : decode cX9_mac 2 = .ok (.putfield 145, 3) := by decide +kernel
theorem dX9_mac_5 : decode cX9_mac 5 = .ok (.aload_n 0, 1) := by decide +kernel
theorem dX9_mac_6 : decode cX9_mac 6 = .ok (.bipush 54, 2) := by decide +kernel
theorem dX9_mac_8 : decode cX9_mac 8 = .ok (.invokevirtual 158, 3) := by decide +kernel
theorem dX9_mac_11 : decode cX9_mac 11 = .ok (.iconst 0, 1) := by decide +kernel
theorem dX9_mac_12 : decode cX9_mac 12 = .ok (.istore_n 1, 1) := by decide +kernel
theorem dX9_mac_13 : decode cX9_mac 13 = .ok (.iload_n 1, 1) := by decide +kernel
theorem dX9_mac_14 : decode cX9_mac 14 = .ok (.aload_n 0, 1) := by decide +kernel
theorem dX9_mac_15 : decode cX9_mac 15 = .ok (.getfield 161, 3) := by decide +kernel
theorem dX9_mac_18 : decode cX9_mac 18 = .ok (.if_icmp .ge 19, 3) := by decide +kernel
theorem dX9_mac_21 : decode cX9_mac 21 = .ok (.aload_n 0, 1) := by decide +kernel
theorem dX9_mac_22 : decode cX9_mac 22 = .ok (.aload_n 0, 1) := by decide +kernel
theorem dX9_mac_23 : decode cX9_mac 23 = .ok (.getfield 131, 3) := by decide +kernel
theorem dX9_mac_26 : decode cX9_mac 26 = .ok (.iload_n 1, 1) := by decide +kernel
theorem dX9_mac_27 : decode cX9_mac 27 = .ok (.iaload, 1) := by decide +kernel
theorem dX9_mac_28 : decode cX9_mac 28 = .ok (.invokevirtual 152, 3) := by decide +kernel
theorem dX9_mac_31 : decode cX9_mac 31 = .ok (.iinc 1 1, 3) := by decide +kernel
theorem dX9_mac_34 : decode cX9_mac 34 = .ok (.goto (-21), 3) := by decide +kernel
theorem dX9_mac_37 : decode cX9_mac 37 = .ok (.aload_n 0, 1) := by decide +kernel
theorem dX9_mac_38 : decode cX9_mac 38 = .ok (.invokevirtual 164, 3) := by decide +kernel
theorem dX9_mac_41 : decode cX9_mac 41 = .ok (.iconst 0, 1) := by decide +kernel
theorem dX9_mac_42 : decode cX9_mac 42 = .ok (.istore_n 1, 1) := by decide +kernel
theorem dX9_mac_43 : decode cX9_mac 43 = .ok (.iload_n 1, 1) := by decide +kernel
theorem dX9_mac_44 : decode cX9_mac 44 = .ok (.bipush 32, 2) := by decide +kernel
theorem dX9_mac_46 : decode cX9_mac 46 = .ok (.if_icmp .ge 21, 3) := by decide +kernel
theorem dX9_mac_49 : decode cX9_mac 49 = .ok (.aload_n 0, 1) := by decide +kernel
theorem dX9_mac_50 : decode cX9_mac 50 = .ok (.getfield 119, 3) := by decide +kernel
theorem dX9_mac_53 : decode cX9_mac 53 = .ok (.iload_n 1, 1) := by decide +kernel
theorem dX9_mac_54 : decode cX9_mac 54 = .ok (.aload_n 0, 1) := by decide +kernel
theorem dX9_mac_55 : decode cX9_mac 55 = .ok (.getfield 116, 3) := by decide +kernel
theorem dX9_mac_58 : decode cX9_mac 58 = .ok (.iload_n 1, 1) := by decide +kernel
theorem dX9_mac_59 : decode cX9_mac 59 = .ok (.iaload, 1) := by decide +kernel
theorem dX9_mac_60 : decode cX9_mac 60 = .ok (.iastore, 1) := by decide +kernel
theorem dX9_mac_61 : decode cX9_mac 61 = .ok (.iinc 1 1, 3) := by decide +kernel
theorem dX9_mac_64 : decode cX9_mac 64 = .ok (.goto (-21), 3) := by decide +kernel
theorem dX9_mac_67 : decode cX9_mac 67 = .ok (.aload_n 0, 1) := by decide +kernel
theorem dX9_mac_68 : decode cX9_mac 68 = .ok (.bipush 92, 2) := by decide +kernel
theorem dX9_mac_70 : decode cX9_mac 70 = .ok (.invokevirtual 158, 3) := by decide +kernel
theorem dX9_mac_73 : decode cX9_mac 73 = .ok (.iconst 0, 1) := by decide +kernel
theorem dX9_mac_74 : decode cX9_mac 74 = .ok (.istore_n 1, 1) := by decide +kernel
theorem dX9_mac_75 : decode cX9_mac 75 = .ok (.iload_n 1, 1) := by decide +kernel
theorem dX9_mac_76 : decode cX9_mac 76 = .ok (.bipush 32, 2) := by decide +kernel
theorem dX9_mac_78 : decode cX9_mac 78 = .ok (.if_icmp .ge 19, 3) := by decide +kernel
theorem dX9_mac_81 : decode cX9_mac 81 = .ok (.aload_n 0, 1) := by decide +kernel
theorem dX9_mac_82 : decode cX9_mac 82 = .ok (.aload_n 0, 1) := by decide +kernel
theorem dX9_mac_83 : decode cX9_mac 83 = .ok (.getfield 119, 3) := by decide +kernel
theorem dX9_mac_86 : decode cX9_mac 86 = .ok (.iload_n 1, 1) := by decide +kernel
theorem dX9_mac_87 : decode cX9_mac 87 = .ok (.iaload, 1) := by decide +kernel
theorem dX9_mac_88 : decode cX9_mac 88 = .ok (.invokevirtual 152, 3) := by decide +kernel
theorem dX9_mac_91 : decode cX9_mac 91 = .ok (.iinc 1 1, 3) := by decide +kernel
theorem dX9_mac_94 : decode cX9_mac 94 = .ok (.goto (-19), 3) := by decide +kernel
theorem dX9_mac_97 : decode cX9_mac 97 = .ok (.aload_n 0, 1) := by decide +kernel
theorem dX9_mac_98 : decode cX9_mac 98 = .ok (.invokevirtual 164, 3) := by decide +kernel
theorem dX9_mac_101 : decode cX9_mac 101 = .ok (.return_, 1) := by decide +kernel
set_option maxRecDepth 20000 in
theorem ggX9_findRoot_X9_add : GoodIn wsX9_findRoot wsX9_add := goodIn_r _ [10, 11, 1, 27, 28, 29, 30, 31, 32, 33, 34, 35, 36, 37, 38, 39, 40, 41, 42, 43, 44, 45, 46, 47, 48, 49] (by decide +kernel) (by decide +kernel)
set_option maxRecDepth 20000 in
theorem gX9_findRoot_X9_add : GoodIn wsX9_findRoot (wsV RX9 152 RX9 yX9_add wsX9_add) := goodIn_app (goodIn_of _ (by decide +kernel)) ggX9_findRoot_X9_add
set_option maxRecDepth 20000 in
theorem ggX9_findRoot_X9_hash : GoodIn wsX9_findRoot wsX9_hash := goodIn_r _ [15, 1, 16, 17, 5, 6, 7, 8, 9, 10, 11, 18, 19, 20, 21, 22, 23, 24, 25, 26, 27, 28, 29, 30, 31, 32, 33, 34, 35, 36, 37, 38, 39, 40, 41, 42, 43, 44, 45, 46, 47, 48, 49] (by decide +kernel) (by decide +kernel)
set_option maxRecDepth 20000 in
theorem gX9_findRoot_X9_hash : GoodIn wsX9_findRoot (wsV RX9 164 RX9 yX9_hash wsX9_hash) := goodIn_app (goodIn_of _ (by decide +kernel)) ggX9_findRoot_X9_hash
theorem dX9_findRoot_0 : decode cX9_findRoot 0 = .ok (.iconst 0, 1) := by decide +kernel
theorem dX9_findRoot_1 : decode cX9_findRoot 1 = .ok (.istore_n 2, 1) := by decide +kernel
theorem dX9_findRoot_2 : decode cX9_findRoot 2 = .ok (.iload_n 2, 1) := by decide +kernel
theorem dX9_findRoot_3 : decode cX9_findRoot 3 = .ok (.bipush 16, 2) := by decide +kernel
theorem dX9_findRoot_5 : decode cX9_findRoot 5 = .ok (.if_icmp .ge 116, 3) := by decide +kernel
theorem dX9_findRoot_8 : decode cX9_findRoot 8 = .ok (.bipush 16, 2) := by decide +kernel
theorem dX9_findRoot_10 : decode cX9_findRoot 10 = .ok (.iload_n 1, 1) := by decide +kernel
theorem dX9_findRoot_11 : decode cX9_findRoot 11 = .ok (.imul, 1) := by decide +kernel
theorem dX9_findRoot_12 : decode cX9_findRoot 12 = .ok (.iload_n 2, 1) := by decide +kernel
theorem dX9_findRoot_13 : decode cX9_findRoot 13 = .ok (.iadd, 1) := by decide +kernel
theorem dX9_findRoot_14 : decode cX9_findRoot 14 = .ok (.istore_n 3, 1) := by decide +kernel
theorem dX9_findRoot_15 : decode cX9_findRoot 15 = .ok (.aload_n 0, 1) := by decide +kernel
theorem dX9_findRoot_16 : decode cX9_findRoot 16 = .ok (.iconst 0, 1) := by decide +kernel
theorem dX9_findRoot_17 : decode cX9_findRoot 17 = .ok (.putfield 145, 3) := by decide +kernel
theorem dX9_findRoot_20 : decode cX9_findRoot 20 = .ok (.aload_n 0, 1) := by decide +kernel
theorem dX9_findRoot_21 : decode cX9_findRoot 21 = .ok (.iconst 0, 1) := by decide +kernel
theorem dX9_findRoot_22 : decode cX9_findRoot 22 = .ok (.invokevirtual 152, 3) := by decide +kernel
theorem dX9_findRoot_25 : decode cX9_findRoot 25 = .ok (.aload_n 0, 1) := by decide +kernel
theorem dX9_findRoot_26 : decode cX9_findRoot 26 = .ok (.iload_n 2, 1) := by decide +kernel
theorem dX9_findRoot_27 : decode cX9_findRoot 27 = .ok (.invokevirtual 152, 3) := by decide +kernel
theorem dX9_findRoot_30 : decode cX9_findRoot 30 = .ok (.aload_n 0, 1) := by decide +kernel
theorem dX9_findRoot_31 : decode cX9_findRoot 31 = .ok (.aload_n 0, 1) := by decide +kernel
theorem dX9_findRoot_32 : decode cX9_findRoot 32 = .ok (.getfield 97, 3) := by decide +kernel
theorem dX9_findRoot_35 : decode cX9_findRoot 35 = .ok (.iload_n 3, 1) := by decide +kernel
theorem dX9_findRoot_36 : decode cX9_findRoot 36 = .ok (.iaload, 1) := by decide +kernel
theorem dX9_findRoot_37 : decode cX9_findRoot 37 = .ok (.invokevirtual 152, 3) := by decide +kernel
theorem dX9_findRoot_40 : decode cX9_findRoot 40 = .ok (.iconst 0, 1) := by decide +kernel
theorem dX9_findRoot_41 : decode cX9_findRoot 41 = .ok (.istore 4, 2) := by decide +kernel
theorem dX9_findRoot_43 : decode cX9_findRoot 43 = .ok (.iload 4, 2) := by decide +kernel
theorem dX9_findRoot_45 : decode cX9_findRoot 45 = .ok (.aload_n 0, 1) := by decide +kernel
theorem dX9_findRoot_46 : decode cX9_findRoot 46 = .ok (.getfield 97, 3) := by decide +kernel
theorem dX9_findRoot_49 : decode cX9_findRoot 49 = .ok (.iload_n 3, 1) := by decide +kernel
theorem dX9_findRoot_50 : decode cX9_findRoot 50 = .ok (.iaload, 1) := by decide +kernel
theorem dX9_findRoot_51 : decode cX9_findRoot 51 = .ok (.if_icmp .ge 25, 3) := by decide +kernel
theorem dX9_findRoot_54 : decode cX9_findRoot 54 = .ok (.aload_n 0, 1) := by decide +kernel
theorem dX9_findRoot_55 : decode cX9_findRoot 55 = .ok (.aload_n 0, 1) := by decide +kernel
theorem dX9_findRoot_56 : decode cX9_findRoot 56 = .ok (.getfield 94, 3) := by decide +kernel
theorem dX9_findRoot_59 : decode cX9_findRoot 59 = .ok (.bipush 12, 2) := by decide +kernel
theorem dX9_findRoot_61 : decode cX9_findRoot 61 = .ok (.iload_n 3, 1) := by decide +kernel
theorem dX9_findRoot_62 : decode cX9_findRoot 62 = .ok (.imul, 1) := by decide +kernel
theorem dX9_findRoot_63 : decode cX9_findRoot 63 = .ok (.iload 4, 2) := by decide +kernel
theorem dX9_findRoot_65 : decode cX9_findRoot 65 = .ok (.iadd, 1) := by decide +kernel
theorem dX9_findRoot_66 : decode cX9_findRoot 66 = .ok (.iaload, 1) := by decide +kernel
theorem dX9_findRoot_67 : decode cX9_findRoot 67 = .ok (.invokevirtual 152, 3) := by decide +kernel
theorem dX9_findRoot_70 : decode cX9_findRoot 70 = .ok (.iinc 4 1, 3) := by decide +kernel
theorem dX9_findRoot_73 : decode cX9_findRoot 73 = .ok (.goto (-30), 3) := by decide +kernel
theorem dX9_findRoot_76 : decode cX9_findRoot 76 = .ok (.aload_n 0, 1) := by decide +kernel
theorem dX9_findRoot_77 : decode cX9_findRoot 77 = .ok (.invokevirtual 164, 3) := by decide +kernel
theorem dX9_findRoot_80 : decode cX9_findRoot 80 = .ok (.iconst 0, 1) := by decide +kernel
theorem dX9_findRoot_81 : decode cX9_findRoot 81 = .ok (.istore 4, 2) := by decide +kernel
theorem dX9_findRoot_83 : decode cX9_findRoot 83 = .ok (.iload 4, 2) := by decide +kernel
theorem dX9_findRoot_85 : decode cX9_findRoot 85 = .ok (.bipush 32, 2) := by decide +kernel
theorem dX9_findRoot_87 : decode cX9_findRoot 87 = .ok (.if_icmp .ge 28, 3) := by decide +kernel
theorem dX9_findRoot_90 : decode cX9_findRoot 90 = .ok (.aload_n 0, 1) := by decide +kernel
theorem dX9_findRoot_91 : decode cX9_findRoot 91 = .ok (.getfield 128, 3) := by decide +kernel
theorem dX9_findRoot_94 : decode cX9_findRoot 94 = .ok (.bipush 32, 2) := by decide +kernel
theorem dX9_findRoot_96 : decode cX9_findRoot 96 = .ok (.iload_n 2, 1) := by decide +kernel
theorem dX9_findRoot_97 : decode cX9_findRoot 97 = .ok (.imul, 1) := by decide +kernel
theorem dX9_findRoot_98 : decode cX9_findRoot 98 = .ok (.iload 4, 2) := by decide +kernel
theorem dX9_findRoot_100 : decode cX9_findRoot 100 = .ok (.iadd, 1) := by decide +kernel
theorem dX9_findRoot_101 : decode cX9_findRoot 101 = .ok (.aload_n 0, 1) := by decide +kernel
theorem dX9_findRoot_102 : decode cX9_findRoot 102 = .ok (.getfield 116, 3) := by decide +kernel
theorem dX9_findRoot_105 : decode cX9_findRoot 105 = .ok (.iload 4, 2) := by decide +kernel
theorem dX9_findRoot_107 : decode cX9_findRoot 107 = .ok (.iaload, 1) := by decide +kernel
theorem dX9_findRoot_108 : decode cX9_findRoot 108 = .ok (.iastore, 1) := by decide +kernel
theorem dX9_findRoot_109 : decode cX9_findRoot 109 = .ok (.iinc 4 1, 3) := by decide +kernel
theorem dX9_findRoot_112 : decode cX9_findRoot 112 = .ok (.goto (-29), 3) := by decide +kernel
theorem dX9_findRoot_115 : decode cX9_findRoot 115 = .ok (.iinc 2 1, 3) := by decide +kernel
theorem dX9_findRoot_118 : decode cX9_findRoot 118 = .ok (.goto (-116), 3) := by decide +kernel
theorem dX9_findRoot_121 : decode cX9_findRoot 121 = .ok (.bipush 8, 2) := by decide +kernel
theorem dX9_findRoot_123 : decode cX9_findRoot 123 = .ok (.istore_n 2, 1) := by decide +kernel
theorem dX9_findRoot_124 : decode cX9_findRoot 124 = .ok (.iload_n 2, 1) := by decide +kernel
theorem dX9_findRoot_125 : decode cX9_findRoot 125 = .ok (.ifCond .le 99, 3) := by decide +kernel
theorem dX9_findRoot_128 : decode cX9_findRoot 128 = .ok (.iconst 0, 1) := by decide +kernel
theorem dX9_findRoot_129 : decode cX9_findRoot 129 = .ok (.istore_n 3, 1) := by decide +kernel
theorem dX9_findRoot_130 : decode cX9_findRoot 130 = .ok (.iload_n 3, 1) := by decide +kernel
theorem dX9_findRoot_131 : decode cX9_findRoot 131 = .ok (.iload_n 2, 1) := by decide +kernel
theorem dX9_findRoot_132 : decode cX9_findRoot 132 = .ok (.if_icmp .ge 85, 3) := by decide +kernel
theorem dX9_findRoot_135 : decode cX9_findRoot 135 = .ok (.aload_n 0, 1) := by decide +kernel
theorem dX9_findRoot_136 : decode cX9_findRoot 136 = .ok (.iconst 1, 1) := by decide +kernel
theorem dX9_findRoot_137 : decode cX9_findRoot 137 = .ok (.invokevirtual 152, 3) := by decide +kernel
theorem dX9_findRoot_140 : decode cX9_findRoot 140 = .ok (.iconst 0, 1) := by decide +kernel
theorem dX9_findRoot_141 : decode cX9_findRoot 141 = .ok (.istore 4, 2) := by decide +kernel
theorem dX9_findRoot_143 : decode cX9_findRoot 143 = .ok (.iload 4, 2) := by decide +kernel
theorem dX9_findRoot_145 : decode cX9_findRoot 145 = .ok (.bipush 64, 2) := by decide +kernel
theorem dX9_findRoot_147 : decode cX9_findRoot 147 = .ok (.if_icmp .ge 25, 3) := by decide +kernel
theorem dX9_findRoot_150 : decode cX9_findRoot 150 = .ok (.aload_n 0, 1) := by decide +kernel
theorem dX9_findRoot_151 : decode cX9_findRoot 151 = .ok (.aload_n 0, 1) := by decide +kernel
theorem dX9_findRoot_152 : decode cX9_findRoot 152 = .ok (.getfield 128, 3) := by decide +kernel
theorem dX9_findRoot_155 : decode cX9_findRoot 155 = .ok (.bipush 64, 2) := by decide +kernel
theorem dX9_findRoot_157 : decode cX9_findRoot 157 = .ok (.iload_n 3, 1) := by decide +kernel
theorem dX9_findRoot_158 : decode cX9_findRoot 158 = .ok (.imul, 1) := by decide +kernel
theorem dX9_findRoot_159 : decode cX9_findRoot 159 = .ok (.iload 4, 2) := by decide +kernel
theorem dX9_findRoot_161 : decode cX9_findRoot 161 = .ok (.iadd, 1) := by decide +kernel
theorem dX9_findRoot_162 : decode cX9_findRoot 162 = .ok (.iaload, 1) := by decide +kernel
theorem dX9_findRoot_163 : decode cX9_findRoot 163 = .ok (.invokevirtual 152, 3) := by decide +kernel
theorem dX9_findRoot_166 : decode cX9_findRoot 166 = .ok (.iinc 4 1, 3) := by decide +kernel
theorem dX9_findRoot_169 : decode cX9_findRoot 169 = .ok (.goto (-26), 3) := by decide +kernel
theorem dX9_findRoot_172 : decode cX9_findRoot 172 = .ok (.aload_n 0, 1) := by decide +kernel
theorem dX9_findRoot_173 : decode cX9_findRoot 173 = .ok (.invokevirtual 164, 3) := by decide +kernel
theorem dX9_findRoot_176 : decode cX9_findRoot 176 = .ok (.iconst 0, 1) := by decide +kernel
theorem dX9_findRoot_177 : decode cX9_findRoot 177 = .ok (.istore 4, 2) := by decide +kernel
theorem dX9_findRoot_179 : decode cX9_findRoot 179 = .ok (.iload 4, 2) := by decide +kernel
theorem dX9_findRoot_181 : decode cX9_findRoot 181 = .ok (.bipush 32, 2) := by decide +kernel
theorem dX9_findRoot_183 : decode cX9_findRoot 183 = .ok (.if_icmp .ge 28, 3) := by decide +kernel
theorem dX9_findRoot_186 : decode cX9_findRoot 186 = .ok (.aload_n 0, 1) := by decide +kernel
theorem dX9_findRoot_187 : decode cX9_findRoot 187 = .ok (.getfield 128, 3) := by decide +kernel
theorem dX9_findRoot_190 : decode cX9_findRoot 190 = .ok (.bipush 32, 2) := by decide +kernel
theorem dX9_findRoot_192 : decode cX9_findRoot 192 = .ok (.iload_n 3, 1) := by decide +kernel
theorem dX9_findRoot_193 : decode cX9_findRoot 193 = .ok (.imul, 1) := by decide +kernel
theorem dX9_findRoot_194 : decode cX9_findRoot 194 = .ok (.iload 4, 2) := by decide +kernel
theorem dX9_findRoot_196 : decode cX9_findRoot 196 = .ok (.iadd, 1) := by decide +kernel
theorem dX9_findRoot_197 : decode cX9_findRoot 197 = .ok (.aload_n 0, 1) := by decide +kernel
theorem dX9_findRoot_198 : decode cX9_findRoot 198 = .ok (.getfield 116, 3) := by decide +kernel
theorem dX9_findRoot_201 : decode cX9_findRoot 201 = .ok (.iload 4, 2) := by decide +kernel
theorem dX9_findRoot_203 : decode cX9_findRoot 203 = .ok (.iaload, 1) := by decide +kernel
theorem dX9_findRoot_204 : decode cX9_findRoot 204 = .ok (.iastore, 1) := by decide +kernel
theorem dX9_findRoot_205 : decode cX9_findRoot 205 = .ok (.iinc 4 1, 3) := by decide +kernel
theorem dX9_findRoot_208 : decode cX9_findRoot 208 = .ok (.goto (-29), 3) := by decide +kernel
theorem dX9_findRoot_211 : decode cX9_findRoot 211 = .ok (.iinc 3 1, 3) := by decide +kernel
theorem dX9_findRoot_214 : decode cX9_findRoot 214 = .ok (.goto (-84), 3) := by decide +kernel
theorem dX9_findRoot_217 : decode cX9_findRoot 217 = .ok (.iload_n 2, 1) := by decide +kernel
theorem dX9_findRoot_218 : decode cX9_findRoot 218 = .ok (.iconst 2, 1) := by decide +kernel
theorem dX9_findRoot_219 : decode cX9_findRoot 219 = .ok (.idiv, 1) := by decide +kernel
theorem dX9_findRoot_220 : decode cX9_findRoot 220 = .ok (.istore_n 2, 1) := by decide +kernel
theorem dX9_findRoot_221 : decode cX9_findRoot 221 = .ok (.goto (-97), 3) := by decide +kernel
theorem dX9_findRoot_224 : decode cX9_findRoot 224 = .ok (.return_, 1) := by decide +kernel
set_option maxRecDepth 20000 in
theorem ggX9_sign_X9_mac : GoodIn wsX9_sign wsX9_mac := goodIn_r _ [10, 11, 3, 4, 12, 5, 13, 14, 15, 9, 16, 17, 18, 19, 20, 21, 22, 23, 24, 25, 26, 27, 28, 29, 30, 31, 32, 33, 34, 35, 36, 37, 38, 39, 40, 41, 42, 43, 44, 45, 46, 47, 48, 49, 50, 51, 52, 53, 54, 55, 56, 57, 58, 59] (by decide +kernel) (by decide +kernel)
set_option maxRecDepth 20000 in
theorem gX9_sign_X9_mac : GoodIn wsX9_sign (wsV RX9 167 RX9 yX9_mac wsX9_mac) := goodIn_app (goodIn_of _ (by decide +kernel)) ggX9_sign_X9_mac
theorem dX9_sign_0 : decode cX9_sign 0 = .ok (.bipush 84, 2) := by decide +kernel
theorem dX9_sign_2 : decode cX9_sign 2 = .ok (.iload_n 1, 1) := by decide +kernel
theorem dX9_sign_3 : decode cX9_sign 3 = .ok (.imul, 1) := by decide +kernel
theorem dX9_sign_4 : decode cX9_sign 4 = .ok (.istore_n 2, 1) := by decide +kernel
theorem dX9_sign_5 : decode cX9_sign 5 = .ok (.iconst 0, 1) := by decide +kernel
theorem dX9_sign_6 : decode cX9_sign 6 = .ok (.istore_n 3, 1) := by decide +kernel
theorem dX9_sign_7 : decode cX9_sign 7 = .ok (.iload_n 3, 1) := by decide +kernel
theorem dX9_sign_8 : decode cX9_sign 8 = .ok (.bipush 32, 2) := by decide +kernel
theorem dX9_sign_10 : decode cX9_sign 10 = .ok (.if_icmp .ge 26, 3) := by decide +kernel
theorem dX9_sign_13 : decode cX9_sign 13 = .ok (.aload_n 0, 1) := by decide +kernel
theorem dX9_sign_14 : decode cX9_sign 14 = .ok (.getfield 91, 3) := by decide +kernel
theorem dX9_sign_17 : decode cX9_sign 17 = .ok (.iload_n 2, 1) := by decide +kernel
theorem dX9_sign_18 : decode cX9_sign 18 = .ok (.bipush 20, 2) := by decide +kernel
theorem dX9_sign_20 : decode cX9_sign 20 = .ok (.iadd, 1) := by decide +kernel
theorem dX9_sign_21 : decode cX9_sign 21 = .ok (.iload_n 3, 1) := by decide +kernel
theorem dX9_sign_22 : decode cX9_sign 22 = .ok (.iadd, 1) := by decide +kernel
theorem dX9_sign_23 : decode cX9_sign 23 = .ok (.aload_n 0, 1) := by decide +kernel
theorem dX9_sign_24 : decode cX9_sign 24 = .ok (.getfield 128, 3) := by decide +kernel
theorem dX9_sign_27 : decode cX9_sign 27 = .ok (.iload_n 3, 1) := by decide +kernel
theorem dX9_sign_28 : decode cX9_sign 28 = .ok (.iaload, 1) := by decide +kernel
theorem dX9_sign_29 : decode cX9_sign 29 = .ok (.iastore, 1) := by decide +kernel
theorem dX9_sign_30 : decode cX9_sign 30 = .ok (.iinc 3 1, 3) := by decide +kernel
theorem dX9_sign_33 : decode cX9_sign 33 = .ok (.goto (-26), 3) := by decide +kernel
theorem dX9_sign_36 : decode cX9_sign 36 = .ok (.aload_n 0, 1) := by decide +kernel
theorem dX9_sign_37 : decode cX9_sign 37 = .ok (.bipush 52, 2) := by decide +kernel
theorem dX9_sign_39 : decode cX9_sign 39 = .ok (.putfield 161, 3) := by decide +kernel
theorem dX9_sign_42 : decode cX9_sign 42 = .ok (.iconst 0, 1) := by decide +kernel
theorem dX9_sign_43 : decode cX9_sign 43 = .ok (.istore_n 3, 1) := by decide +kernel
theorem dX9_sign_44 : decode cX9_sign 44 = .ok (.iload_n 3, 1) := by decide +kernel
theorem dX9_sign_45 : decode cX9_sign 45 = .ok (.bipush 52, 2) := by decide +kernel
theorem dX9_sign_47 : decode cX9_sign 47 = .ok (.if_icmp .ge 23, 3) := by decide +kernel
theorem dX9_sign_50 : decode cX9_sign 50 = .ok (.aload_n 0, 1) := by decide +kernel
theorem dX9_sign_51 : decode cX9_sign 51 = .ok (.getfield 131, 3) := by decide +kernel
theorem dX9_sign_54 : decode cX9_sign 54 = .ok (.iload_n 3, 1) := by decide +kernel
theorem dX9_sign_55 : decode cX9_sign 55 = .ok (.aload_n 0, 1) := by decide +kernel
theorem dX9_sign_56 : decode cX9_sign 56 = .ok (.getfield 91, 3) := by decide +kernel
theorem dX9_sign_59 : decode cX9_sign 59 = .ok (.iload_n 2, 1) := by decide +kernel
theorem dX9_sign_60 : decode cX9_sign 60 = .ok (.iload_n 3, 1) := by decide +kernel
theorem dX9_sign_61 : decode cX9_sign 61 = .ok (.iadd, 1) := by decide +kernel
theorem dX9_sign_62 : decode cX9_sign 62 = .ok (.iaload, 1) := by decide +kernel
theorem dX9_sign_63 : decode cX9_sign 63 = .ok (.iastore, 1) := by decide +kernel
theorem dX9_sign_64 : decode cX9_sign 64 = .ok (.iinc 3 1, 3) := by decide +kernel
theorem dX9_sign_67 : decode cX9_sign 67 = .ok (.goto (-23), 3) := by decide +kernel
theorem dX9_sign_70 : decode cX9_sign 70 = .ok (.aload_n 0, 1) := by decide +kernel
theorem dX9_sign_71 : decode cX9_sign 71 = .ok (.invokevirtual 167, 3) := by decide +kernel
theorem dX9_sign_74 : decode cX9_sign 74 = .ok (.iconst 0, 1) := by decide +kernel
theorem dX9_sign_75 : decode cX9_sign 75 = .ok (.istore_n 3, 1) := by decide +kernel
theorem dX9_sign_76 : decode cX9_sign 76 = .ok (.iload_n 3, 1) := by decide +kernel
theorem dX9_sign_77 : decode cX9_sign 77 = .ok (.bipush 32, 2) := by decide +kernel
theorem dX9_sign_79 : decode cX9_sign 79 = .ok (.if_icmp .ge 26, 3) := by decide +kernel
theorem dX9_sign_82 : decode cX9_sign 82 = .ok (.aload_n 0, 1) := by decide +kernel
theorem dX9_sign_83 : decode cX9_sign 83 = .ok (.getfield 91, 3) := by decide +kernel
theorem dX9_sign_86 : decode cX9_sign 86 = .ok (.iload_n 2, 1) := by decide +kernel
theorem dX9_sign_87 : decode cX9_sign 87 = .ok (.bipush 52, 2) := by decide +kernel
theorem dX9_sign_89 : decode cX9_sign 89 = .ok (.iadd, 1) := by decide +kernel
theorem dX9_sign_90 : decode cX9_sign 90 = .ok (.iload_n 3, 1) := by decide +kernel
theorem dX9_sign_91 : decode cX9_sign 91 = .ok (.iadd, 1) := by decide +kernel
theorem dX9_sign_92 : decode cX9_sign 92 = .ok (.aload_n 0, 1) := by decide +kernel
theorem dX9_sign_93 : decode cX9_sign 93 = .ok (.getfield 116, 3) := by decide +kernel
theorem dX9_sign_96 : decode cX9_sign 96 = .ok (.iload_n 3, 1) := by decide +kernel
theorem dX9_sign_97 : decode cX9_sign 97 = .ok (.iaload, 1) := by decide +kernel
theorem dX9_sign_98 : decode cX9_sign 98 = .ok (.iastore, 1) := by decide +kernel
theorem dX9_sign_99 : decode cX9_sign 99 = .ok (.iinc 3 1, 3) := by decide +kernel
theorem dX9_sign_102 : decode cX9_sign 102 = .ok (.goto (-26), 3) := by decide +kernel
theorem dX9_sign_105 : decode cX9_sign 105 = .ok (.return_, 1) := by decide +kernel
theorem dX9_placeOf_0 : decode cX9_placeOf 0 = .ok (.bipush 84, 2) := by decide +kernel
theorem dX9_placeOf_2 : decode cX9_placeOf 2 = .ok (.iconst 4, 1) := by decide +kernel
theorem dX9_placeOf_3 : decode cX9_placeOf 3 = .ok (.iload_n 0, 1) := by decide +kernel
theorem dX9_placeOf_4 : decode cX9_placeOf 4 = .ok (.imul, 1) := by decide +kernel
theorem dX9_placeOf_5 : decode cX9_placeOf 5 = .ok (.iload_n 1, 1) := by decide +kernel
theorem dX9_placeOf_6 : decode cX9_placeOf 6 = .ok (.iadd, 1) := by decide +kernel
theorem dX9_placeOf_7 : decode cX9_placeOf 7 = .ok (.imul, 1) := by decide +kernel
theorem dX9_placeOf_8 : decode cX9_placeOf 8 = .ok (.ireturn, 1) := by decide +kernel
set_option maxRecDepth 20000 in
theorem ggX9_tell_X9_placeOf : GoodIn wsX9_tell wsX9_placeOf := goodIn_r _ [6] (by decide +kernel) (by decide +kernel)
set_option maxRecDepth 20000 in
theorem gX9_tell_X9_placeOf : GoodIn wsX9_tell (va_wsS RX9 170 yX9_placeOf wsX9_placeOf) := goodIn_app (goodIn_of _ (by decide +kernel)) ggX9_tell_X9_placeOf
theorem dX9_tell_0 : decode cX9_tell 0 = .ok (.iconst 0, 1) := by decide +kernel
theorem dX9_tell_1 : decode cX9_tell 1 = .ok (.istore_n 3, 1) := by decide +kernel
theorem dX9_tell_2 : decode cX9_tell 2 = .ok (.iload_n 3, 1) := by decide +kernel
theorem dX9_tell_3 : decode cX9_tell 3 = .ok (.bipush 84, 2) := by decide +kernel
theorem dX9_tell_5 : decode cX9_tell 5 = .ok (.if_icmp .ge 32, 3) := by decide +kernel
theorem dX9_tell_8 : decode cX9_tell 8 = .ok (.aload_n 0, 1) := by decide +kernel
theorem dX9_tell_9 : decode cX9_tell 9 = .ok (.getfield 88, 3) := by decide +kernel
theorem dX9_tell_12 : decode cX9_tell 12 = .ok (.iload_n 1, 1) := by decide +kernel
theorem dX9_tell_13 : decode cX9_tell 13 = .ok (.iload_n 2, 1) := by decide +kernel
theorem dX9_tell_14 : decode cX9_tell 14 = .ok (.invokestatic 170, 3) := by decide +kernel
theorem dX9_tell_17 : decode cX9_tell 17 = .ok (.iload_n 3, 1) := by decide +kernel
theorem dX9_tell_18 : decode cX9_tell 18 = .ok (.iadd, 1) := by decide +kernel
theorem dX9_tell_19 : decode cX9_tell 19 = .ok (.aload_n 0, 1) := by decide +kernel
theorem dX9_tell_20 : decode cX9_tell 20 = .ok (.getfield 91, 3) := by decide +kernel
theorem dX9_tell_23 : decode cX9_tell 23 = .ok (.bipush 84, 2) := by decide +kernel
theorem dX9_tell_25 : decode cX9_tell 25 = .ok (.iload_n 2, 1) := by decide +kernel
theorem dX9_tell_26 : decode cX9_tell 26 = .ok (.imul, 1) := by decide +kernel
theorem dX9_tell_27 : decode cX9_tell 27 = .ok (.iload_n 3, 1) := by decide +kernel
theorem dX9_tell_28 : decode cX9_tell 28 = .ok (.iadd, 1) := by decide +kernel
theorem dX9_tell_29 : decode cX9_tell 29 = .ok (.iaload, 1) := by decide +kernel
theorem dX9_tell_30 : decode cX9_tell 30 = .ok (.iastore, 1) := by decide +kernel
theorem dX9_tell_31 : decode cX9_tell 31 = .ok (.iinc 3 1, 3) := by decide +kernel
theorem dX9_tell_34 : decode cX9_tell 34 = .ok (.goto (-32), 3) := by decide +kernel
theorem dX9_tell_37 : decode cX9_tell 37 = .ok (.return_, 1) := by decide +kernel
theorem dX9_countAt_0 : decode cX9_countAt 0 = .ok (.lconst 0, 1) := by decide +kernel
theorem dX9_countAt_1 : decode cX9_countAt 1 = .ok (.lstore_n 3, 1) := by decide +kernel
theorem dX9_countAt_2 : decode cX9_countAt 2 = .ok (.iconst 0, 1) := by decide +kernel
theorem dX9_countAt_3 : decode cX9_countAt 3 = .ok (.istore 5, 2) := by decide +kernel
theorem dX9_countAt_5 : decode cX9_countAt 5 = .ok (.iload 5, 2) := by decide +kernel
theorem dX9_countAt_7 : decode cX9_countAt 7 = .ok (.iconst 4, 1) := by decide +kernel
theorem dX9_countAt_8 : decode cX9_countAt 8 = .ok (.if_icmp .ge 28, 3) := by decide +kernel
theorem dX9_countAt_11 : decode cX9_countAt 11 = .ok (.lload_n 3, 1) := by decide +kernel
theorem dX9_countAt_12 : decode cX9_countAt 12 = .ok (.bipush 8, 2) := by decide +kernel
theorem dX9_countAt_14 : decode cX9_countAt 14 = .ok (.lshl, 1) := by decide +kernel
theorem dX9_countAt_15 : decode cX9_countAt 15 = .ok (.aload_n 0, 1) := by decide +kernel
theorem dX9_countAt_16 : decode cX9_countAt 16 = .ok (.iload_n 1, 1) := by decide +kernel
theorem dX9_countAt_17 : decode cX9_countAt 17 = .ok (.iconst 4, 1) := by decide +kernel
theorem dX9_countAt_18 : decode cX9_countAt 18 = .ok (.iadd, 1) := by decide +kernel
theorem dX9_countAt_19 : decode cX9_countAt 19 = .ok (.iconst 4, 1) := by decide +kernel
theorem dX9_countAt_20 : decode cX9_countAt 20 = .ok (.iload_n 2, 1) := by decide +kernel
theorem dX9_countAt_21 : decode cX9_countAt 21 = .ok (.imul, 1) := by decide +kernel
theorem dX9_countAt_22 : decode cX9_countAt 22 = .ok (.iadd, 1) := by decide +kernel
theorem dX9_countAt_23 : decode cX9_countAt 23 = .ok (.iload 5, 2) := by decide +kernel
theorem dX9_countAt_25 : decode cX9_countAt 25 = .ok (.iadd, 1) := by decide +kernel
theorem dX9_countAt_26 : decode cX9_countAt 26 = .ok (.iaload, 1) := by decide +kernel
theorem dX9_countAt_27 : decode cX9_countAt 27 = .ok (.i2l, 1) := by decide +kernel
theorem dX9_countAt_28 : decode cX9_countAt 28 = .ok (.lor, 1) := by decide +kernel
theorem dX9_countAt_29 : decode cX9_countAt 29 = .ok (.lstore_n 3, 1) := by decide +kernel
theorem dX9_countAt_30 : decode cX9_countAt 30 = .ok (.iinc 5 1, 3) := by decide +kernel
theorem dX9_countAt_33 : decode cX9_countAt 33 = .ok (.goto (-28), 3) := by decide +kernel
theorem dX9_countAt_36 : decode cX9_countAt 36 = .ok (.lload_n 3, 1) := by decide +kernel
theorem dX9_countAt_37 : decode cX9_countAt 37 = .ok (.lreturn, 1) := by decide +kernel
set_option maxRecDepth 20000 in
theorem ggX9_isNotAbove_X9_countAt : GoodIn wsX9_isNotAbove wsX9_countAt := goodIn_r _ [4] (by decide +kernel) (by decide +kernel)
set_option maxRecDepth 20000 in
theorem gX9_isNotAbove_X9_countAt : GoodIn wsX9_isNotAbove (va_wsS RX9 173 yX9_countAt wsX9_countAt) := goodIn_app (goodIn_of _ (by decide +kernel)) ggX9_isNotAbove_X9_countAt
theorem dX9_isNotAbove_0 : decode cX9_isNotAbove 0 = .ok (.iconst 1, 1) := by decide +kernel
theorem dX9_isNotAbove_1 : decode cX9_isNotAbove 1 = .ok (.istore_n 3, 1) := by decide +kernel
theorem dX9_isNotAbove_2 : decode cX9_isNotAbove 2 = .ok (.iconst 0, 1) := by decide +kernel
theorem dX9_isNotAbove_3 : decode cX9_isNotAbove 3 = .ok (.istore 4, 2) := by decide +kernel
theorem dX9_isNotAbove_5 : decode cX9_isNotAbove 5 = .ok (.iload 4, 2) := by decide +kernel
theorem dX9_isNotAbove_7 : decode cX9_isNotAbove 7 = .ok (.iconst 4, 1) := by decide +kernel
theorem dX9_isNotAbove_8 : decode cX9_isNotAbove 8 = .ok (.if_icmp .ge 37, 3) := by decide +kernel
theorem dX9_isNotAbove_11 : decode cX9_isNotAbove 11 = .ok (.iload_n 3, 1) := by decide +kernel
theorem dX9_isNotAbove_12 : decode cX9_isNotAbove 12 = .ok (.ifCond .eq 25, 3) := by decide +kernel
theorem dX9_isNotAbove_15 : decode cX9_isNotAbove 15 = .ok (.aload_n 0, 1) := by decide +kernel
theorem dX9_isNotAbove_16 : decode cX9_isNotAbove 16 = .ok (.iload_n 1, 1) := by decide +kernel
theorem dX9_isNotAbove_17 : decode cX9_isNotAbove 17 = .ok (.iload 4, 2) := by decide +kernel
theorem dX9_isNotAbove_19 : decode cX9_isNotAbove 19 = .ok (.invokestatic 173, 3) := by decide +kernel
theorem dX9_isNotAbove_22 : decode cX9_isNotAbove 22 = .ok (.aload_n 0, 1) := by decide +kernel
theorem dX9_isNotAbove_23 : decode cX9_isNotAbove 23 = .ok (.iload_n 2, 1) := by decide +kernel
theorem dX9_isNotAbove_24 : decode cX9_isNotAbove 24 = .ok (.iload 4, 2) := by decide +kernel
theorem dX9_isNotAbove_26 : decode cX9_isNotAbove 26 = .ok (.invokestatic 173, 3) := by decide +kernel
theorem dX9_isNotAbove_29 : decode cX9_isNotAbove 29 = .ok (.lcmp, 1) := by decide +kernel
theorem dX9_isNotAbove_30 : decode cX9_isNotAbove 30 = .ok (.ifCond .gt 7, 3) := by decide +kernel
end
section
theorem dX9_isNotAbove_33 : decode cX9_isNotAbove 33 = .ok (.iconst 1, 1) := by decide +kernel
theorem dX9_isNotAbove_34 : decode cX9_isNotAbove 34 = .ok (.goto 4, 3) := by decide +kernel
theorem dX9_isNotAbove_37 : decode cX9_isNotAbove 37 = .ok (.iconst 0, 1) := by decide +kernel
theorem dX9_isNotAbove_38 : decode cX9_isNotAbove 38 = .ok (.istore_n 3, 1) := by decide +kernel
theorem dX9_isNotAbove_39 : decode cX9_isNotAbove 39 = .ok (.iinc 4 1, 3) := by decide +kernel
theorem dX9_isNotAbove_42 : decode cX9_isNotAbove 42 = .ok (.goto (-37), 3) := by decide +kernel
theorem dX9_isNotAbove_45 : decode cX9_isNotAbove 45 = .ok (.iload_n 3, 1) := by decide +kernel
theorem dX9_isNotAbove_46 : decode cX9_isNotAbove 46 = .ok (.ireturn, 1) := by decide +kernel
set_option maxRecDepth 20000 in
theorem ggX9_isSigned_X9_placeOf : GoodIn wsX9_isSigned wsX9_placeOf := goodIn_r _ [8] (by decide +kernel) (by decide +kernel)
set_option maxRecDepth 20000 in
theorem gX9_isSigned_X9_placeOf : GoodIn wsX9_isSigned (va_wsS RX9 170 yX9_placeOf wsX9_placeOf) := goodIn_app (goodIn_of _ (by decide +kernel)) ggX9_isSigned_X9_placeOf
set_option maxRecDepth 20000 in
theorem ggX9_isSigned_X9_mac : GoodIn wsX9_isSigned wsX9_mac := goodIn_r _ [12, 13, 1, 2, 14, 4, 15, 16, 17, 7, 18, 19, 20, 21, 22, 23, 24, 25, 26, 27, 28, 29, 30, 31, 32, 33, 34, 35, 36, 37, 38, 39, 40, 41, 42, 43, 44, 45, 46, 47, 48, 49, 50, 51, 52, 53, 54, 55, 56, 57, 58, 59, 60, 61] (by decide +kernel) (by decide +kernel)
set_option maxRecDepth 20000 in
theorem gX9_isSigned_X9_mac : GoodIn wsX9_isSigned (wsV RX9 167 RX9 yX9_mac wsX9_mac) := goodIn_app (goodIn_of _ (by decide +kernel)) ggX9_isSigned_X9_mac
theorem dX9_isSigned_0 : decode cX9_isSigned 0 = .ok (.iload_n 1, 1) := by decide +kernel
theorem dX9_isSigned_1 : decode cX9_isSigned 1 = .ok (.iload_n 2, 1) := by decide +kernel
theorem dX9_isSigned_2 : decode cX9_isSigned 2 = .ok (.invokestatic 170, 3) := by decide +kernel
theorem dX9_isSigned_5 : decode cX9_isSigned 5 = .ok (.istore_n 3, 1) := by decide +kernel
theorem dX9_isSigned_6 : decode cX9_isSigned 6 = .ok (.aload_n 0, 1) := by decide +kernel
theorem dX9_isSigned_7 : decode cX9_isSigned 7 = .ok (.bipush 52, 2) := by decide +kernel
theorem dX9_isSigned_9 : decode cX9_isSigned 9 = .ok (.putfield 161, 3) := by decide +kernel
theorem dX9_isSigned_12 : decode cX9_isSigned 12 = .ok (.iconst 0, 1) := by decide +kernel
theorem dX9_isSigned_13 : decode cX9_isSigned 13 = .ok (.istore 4, 2) := by decide +kernel
theorem dX9_isSigned_15 : decode cX9_isSigned 15 = .ok (.iload 4, 2) := by decide +kernel
theorem dX9_isSigned_17 : decode cX9_isSigned 17 = .ok (.bipush 52, 2) := by decide +kernel
theorem dX9_isSigned_19 : decode cX9_isSigned 19 = .ok (.if_icmp .ge 25, 3) := by decide +kernel
theorem dX9_isSigned_22 : decode cX9_isSigned 22 = .ok (.aload_n 0, 1) := by decide +kernel
theorem dX9_isSigned_23 : decode cX9_isSigned 23 = .ok (.getfield 131, 3) := by decide +kernel
theorem dX9_isSigned_26 : decode cX9_isSigned 26 = .ok (.iload 4, 2) := by decide +kernel
theorem dX9_isSigned_28 : decode cX9_isSigned 28 = .ok (.aload_n 0, 1) := by decide +kernel
theorem dX9_isSigned_29 : decode cX9_isSigned 29 = .ok (.getfield 88, 3) := by decide +kernel
theorem dX9_isSigned_32 : decode cX9_isSigned 32 = .ok (.iload_n 3, 1) := by decide +kernel
theorem dX9_isSigned_33 : decode cX9_isSigned 33 = .ok (.iload 4, 2) := by decide +kernel
theorem dX9_isSigned_35 : decode cX9_isSigned 35 = .ok (.iadd, 1) := by decide +kernel
theorem dX9_isSigned_36 : decode cX9_isSigned 36 = .ok (.iaload, 1) := by decide +kernel
theorem dX9_isSigned_37 : decode cX9_isSigned 37 = .ok (.iastore, 1) := by decide +kernel
theorem dX9_isSigned_38 : decode cX9_isSigned 38 = .ok (.iinc 4 1, 3) := by decide +kernel
theorem dX9_isSigned_41 : decode cX9_isSigned 41 = .ok (.goto (-26), 3) := by decide +kernel
theorem dX9_isSigned_44 : decode cX9_isSigned 44 = .ok (.aload_n 0, 1) := by decide +kernel
theorem dX9_isSigned_45 : decode cX9_isSigned 45 = .ok (.invokevirtual 167, 3) := by decide +kernel
theorem dX9_isSigned_48 : decode cX9_isSigned 48 = .ok (.aload_n 0, 1) := by decide +kernel
theorem dX9_isSigned_49 : decode cX9_isSigned 49 = .ok (.getfield 88, 3) := by decide +kernel
theorem dX9_isSigned_52 : decode cX9_isSigned 52 = .ok (.iload_n 3, 1) := by decide +kernel
theorem dX9_isSigned_53 : decode cX9_isSigned 53 = .ok (.iaload, 1) := by decide +kernel
theorem dX9_isSigned_54 : decode cX9_isSigned 54 = .ok (.iload_n 2, 1) := by decide +kernel
theorem dX9_isSigned_55 : decode cX9_isSigned 55 = .ok (.if_icmp .ne 7, 3) := by decide +kernel
theorem dX9_isSigned_58 : decode cX9_isSigned 58 = .ok (.iconst 1, 1) := by decide +kernel
theorem dX9_isSigned_59 : decode cX9_isSigned 59 = .ok (.goto 4, 3) := by decide +kernel
theorem dX9_isSigned_62 : decode cX9_isSigned 62 = .ok (.iconst 0, 1) := by decide +kernel
theorem dX9_isSigned_63 : decode cX9_isSigned 63 = .ok (.istore 4, 2) := by decide +kernel
theorem dX9_isSigned_65 : decode cX9_isSigned 65 = .ok (.iconst 0, 1) := by decide +kernel
theorem dX9_isSigned_66 : decode cX9_isSigned 66 = .ok (.istore 5, 2) := by decide +kernel
theorem dX9_isSigned_68 : decode cX9_isSigned 68 = .ok (.iload 5, 2) := by decide +kernel
theorem dX9_isSigned_70 : decode cX9_isSigned 70 = .ok (.bipush 32, 2) := by decide +kernel
theorem dX9_isSigned_72 : decode cX9_isSigned 72 = .ok (.if_icmp .ge 43, 3) := by decide +kernel
theorem dX9_isSigned_75 : decode cX9_isSigned 75 = .ok (.iload 4, 2) := by decide +kernel
theorem dX9_isSigned_77 : decode cX9_isSigned 77 = .ok (.ifCond .eq 29, 3) := by decide +kernel
theorem dX9_isSigned_80 : decode cX9_isSigned 80 = .ok (.aload_n 0, 1) := by decide +kernel
theorem dX9_isSigned_81 : decode cX9_isSigned 81 = .ok (.getfield 88, 3) := by decide +kernel
theorem dX9_isSigned_84 : decode cX9_isSigned 84 = .ok (.iload_n 3, 1) := by decide +kernel
theorem dX9_isSigned_85 : decode cX9_isSigned 85 = .ok (.bipush 52, 2) := by decide +kernel
theorem dX9_isSigned_87 : decode cX9_isSigned 87 = .ok (.iadd, 1) := by decide +kernel
theorem dX9_isSigned_88 : decode cX9_isSigned 88 = .ok (.iload 5, 2) := by decide +kernel
theorem dX9_isSigned_90 : decode cX9_isSigned 90 = .ok (.iadd, 1) := by decide +kernel
theorem dX9_isSigned_91 : decode cX9_isSigned 91 = .ok (.iaload, 1) := by decide +kernel
theorem dX9_isSigned_92 : decode cX9_isSigned 92 = .ok (.aload_n 0, 1) := by decide +kernel
theorem dX9_isSigned_93 : decode cX9_isSigned 93 = .ok (.getfield 116, 3) := by decide +kernel
theorem dX9_isSigned_96 : decode cX9_isSigned 96 = .ok (.iload 5, 2) := by decide +kernel
theorem dX9_isSigned_98 : decode cX9_isSigned 98 = .ok (.iaload, 1) := by decide +kernel
theorem dX9_isSigned_99 : decode cX9_isSigned 99 = .ok (.if_icmp .ne 7, 3) := by decide +kernel
theorem dX9_isSigned_102 : decode cX9_isSigned 102 = .ok (.iconst 1, 1) := by decide +kernel
theorem dX9_isSigned_103 : decode cX9_isSigned 103 = .ok (.goto 4, 3) := by decide +kernel
theorem dX9_isSigned_106 : decode cX9_isSigned 106 = .ok (.iconst 0, 1) := by decide +kernel
theorem dX9_isSigned_107 : decode cX9_isSigned 107 = .ok (.istore 4, 2) := by decide +kernel
theorem dX9_isSigned_109 : decode cX9_isSigned 109 = .ok (.iinc 5 1, 3) := by decide +kernel
theorem dX9_isSigned_112 : decode cX9_isSigned 112 = .ok (.goto (-44), 3) := by decide +kernel
theorem dX9_isSigned_115 : decode cX9_isSigned 115 = .ok (.iload 4, 2) := by decide +kernel
theorem dX9_isSigned_117 : decode cX9_isSigned 117 = .ok (.ireturn, 1) := by decide +kernel
set_option maxRecDepth 20000 in
theorem ggX9_greatest_X9_placeOf : GoodIn wsX9_greatest wsX9_placeOf := goodIn_r _ [5] (by decide +kernel) (by decide +kernel)
set_option maxRecDepth 20000 in
theorem gX9_greatest_X9_placeOf : GoodIn wsX9_greatest (va_wsS RX9 170 yX9_placeOf wsX9_placeOf) := goodIn_app (goodIn_of _ (by decide +kernel)) ggX9_greatest_X9_placeOf
set_option maxRecDepth 20000 in
theorem ggX9_greatest_X9_isNotAbove : GoodIn wsX9_greatest wsX9_isNotAbove := goodIn_r _ [8, 9, 10, 4, 11] (by decide +kernel) (by decide +kernel)
set_option maxRecDepth 20000 in
theorem gX9_greatest_X9_isNotAbove : GoodIn wsX9_greatest (va_wsS RX9 177 yX9_isNotAbove wsX9_isNotAbove) := goodIn_app (goodIn_of _ (by decide +kernel)) ggX9_greatest_X9_isNotAbove
theorem dX9_greatest_0 : decode cX9_greatest 0 = .ok (.iconst (-1), 1) := by decide +kernel
theorem dX9_greatest_1 : decode cX9_greatest 1 = .ok (.istore_n 2, 1) := by decide +kernel
theorem dX9_greatest_2 : decode cX9_greatest 2 = .ok (.iconst 0, 1) := by decide +kernel
theorem dX9_greatest_3 : decode cX9_greatest 3 = .ok (.istore_n 3, 1) := by decide +kernel
theorem dX9_greatest_4 : decode cX9_greatest 4 = .ok (.iload_n 3, 1) := by decide +kernel
theorem dX9_greatest_5 : decode cX9_greatest 5 = .ok (.iconst 4, 1) := by decide +kernel
theorem dX9_greatest_6 : decode cX9_greatest 6 = .ok (.if_icmp .ge 76, 3) := by decide +kernel
theorem dX9_greatest_9 : decode cX9_greatest 9 = .ok (.iload_n 2, 1) := by decide +kernel
theorem dX9_greatest_10 : decode cX9_greatest 10 = .ok (.iconst (-1), 1) := by decide +kernel
theorem dX9_greatest_11 : decode cX9_greatest 11 = .ok (.if_icmp .ne 71, 3) := by decide +kernel
theorem dX9_greatest_14 : decode cX9_greatest 14 = .ok (.iconst 1, 1) := by decide +kernel
theorem dX9_greatest_15 : decode cX9_greatest 15 = .ok (.istore 4, 2) := by decide +kernel
theorem dX9_greatest_17 : decode cX9_greatest 17 = .ok (.iconst 0, 1) := by decide +kernel
theorem dX9_greatest_18 : decode cX9_greatest 18 = .ok (.istore 5, 2) := by decide +kernel
theorem dX9_greatest_20 : decode cX9_greatest 20 = .ok (.iload 5, 2) := by decide +kernel
theorem dX9_greatest_22 : decode cX9_greatest 22 = .ok (.iconst 4, 1) := by decide +kernel
theorem dX9_greatest_23 : decode cX9_greatest 23 = .ok (.if_icmp .ge 42, 3) := by decide +kernel
theorem dX9_greatest_26 : decode cX9_greatest 26 = .ok (.iload 4, 2) := by decide +kernel
theorem dX9_greatest_28 : decode cX9_greatest 28 = .ok (.ifCond .eq 28, 3) := by decide +kernel
theorem dX9_greatest_31 : decode cX9_greatest 31 = .ok (.aload_n 0, 1) := by decide +kernel
theorem dX9_greatest_32 : decode cX9_greatest 32 = .ok (.getfield 88, 3) := by decide +kernel
theorem dX9_greatest_35 : decode cX9_greatest 35 = .ok (.iload_n 1, 1) := by decide +kernel
theorem dX9_greatest_36 : decode cX9_greatest 36 = .ok (.iload 5, 2) := by decide +kernel
theorem dX9_greatest_38 : decode cX9_greatest 38 = .ok (.invokestatic 170, 3) := by decide +kernel
theorem dX9_greatest_41 : decode cX9_greatest 41 = .ok (.iload_n 1, 1) := by decide +kernel
theorem dX9_greatest_42 : decode cX9_greatest 42 = .ok (.iload_n 3, 1) := by decide +kernel
theorem dX9_greatest_43 : decode cX9_greatest 43 = .ok (.invokestatic 170, 3) := by decide +kernel
theorem dX9_greatest_46 : decode cX9_greatest 46 = .ok (.invokestatic 177, 3) := by decide +kernel
theorem dX9_greatest_49 : decode cX9_greatest 49 = .ok (.ifCond .eq 7, 3) := by decide +kernel
theorem dX9_greatest_52 : decode cX9_greatest 52 = .ok (.iconst 1, 1) := by decide +kernel
theorem dX9_greatest_53 : decode cX9_greatest 53 = .ok (.goto 4, 3) := by decide +kernel
theorem dX9_greatest_56 : decode cX9_greatest 56 = .ok (.iconst 0, 1) := by decide +kernel
theorem dX9_greatest_57 : decode cX9_greatest 57 = .ok (.istore 4, 2) := by decide +kernel
theorem dX9_greatest_59 : decode cX9_greatest 59 = .ok (.iinc 5 1, 3) := by decide +kernel
theorem dX9_greatest_62 : decode cX9_greatest 62 = .ok (.goto (-42), 3) := by decide +kernel
theorem dX9_greatest_65 : decode cX9_greatest 65 = .ok (.iload 4, 2) := by decide +kernel
theorem dX9_greatest_67 : decode cX9_greatest 67 = .ok (.ifCond .eq 7, 3) := by decide +kernel
theorem dX9_greatest_70 : decode cX9_greatest 70 = .ok (.iload_n 3, 1) := by decide +kernel
theorem dX9_greatest_71 : decode cX9_greatest 71 = .ok (.goto 4, 3) := by decide +kernel
theorem dX9_greatest_74 : decode cX9_greatest 74 = .ok (.iload_n 2, 1) := by decide +kernel
theorem dX9_greatest_75 : decode cX9_greatest 75 = .ok (.istore_n 2, 1) := by decide +kernel
theorem dX9_greatest_76 : decode cX9_greatest 76 = .ok (.iinc 3 1, 3) := by decide +kernel
theorem dX9_greatest_79 : decode cX9_greatest 79 = .ok (.goto (-75), 3) := by decide +kernel
theorem dX9_greatest_82 : decode cX9_greatest 82 = .ok (.iload_n 2, 1) := by decide +kernel
theorem dX9_greatest_83 : decode cX9_greatest 83 = .ok (.ireturn, 1) := by decide +kernel
set_option maxRecDepth 20000 in
theorem ggX9_check_X9_isSigned : GoodIn wsX9_check wsX9_isSigned := goodIn_r _ [9, 10, 11, 2, 12, 13, 14, 8, 15, 16, 17, 18, 19, 20, 21, 22, 23, 24, 25, 26, 27, 28, 29, 30, 31, 32, 33, 34, 35, 36, 37, 38, 39, 40, 41, 42, 43, 44, 45, 62, 63, 64, 65, 66, 67, 68, 69, 70, 71, 72, 73, 74, 75, 76, 77, 78, 79, 80, 81, 82, 83, 84] (by decide +kernel) (by decide +kernel)
set_option maxRecDepth 20000 in
theorem gX9_check_X9_isSigned : GoodIn wsX9_check (wsV RX9 181 RX9 yX9_isSigned wsX9_isSigned) := goodIn_app (goodIn_of _ (by decide +kernel)) ggX9_check_X9_isSigned
set_option maxRecDepth 20000 in
theorem ggX9_check_X9_placeOf : GoodIn wsX9_check wsX9_placeOf := goodIn_r _ [15] (by decide +kernel) (by decide +kernel)
set_option maxRecDepth 20000 in
theorem gX9_check_X9_placeOf : GoodIn wsX9_check (va_wsS RX9 170 yX9_placeOf wsX9_placeOf) := goodIn_app (goodIn_of _ (by decide +kernel)) ggX9_check_X9_placeOf
set_option maxRecDepth 20000 in
theorem ggX9_check_X9_isNotAbove : GoodIn wsX9_check wsX9_isNotAbove := goodIn_r _ [48, 49, 50, 8, 51] (by decide +kernel) (by decide +kernel)
set_option maxRecDepth 20000 in
theorem gX9_check_X9_isNotAbove : GoodIn wsX9_check (va_wsS RX9 177 yX9_isNotAbove wsX9_isNotAbove) := goodIn_app (goodIn_of _ (by decide +kernel)) ggX9_check_X9_isNotAbove
set_option maxRecDepth 20000 in
theorem ggX9_check_X9_findRoot : GoodIn wsX9_check wsX9_findRoot := goodIn_r _ [55, 20, 56, 57, 4, 12, 26, 27, 28, 8, 29, 30, 31, 32, 33, 34, 35, 36, 37, 38, 39, 40, 41, 42, 43, 44, 45, 62, 63, 64, 65, 66, 67, 68, 69, 70, 71, 72, 73, 74, 75, 76, 77, 78, 79, 80, 81, 82, 83, 84] (by decide +kernel) (by decide +kernel)
set_option maxRecDepth 20000 in
theorem gX9_check_X9_findRoot : GoodIn wsX9_check (wsV RX9 134 RX9 yX9_findRoot wsX9_findRoot) := goodIn_app (goodIn_of _ (by decide +kernel)) ggX9_check_X9_findRoot
set_option maxRecDepth 20000 in
theorem ggX9_check_X9_greatest : GoodIn wsX9_check wsX9_greatest := goodIn_r _ [61, 2, 13, 14, 8, 15, 46, 47, 48, 49, 50, 51, 62, 63, 64, 65, 66, 67, 68, 69, 70, 71, 72, 73, 74, 75, 76, 77, 78, 79, 80, 81, 82, 83, 84] (by decide +kernel) (by decide +kernel)
set_option maxRecDepth 20000 in
theorem gX9_check_X9_greatest : GoodIn wsX9_check (wsV RX9 185 RX9 yX9_greatest wsX9_greatest) := goodIn_app (goodIn_of _ (by decide +kernel)) ggX9_check_X9_greatest
theorem dX9_check_0 : decode cX9_check 0 = .ok (.aload_n 0, 1) := by decide +kernel
theorem dX9_check_1 : decode cX9_check 1 = .ok (.getfield 104, 3) := by decide +kernel
theorem dX9_check_4 : decode cX9_check 4 = .ok (.iload_n 1, 1) := by decide +kernel
theorem dX9_check_5 : decode cX9_check 5 = .ok (.iaload, 1) := by decide +kernel
theorem dX9_check_6 : decode cX9_check 6 = .ok (.istore_n 2, 1) := by decide +kernel
theorem dX9_check_7 : decode cX9_check 7 = .ok (.iconst 0, 1) := by decide +kernel
theorem dX9_check_8 : decode cX9_check 8 = .ok (.istore_n 3, 1) := by decide +kernel
theorem dX9_check_9 : decode cX9_check 9 = .ok (.iload_n 3, 1) := by decide +kernel
theorem dX9_check_10 : decode cX9_check 10 = .ok (.iconst 4, 1) := by decide +kernel
theorem dX9_check_11 : decode cX9_check 11 = .ok (.if_icmp .ge 20, 3) := by decide +kernel
theorem dX9_check_14 : decode cX9_check 14 = .ok (.aload_n 0, 1) := by decide +kernel
theorem dX9_check_15 : decode cX9_check 15 = .ok (.iload_n 2, 1) := by decide +kernel
theorem dX9_check_16 : decode cX9_check 16 = .ok (.iload_n 3, 1) := by decide +kernel
theorem dX9_check_17 : decode cX9_check 17 = .ok (.invokevirtual 181, 3) := by decide +kernel
theorem dX9_check_20 : decode cX9_check 20 = .ok (.ifCond .ne 5, 3) := by decide +kernel
theorem dX9_check_23 : decode cX9_check 23 = .ok (.iconst 1, 1) := by decide +kernel
theorem dX9_check_24 : decode cX9_check 24 = .ok (.ireturn, 1) := by decide +kernel
theorem dX9_check_25 : decode cX9_check 25 = .ok (.iinc 3 1, 3) := by decide +kernel
theorem dX9_check_28 : decode cX9_check 28 = .ok (.goto (-19), 3) := by decide +kernel
theorem dX9_check_31 : decode cX9_check 31 = .ok (.iconst 0, 1) := by decide +kernel
theorem dX9_check_32 : decode cX9_check 32 = .ok (.istore_n 3, 1) := by decide +kernel
theorem dX9_check_33 : decode cX9_check 33 = .ok (.iload_n 3, 1) := by decide +kernel
theorem dX9_check_34 : decode cX9_check 34 = .ok (.bipush 84, 2) := by decide +kernel
theorem dX9_check_36 : decode cX9_check 36 = .ok (.if_icmp .ge 37, 3) := by decide +kernel
theorem dX9_check_39 : decode cX9_check 39 = .ok (.aload_n 0, 1) := by decide +kernel
theorem dX9_check_40 : decode cX9_check 40 = .ok (.getfield 88, 3) := by decide +kernel
theorem dX9_check_43 : decode cX9_check 43 = .ok (.iload_n 2, 1) := by decide +kernel
theorem dX9_check_44 : decode cX9_check 44 = .ok (.iload_n 1, 1) := by decide +kernel
theorem dX9_check_45 : decode cX9_check 45 = .ok (.invokestatic 170, 3) := by decide +kernel
theorem dX9_check_48 : decode cX9_check 48 = .ok (.iload_n 3, 1) := by decide +kernel
theorem dX9_check_49 : decode cX9_check 49 = .ok (.iadd, 1) := by decide +kernel
theorem dX9_check_50 : decode cX9_check 50 = .ok (.iaload, 1) := by decide +kernel
theorem dX9_check_51 : decode cX9_check 51 = .ok (.aload_n 0, 1) := by decide +kernel
theorem dX9_check_52 : decode cX9_check 52 = .ok (.getfield 91, 3) := by decide +kernel
theorem dX9_check_55 : decode cX9_check 55 = .ok (.bipush 84, 2) := by decide +kernel
theorem dX9_check_57 : decode cX9_check 57 = .ok (.iload_n 1, 1) := by decide +kernel
theorem dX9_check_58 : decode cX9_check 58 = .ok (.imul, 1) := by decide +kernel
theorem dX9_check_59 : decode cX9_check 59 = .ok (.iload_n 3, 1) := by decide +kernel
theorem dX9_check_60 : decode cX9_check 60 = .ok (.iadd, 1) := by decide +kernel
theorem dX9_check_61 : decode cX9_check 61 = .ok (.iaload, 1) := by decide +kernel
theorem dX9_check_62 : decode cX9_check 62 = .ok (.if_icmp .eq 5, 3) := by decide +kernel
theorem dX9_check_65 : decode cX9_check 65 = .ok (.iconst 2, 1) := by decide +kernel
theorem dX9_check_66 : decode cX9_check 66 = .ok (.ireturn, 1) := by decide +kernel
theorem dX9_check_67 : decode cX9_check 67 = .ok (.iinc 3 1, 3) := by decide +kernel
theorem dX9_check_70 : decode cX9_check 70 = .ok (.goto (-37), 3) := by decide +kernel
theorem dX9_check_73 : decode cX9_check 73 = .ok (.iconst 0, 1) := by decide +kernel
theorem dX9_check_74 : decode cX9_check 74 = .ok (.istore_n 3, 1) := by decide +kernel
theorem dX9_check_75 : decode cX9_check 75 = .ok (.iload_n 3, 1) := by decide +kernel
theorem dX9_check_76 : decode cX9_check 76 = .ok (.iconst 4, 1) := by decide +kernel
theorem dX9_check_77 : decode cX9_check 77 = .ok (.if_icmp .ge 69, 3) := by decide +kernel
theorem dX9_check_80 : decode cX9_check 80 = .ok (.iconst 0, 1) := by decide +kernel
theorem dX9_check_81 : decode cX9_check 81 = .ok (.istore 4, 2) := by decide +kernel
theorem dX9_check_83 : decode cX9_check 83 = .ok (.iload 4, 2) := by decide +kernel
theorem dX9_check_85 : decode cX9_check 85 = .ok (.iload_n 3, 1) := by decide +kernel
theorem dX9_check_86 : decode cX9_check 86 = .ok (.if_icmp .ge 54, 3) := by decide +kernel
theorem dX9_check_89 : decode cX9_check 89 = .ok (.iload_n 2, 1) := by decide +kernel
theorem dX9_check_90 : decode cX9_check 90 = .ok (.iload_n 3, 1) := by decide +kernel
theorem dX9_check_91 : decode cX9_check 91 = .ok (.invokestatic 170, 3) := by decide +kernel
theorem dX9_check_94 : decode cX9_check 94 = .ok (.istore 5, 2) := by decide +kernel
theorem dX9_check_96 : decode cX9_check 96 = .ok (.iload_n 2, 1) := by decide +kernel
theorem dX9_check_97 : decode cX9_check 97 = .ok (.iload 4, 2) := by decide +kernel
theorem dX9_check_99 : decode cX9_check 99 = .ok (.invokestatic 170, 3) := by decide +kernel
theorem dX9_check_102 : decode cX9_check 102 = .ok (.istore 6, 2) := by decide +kernel
theorem dX9_check_104 : decode cX9_check 104 = .ok (.aload_n 0, 1) := by decide +kernel
theorem dX9_check_105 : decode cX9_check 105 = .ok (.getfield 88, 3) := by decide +kernel
theorem dX9_check_108 : decode cX9_check 108 = .ok (.iload 5, 2) := by decide +kernel
theorem dX9_check_110 : decode cX9_check 110 = .ok (.iload 6, 2) := by decide +kernel
theorem dX9_check_112 : decode cX9_check 112 = .ok (.invokestatic 177, 3) := by decide +kernel
theorem dX9_check_115 : decode cX9_check 115 = .ok (.ifCond .ne 19, 3) := by decide +kernel
theorem dX9_check_118 : decode cX9_check 118 = .ok (.aload_n 0, 1) := by decide +kernel
theorem dX9_check_119 : decode cX9_check 119 = .ok (.getfield 88, 3) := by decide +kernel
theorem dX9_check_122 : decode cX9_check 122 = .ok (.iload 6, 2) := by decide +kernel
theorem dX9_check_124 : decode cX9_check 124 = .ok (.iload 5, 2) := by decide +kernel
theorem dX9_check_126 : decode cX9_check 126 = .ok (.invokestatic 177, 3) := by decide +kernel
theorem dX9_check_129 : decode cX9_check 129 = .ok (.ifCond .ne 5, 3) := by decide +kernel
theorem dX9_check_132 : decode cX9_check 132 = .ok (.iconst 3, 1) := by decide +kernel
theorem dX9_check_133 : decode cX9_check 133 = .ok (.ireturn, 1) := by decide +kernel
theorem dX9_check_134 : decode cX9_check 134 = .ok (.iinc 4 1, 3) := by decide +kernel
theorem dX9_check_137 : decode cX9_check 137 = .ok (.goto (-54), 3) := by decide +kernel
theorem dX9_check_140 : decode cX9_check 140 = .ok (.iinc 3 1, 3) := by decide +kernel
theorem dX9_check_143 : decode cX9_check 143 = .ok (.goto (-68), 3) := by decide +kernel
theorem dX9_check_146 : decode cX9_check 146 = .ok (.aload_n 0, 1) := by decide +kernel
theorem dX9_check_147 : decode cX9_check 147 = .ok (.iload_n 2, 1) := by decide +kernel
theorem dX9_check_148 : decode cX9_check 148 = .ok (.invokevirtual 134, 3) := by decide +kernel
theorem dX9_check_151 : decode cX9_check 151 = .ok (.iload_n 2, 1) := by decide +kernel
theorem dX9_check_152 : decode cX9_check 152 = .ok (.aload_n 0, 1) := by decide +kernel
theorem dX9_check_153 : decode cX9_check 153 = .ok (.iload_n 2, 1) := by decide +kernel
theorem dX9_check_154 : decode cX9_check 154 = .ok (.invokevirtual 185, 3) := by decide +kernel
theorem dX9_check_157 : decode cX9_check 157 = .ok (.invokestatic 170, 3) := by decide +kernel
theorem dX9_check_160 : decode cX9_check 160 = .ok (.bipush 20, 2) := by decide +kernel
theorem dX9_check_162 : decode cX9_check 162 = .ok (.iadd, 1) := by decide +kernel
theorem dX9_check_163 : decode cX9_check 163 = .ok (.istore_n 3, 1) := by decide +kernel
theorem dX9_check_164 : decode cX9_check 164 = .ok (.iconst 0, 1) := by decide +kernel
theorem dX9_check_165 : decode cX9_check 165 = .ok (.istore 4, 2) := by decide +kernel
theorem dX9_check_167 : decode cX9_check 167 = .ok (.iload 4, 2) := by decide +kernel
theorem dX9_check_169 : decode cX9_check 169 = .ok (.bipush 32, 2) := by decide +kernel
theorem dX9_check_171 : decode cX9_check 171 = .ok (.if_icmp .ge 30, 3) := by decide +kernel
theorem dX9_check_174 : decode cX9_check 174 = .ok (.aload_n 0, 1) := by decide +kernel
theorem dX9_check_175 : decode cX9_check 175 = .ok (.getfield 88, 3) := by decide +kernel
theorem dX9_check_178 : decode cX9_check 178 = .ok (.iload_n 3, 1) := by decide +kernel
theorem dX9_check_179 : decode cX9_check 179 = .ok (.iload 4, 2) := by decide +kernel
theorem dX9_check_181 : decode cX9_check 181 = .ok (.iadd, 1) := by decide +kernel
theorem dX9_check_182 : decode cX9_check 182 = .ok (.iaload, 1) := by decide +kernel
theorem dX9_check_183 : decode cX9_check 183 = .ok (.aload_n 0, 1) := by decide +kernel
theorem dX9_check_184 : decode cX9_check 184 = .ok (.getfield 128, 3) := by decide +kernel
theorem dX9_check_187 : decode cX9_check 187 = .ok (.iload 4, 2) := by decide +kernel
theorem dX9_check_189 : decode cX9_check 189 = .ok (.iaload, 1) := by decide +kernel
theorem dX9_check_190 : decode cX9_check 190 = .ok (.if_icmp .eq 5, 3) := by decide +kernel
theorem dX9_check_193 : decode cX9_check 193 = .ok (.iconst 4, 1) := by decide +kernel
theorem dX9_check_194 : decode cX9_check 194 = .ok (.ireturn, 1) := by decide +kernel
theorem dX9_check_195 : decode cX9_check 195 = .ok (.iinc 4 1, 3) := by decide +kernel
theorem dX9_check_198 : decode cX9_check 198 = .ok (.goto (-31), 3) := by decide +kernel
theorem dX9_check_201 : decode cX9_check 201 = .ok (.iconst 0, 1) := by decide +kernel
theorem dX9_check_202 : decode cX9_check 202 = .ok (.ireturn, 1) := by decide +kernel
set_option maxRecDepth 20000 in
theorem ggX9_advance_X9_greatest : GoodIn wsX9_advance wsX9_greatest := goodIn_r _ [9, 3, 10, 11, 8, 12, 13, 14, 15, 16, 17, 18, 67, 68, 69, 70, 71, 72, 73, 74, 75, 76, 77, 78, 79, 80, 81, 82, 83, 84, 85, 86, 87, 88, 89] (by decide +kernel) (by decide +kernel)
set_option maxRecDepth 20000 in
theorem gX9_advance_X9_greatest : GoodIn wsX9_advance (wsV RX9 185 RX9 yX9_greatest wsX9_greatest) := goodIn_app (goodIn_of _ (by decide +kernel)) ggX9_advance_X9_greatest
set_option maxRecDepth 20000 in
theorem ggX9_advance_X9_placeOf : GoodIn wsX9_advance wsX9_placeOf := goodIn_r _ [12] (by decide +kernel) (by decide +kernel)
set_option maxRecDepth 20000 in
theorem gX9_advance_X9_placeOf : GoodIn wsX9_advance (va_wsS RX9 170 yX9_placeOf wsX9_placeOf) := goodIn_app (goodIn_of _ (by decide +kernel)) ggX9_advance_X9_placeOf
set_option maxRecDepth 20000 in
theorem ggX9_advance_X9_findRoot : GoodIn wsX9_advance wsX9_findRoot := goodIn_r _ [22, 23, 24, 25, 26, 27, 28, 29, 30, 8, 31, 32, 33, 34, 35, 36, 37, 38, 39, 40, 41, 42, 43, 44, 45, 46, 47, 67, 68, 69, 70, 71, 72, 73, 74, 75, 76, 77, 78, 79, 80, 81, 82, 83, 84, 85, 86, 87, 88, 89] (by decide +kernel) (by decide +kernel)
set_option maxRecDepth 20000 in
theorem gX9_advance_X9_findRoot : GoodIn wsX9_advance (wsV RX9 134 RX9 yX9_findRoot wsX9_findRoot) := goodIn_app (goodIn_of _ (by decide +kernel)) ggX9_advance_X9_findRoot
set_option maxRecDepth 20000 in
theorem ggX9_advance_X9_sign : GoodIn wsX9_advance wsX9_sign := goodIn_r _ [51, 2, 26, 52, 53, 27, 54, 55, 56, 8, 57, 23, 58, 59, 60, 61, 62, 28, 29, 30, 31, 32, 33, 34, 35, 36, 37, 38, 39, 40, 41, 42, 43, 44, 45, 46, 47, 67, 68, 69, 70, 71, 72, 73, 74, 75, 76, 77, 78, 79, 80, 81, 82, 83, 84, 85, 86, 87, 88, 89] (by decide +kernel) (by decide +kernel)
set_option maxRecDepth 20000 in
theorem gX9_advance_X9_sign : GoodIn wsX9_advance (wsV RX9 138 RX9 yX9_sign wsX9_sign) := goodIn_app (goodIn_of _ (by decide +kernel)) ggX9_advance_X9_sign
set_option maxRecDepth 20000 in
theorem ggX9_advance_X9_tell : GoodIn wsX9_advance wsX9_tell := goodIn_r _ [66, 3, 2, 10, 11, 8, 12, 67, 68, 69, 70, 71, 72, 73, 74, 75, 76, 77, 78, 79, 80, 81, 82, 83, 84, 85, 86, 87, 88, 89] (by decide +kernel) (by decide +kernel)
set_option maxRecDepth 20000 in
theorem gX9_advance_X9_tell : GoodIn wsX9_advance (wsV RX9 141 RX9 yX9_tell wsX9_tell) := goodIn_app (goodIn_of _ (by decide +kernel)) ggX9_advance_X9_tell
theorem dX9_advance_0 : decode cX9_advance 0 = .ok (.aload_n 0, 1) := by decide +kernel
theorem dX9_advance_1 : decode cX9_advance 1 = .ok (.getfield 104, 3) := by decide +kernel
theorem dX9_advance_4 : decode cX9_advance 4 = .ok (.iload_n 1, 1) := by decide +kernel
theorem dX9_advance_5 : decode cX9_advance 5 = .ok (.iaload, 1) := by decide +kernel
theorem dX9_advance_6 : decode cX9_advance 6 = .ok (.istore_n 2, 1) := by decide +kernel
theorem dX9_advance_7 : decode cX9_advance 7 = .ok (.iload_n 2, 1) := by decide +kernel
theorem dX9_advance_8 : decode cX9_advance 8 = .ok (.aload_n 0, 1) := by decide +kernel
theorem dX9_advance_9 : decode cX9_advance 9 = .ok (.iload_n 2, 1) := by decide +kernel
theorem dX9_advance_10 : decode cX9_advance 10 = .ok (.invokevirtual 185, 3) := by decide +kernel
theorem dX9_advance_13 : decode cX9_advance 13 = .ok (.invokestatic 170, 3) := by decide +kernel
theorem dX9_advance_16 : decode cX9_advance 16 = .ok (.istore_n 3, 1) := by decide +kernel
theorem dX9_advance_17 : decode cX9_advance 17 = .ok (.iconst 4, 1) := by decide +kernel
theorem dX9_advance_18 : decode cX9_advance 18 = .ok (.istore 4, 2) := by decide +kernel
theorem dX9_advance_20 : decode cX9_advance 20 = .ok (.iload 4, 2) := by decide +kernel
theorem dX9_advance_22 : decode cX9_advance 22 = .ok (.bipush 20, 2) := by decide +kernel
theorem dX9_advance_24 : decode cX9_advance 24 = .ok (.if_icmp .ge 30, 3) := by decide +kernel
theorem dX9_advance_27 : decode cX9_advance 27 = .ok (.aload_n 0, 1) := by decide +kernel
theorem dX9_advance_28 : decode cX9_advance 28 = .ok (.getfield 91, 3) := by decide +kernel
theorem dX9_advance_31 : decode cX9_advance 31 = .ok (.bipush 84, 2) := by decide +kernel
theorem dX9_advance_33 : decode cX9_advance 33 = .ok (.iload_n 1, 1) := by decide +kernel
theorem dX9_advance_34 : decode cX9_advance 34 = .ok (.imul, 1) := by decide +kernel
theorem dX9_advance_35 : decode cX9_advance 35 = .ok (.iload 4, 2) := by decide +kernel
theorem dX9_advance_37 : decode cX9_advance 37 = .ok (.iadd, 1) := by decide +kernel
theorem dX9_advance_38 : decode cX9_advance 38 = .ok (.aload_n 0, 1) := by decide +kernel
theorem dX9_advance_39 : decode cX9_advance 39 = .ok (.getfield 88, 3) := by decide +kernel
theorem dX9_advance_42 : decode cX9_advance 42 = .ok (.iload_n 3, 1) := by decide +kernel
theorem dX9_advance_43 : decode cX9_advance 43 = .ok (.iload 4, 2) := by decide +kernel
theorem dX9_advance_45 : decode cX9_advance 45 = .ok (.iadd, 1) := by decide +kernel
theorem dX9_advance_46 : decode cX9_advance 46 = .ok (.iaload, 1) := by decide +kernel
theorem dX9_advance_47 : decode cX9_advance 47 = .ok (.iastore, 1) := by decide +kernel
theorem dX9_advance_48 : decode cX9_advance 48 = .ok (.iinc 4 1, 3) := by decide +kernel
theorem dX9_advance_51 : decode cX9_advance 51 = .ok (.goto (-31), 3) := by decide +kernel
theorem dX9_advance_54 : decode cX9_advance 54 = .ok (.bipush 84, 2) := by decide +kernel
theorem dX9_advance_56 : decode cX9_advance 56 = .ok (.iload_n 1, 1) := by decide +kernel
theorem dX9_advance_57 : decode cX9_advance 57 = .ok (.imul, 1) := by decide +kernel
theorem dX9_advance_58 : decode cX9_advance 58 = .ok (.iconst 4, 1) := by decide +kernel
theorem dX9_advance_59 : decode cX9_advance 59 = .ok (.iadd, 1) := by decide +kernel
theorem dX9_advance_60 : decode cX9_advance 60 = .ok (.iconst 4, 1) := by decide +kernel
theorem dX9_advance_61 : decode cX9_advance 61 = .ok (.iload_n 1, 1) := by decide +kernel
theorem dX9_advance_62 : decode cX9_advance 62 = .ok (.imul, 1) := by decide +kernel
theorem dX9_advance_63 : decode cX9_advance 63 = .ok (.iadd, 1) := by decide +kernel
theorem dX9_advance_64 : decode cX9_advance 64 = .ok (.istore 4, 2) := by decide +kernel
theorem dX9_advance_66 : decode cX9_advance 66 = .ok (.aload_n 0, 1) := by decide +kernel
theorem dX9_advance_67 : decode cX9_advance 67 = .ok (.getfield 91, 3) := by decide +kernel
theorem dX9_advance_70 : decode cX9_advance 70 = .ok (.iload 4, 2) := by decide +kernel
theorem dX9_advance_72 : decode cX9_advance 72 = .ok (.iaload, 1) := by decide +kernel
theorem dX9_advance_73 : decode cX9_advance 73 = .ok (.bipush 24, 2) := by decide +kernel
theorem dX9_advance_75 : decode cX9_advance 75 = .ok (.ishl, 1) := by decide +kernel
theorem dX9_advance_76 : decode cX9_advance 76 = .ok (.aload_n 0, 1) := by decide +kernel
theorem dX9_advance_77 : decode cX9_advance 77 = .ok (.getfield 91, 3) := by decide +kernel
theorem dX9_advance_80 : decode cX9_advance 80 = .ok (.iload 4, 2) := by decide +kernel
theorem dX9_advance_82 : decode cX9_advance 82 = .ok (.iconst 1, 1) := by decide +kernel
theorem dX9_advance_83 : decode cX9_advance 83 = .ok (.iadd, 1) := by decide +kernel
theorem dX9_advance_84 : decode cX9_advance 84 = .ok (.iaload, 1) := by decide +kernel
theorem dX9_advance_85 : decode cX9_advance 85 = .ok (.bipush 16, 2) := by decide +kernel
theorem dX9_advance_87 : decode cX9_advance 87 = .ok (.ishl, 1) := by decide +kernel
theorem dX9_advance_88 : decode cX9_advance 88 = .ok (.ior, 1) := by decide +kernel
theorem dX9_advance_89 : decode cX9_advance 89 = .ok (.aload_n 0, 1) := by decide +kernel
theorem dX9_advance_90 : decode cX9_advance 90 = .ok (.getfield 91, 3) := by decide +kernel
theorem dX9_advance_93 : decode cX9_advance 93 = .ok (.iload 4, 2) := by decide +kernel
theorem dX9_advance_95 : decode cX9_advance 95 = .ok (.iconst 2, 1) := by decide +kernel
theorem dX9_advance_96 : decode cX9_advance 96 = .ok (.iadd, 1) := by decide +kernel
theorem dX9_advance_97 : decode cX9_advance 97 = .ok (.iaload, 1) := by decide +kernel
theorem dX9_advance_98 : decode cX9_advance 98 = .ok (.bipush 8, 2) := by decide +kernel
theorem dX9_advance_100 : decode cX9_advance 100 = .ok (.ishl, 1) := by decide +kernel
theorem dX9_advance_101 : decode cX9_advance 101 = .ok (.ior, 1) := by decide +kernel
theorem dX9_advance_102 : decode cX9_advance 102 = .ok (.aload_n 0, 1) := by decide +kernel
theorem dX9_advance_103 : decode cX9_advance 103 = .ok (.getfield 91, 3) := by decide +kernel
theorem dX9_advance_106 : decode cX9_advance 106 = .ok (.iload 4, 2) := by decide +kernel
theorem dX9_advance_108 : decode cX9_advance 108 = .ok (.iconst 3, 1) := by decide +kernel
theorem dX9_advance_109 : decode cX9_advance 109 = .ok (.iadd, 1) := by decide +kernel
theorem dX9_advance_110 : decode cX9_advance 110 = .ok (.iaload, 1) := by decide +kernel
theorem dX9_advance_111 : decode cX9_advance 111 = .ok (.ior, 1) := by decide +kernel
theorem dX9_advance_112 : decode cX9_advance 112 = .ok (.istore 5, 2) := by decide +kernel
theorem dX9_advance_114 : decode cX9_advance 114 = .ok (.iload 5, 2) := by decide +kernel
theorem dX9_advance_116 : decode cX9_advance 116 = .ok (.iconst 1, 1) := by decide +kernel
theorem dX9_advance_117 : decode cX9_advance 117 = .ok (.iadd, 1) := by decide +kernel
theorem dX9_advance_118 : decode cX9_advance 118 = .ok (.istore 5, 2) := by decide +kernel
theorem dX9_advance_120 : decode cX9_advance 120 = .ok (.iconst 0, 1) := by decide +kernel
theorem dX9_advance_121 : decode cX9_advance 121 = .ok (.istore 6, 2) := by decide +kernel
theorem dX9_advance_123 : decode cX9_advance 123 = .ok (.iload 6, 2) := by decide +kernel
theorem dX9_advance_125 : decode cX9_advance 125 = .ok (.iconst 4, 1) := by decide +kernel
theorem dX9_advance_126 : decode cX9_advance 126 = .ok (.if_icmp .ge 34, 3) := by decide +kernel
theorem dX9_advance_129 : decode cX9_advance 129 = .ok (.aload_n 0, 1) := by decide +kernel
theorem dX9_advance_130 : decode cX9_advance 130 = .ok (.getfield 91, 3) := by decide +kernel
theorem dX9_advance_133 : decode cX9_advance 133 = .ok (.iload 4, 2) := by decide +kernel
theorem dX9_advance_135 : decode cX9_advance 135 = .ok (.iload 6, 2) := by decide +kernel
theorem dX9_advance_137 : decode cX9_advance 137 = .ok (.iadd, 1) := by decide +kernel
theorem dX9_advance_138 : decode cX9_advance 138 = .ok (.iload 5, 2) := by decide +kernel
theorem dX9_advance_140 : decode cX9_advance 140 = .ok (.bipush 24, 2) := by decide +kernel
theorem dX9_advance_142 : decode cX9_advance 142 = .ok (.bipush 8, 2) := by decide +kernel
theorem dX9_advance_144 : decode cX9_advance 144 = .ok (.iload 6, 2) := by decide +kernel
theorem dX9_advance_146 : decode cX9_advance 146 = .ok (.imul, 1) := by decide +kernel
theorem dX9_advance_147 : decode cX9_advance 147 = .ok (.isub, 1) := by decide +kernel
theorem dX9_advance_148 : decode cX9_advance 148 = .ok (.ishr, 1) := by decide +kernel
theorem dX9_advance_149 : decode cX9_advance 149 = .ok (.sipush 255, 3) := by decide +kernel
theorem dX9_advance_152 : decode cX9_advance 152 = .ok (.iand, 1) := by decide +kernel
theorem dX9_advance_153 : decode cX9_advance 153 = .ok (.iastore, 1) := by decide +kernel
theorem dX9_advance_154 : decode cX9_advance 154 = .ok (.iinc 6 1, 3) := by decide +kernel
theorem dX9_advance_157 : decode cX9_advance 157 = .ok (.goto (-34), 3) := by decide +kernel
theorem dX9_advance_160 : decode cX9_advance 160 = .ok (.aload_n 0, 1) := by decide +kernel
theorem dX9_advance_161 : decode cX9_advance 161 = .ok (.iload_n 2, 1) := by decide +kernel
theorem dX9_advance_162 : decode cX9_advance 162 = .ok (.invokevirtual 134, 3) := by decide +kernel
theorem dX9_advance_165 : decode cX9_advance 165 = .ok (.aload_n 0, 1) := by decide +kernel
theorem dX9_advance_166 : decode cX9_advance 166 = .ok (.iload_n 1, 1) := by decide +kernel
theorem dX9_advance_167 : decode cX9_advance 167 = .ok (.invokevirtual 138, 3) := by decide +kernel
theorem dX9_advance_170 : decode cX9_advance 170 = .ok (.aload_n 0, 1) := by decide +kernel
theorem dX9_advance_171 : decode cX9_advance 171 = .ok (.iload_n 2, 1) := by decide +kernel
theorem dX9_advance_172 : decode cX9_advance 172 = .ok (.iload_n 1, 1) := by decide +kernel
theorem dX9_advance_173 : decode cX9_advance 173 = .ok (.invokevirtual 141, 3) := by decide +kernel
theorem dX9_advance_176 : decode cX9_advance 176 = .ok (.aload_n 0, 1) := by decide +kernel
theorem dX9_advance_177 : decode cX9_advance 177 = .ok (.dup, 1) := by decide +kernel
theorem dX9_advance_178 : decode cX9_advance 178 = .ok (.getfield 189, 3) := by decide +kernel
theorem dX9_advance_181 : decode cX9_advance 181 = .ok (.iconst 1, 1) := by decide +kernel
theorem dX9_advance_182 : decode cX9_advance 182 = .ok (.iadd, 1) := by decide +kernel
theorem dX9_advance_183 : decode cX9_advance 183 = .ok (.putfield 189, 3) := by decide +kernel
theorem dX9_advance_186 : decode cX9_advance 186 = .ok (.return_, 1) := by decide +kernel
theorem dX9_isIn_0 : decode cX9_isIn 0 = .ok (.iload_n 0, 1) := by decide +kernel
theorem dX9_isIn_1 : decode cX9_isIn 1 = .ok (.ifCond .lt 12, 3) := by decide +kernel
theorem dX9_isIn_4 : decode cX9_isIn 4 = .ok (.iload_n 0, 1) := by decide +kernel
theorem dX9_isIn_5 : decode cX9_isIn 5 = .ok (.iload_n 1, 1) := by decide +kernel
theorem dX9_isIn_6 : decode cX9_isIn 6 = .ok (.if_icmp .ge 7, 3) := by decide +kernel
theorem dX9_isIn_9 : decode cX9_isIn 9 = .ok (.iconst 1, 1) := by decide +kernel
theorem dX9_isIn_10 : decode cX9_isIn 10 = .ok (.goto 4, 3) := by decide +kernel
theorem dX9_isIn_13 : decode cX9_isIn 13 = .ok (.iconst 0, 1) := by decide +kernel
theorem dX9_isIn_14 : decode cX9_isIn 14 = .ok (.ireturn, 1) := by decide +kernel
theorem dX9_feed_0 : decode cX9_feed 0 = .ok (.iload_n 1, 1) := by decide +kernel
theorem dX9_feed_1 : decode cX9_feed 1 = .ok (.ifCond .lt 19, 3) := by decide +kernel
theorem dX9_feed_4 : decode cX9_feed 4 = .ok (.iload_n 1, 1) := by decide +kernel
theorem dX9_feed_5 : decode cX9_feed 5 = .ok (.sipush 255, 3) := by decide +kernel
theorem dX9_feed_8 : decode cX9_feed 8 = .ok (.if_icmp .gt 12, 3) := by decide +kernel
theorem dX9_feed_11 : decode cX9_feed 11 = .ok (.aload_n 0, 1) := by decide +kernel
theorem dX9_feed_12 : decode cX9_feed 12 = .ok (.getfield 192, 3) := by decide +kernel
theorem dX9_feed_15 : decode cX9_feed 15 = .ok (.bipush 64, 2) := by decide +kernel
theorem dX9_feed_17 : decode cX9_feed 17 = .ok (.if_icmp .ne 5, 3) := by decide +kernel
theorem dX9_feed_20 : decode cX9_feed 20 = .ok (.iconst 0, 1) := by decide +kernel
theorem dX9_feed_21 : decode cX9_feed 21 = .ok (.ireturn, 1) := by decide +kernel
theorem dX9_feed_22 : decode cX9_feed 22 = .ok (.aload_n 0, 1) := by decide +kernel
theorem dX9_feed_23 : decode cX9_feed 23 = .ok (.getfield 107, 3) := by decide +kernel
theorem dX9_feed_26 : decode cX9_feed 26 = .ok (.aload_n 0, 1) := by decide +kernel
theorem dX9_feed_27 : decode cX9_feed 27 = .ok (.getfield 192, 3) := by decide +kernel
theorem dX9_feed_30 : decode cX9_feed 30 = .ok (.iload_n 1, 1) := by decide +kernel
theorem dX9_feed_31 : decode cX9_feed 31 = .ok (.iastore, 1) := by decide +kernel
theorem dX9_feed_32 : decode cX9_feed 32 = .ok (.aload_n 0, 1) := by decide +kernel
theorem dX9_feed_33 : decode cX9_feed 33 = .ok (.dup, 1) := by decide +kernel
theorem dX9_feed_34 : decode cX9_feed 34 = .ok (.getfield 192, 3) := by decide +kernel
theorem dX9_feed_37 : decode cX9_feed 37 = .ok (.iconst 1, 1) := by decide +kernel
theorem dX9_feed_38 : decode cX9_feed 38 = .ok (.iadd, 1) := by decide +kernel
theorem dX9_feed_39 : decode cX9_feed 39 = .ok (.putfield 192, 3) := by decide +kernel
theorem dX9_feed_42 : decode cX9_feed 42 = .ok (.iconst 1, 1) := by decide +kernel
theorem dX9_feed_43 : decode cX9_feed 43 = .ok (.ireturn, 1) := by decide +kernel
set_option maxRecDepth 20000 in
theorem ggX9_write_X9_isIn : GoodIn wsX9_write wsX9_isIn := goodIn_r _ [10] (by decide +kernel) (by decide +kernel)
set_option maxRecDepth 20000 in
theorem gX9_write_X9_isIn : GoodIn wsX9_write (va_wsS RX9 195 yX9_isIn wsX9_isIn) := goodIn_app (goodIn_of _ (by decide +kernel)) ggX9_write_X9_isIn
set_option maxRecDepth 20000 in
theorem ggX9_write_X9_check : GoodIn wsX9_write wsX9_check := goodIn_r _ [14, 3, 15, 16, 17, 18, 19, 20, 9, 21, 22, 23, 24, 25, 26, 27, 28, 29, 30, 31, 32, 33, 34, 35, 36, 37, 38, 39, 40, 41, 42, 43, 44, 45, 46, 47, 48, 49, 50, 51, 52, 53, 54, 55, 56, 57, 58, 59, 60, 61, 62, 63, 64, 65, 66, 67, 4, 5, 68, 69, 70, 71, 85, 86, 87, 88, 89, 90, 91, 92, 93, 94, 95, 96, 97, 98, 99, 100, 101, 102, 103, 104, 105, 106, 107] (by decide +kernel) (by decide +kernel)
set_option maxRecDepth 20000 in
theorem gX9_write_X9_check : GoodIn wsX9_write (wsV RX9 198 RX9 yX9_check wsX9_check) := goodIn_app (goodIn_of _ (by decide +kernel)) ggX9_write_X9_check
set_option maxRecDepth 20000 in
theorem ggX9_write_X9_advance : GoodIn wsX9_write wsX9_advance := goodIn_r _ [75, 3, 16, 15, 76, 68, 69, 70, 9, 71, 25, 26, 27, 58, 59, 60, 61, 62, 63, 64, 65, 66, 67, 32, 4, 5, 17, 24, 38, 39, 40, 41, 42, 43, 44, 45, 46, 47, 48, 49, 50, 51, 52, 53, 54, 55, 56, 57, 77, 78, 79, 80, 22, 23, 28, 29, 30, 31, 33, 34, 35, 36, 37, 81, 82, 83, 84, 85, 86, 87, 88, 89, 90, 91, 92, 93, 94, 95, 96, 97, 98, 99, 100, 101, 102, 103, 104, 105, 106, 107] (by decide +kernel) (by decide +kernel)
set_option maxRecDepth 20000 in
theorem gX9_write_X9_advance : GoodIn wsX9_write (wsV RX9 204 RX9 yX9_advance wsX9_advance) := goodIn_app (goodIn_of _ (by decide +kernel)) ggX9_write_X9_advance
theorem dX9_write_0 : decode cX9_write 0 = .ok (.iload_n 1, 1) := by decide +kernel
theorem dX9_write_1 : decode cX9_write 1 = .ok (.iconst 4, 1) := by decide +kernel
theorem dX9_write_2 : decode cX9_write 2 = .ok (.invokestatic 195, 3) := by decide +kernel
theorem dX9_write_5 : decode cX9_write 5 = .ok (.ifCond .eq 21, 3) := by decide +kernel
theorem dX9_write_8 : decode cX9_write 8 = .ok (.iload_n 2, 1) := by decide +kernel
theorem dX9_write_9 : decode cX9_write 9 = .ok (.bipush 16, 2) := by decide +kernel
theorem dX9_write_11 : decode cX9_write 11 = .ok (.invokestatic 195, 3) := by decide +kernel
theorem dX9_write_14 : decode cX9_write 14 = .ok (.ifCond .eq 12, 3) := by decide +kernel
theorem dX9_write_17 : decode cX9_write 17 = .ok (.aload_n 0, 1) := by decide +kernel
theorem dX9_write_18 : decode cX9_write 18 = .ok (.getfield 192, 3) := by decide +kernel
theorem dX9_write_21 : decode cX9_write 21 = .ok (.bipush 12, 2) := by decide +kernel
theorem dX9_write_23 : decode cX9_write 23 = .ok (.if_icmp .le 6, 3) := by decide +kernel
theorem dX9_write_26 : decode cX9_write 26 = .ok (.bipush (-9), 2) := by decide +kernel
theorem dX9_write_28 : decode cX9_write 28 = .ok (.ireturn, 1) := by decide +kernel
theorem dX9_write_29 : decode cX9_write 29 = .ok (.aload_n 0, 1) := by decide +kernel
theorem dX9_write_30 : decode cX9_write 30 = .ok (.iload_n 1, 1) := by decide +kernel
theorem dX9_write_31 : decode cX9_write 31 = .ok (.invokevirtual 198, 3) := by decide +kernel
theorem dX9_write_34 : decode cX9_write 34 = .ok (.istore_n 3, 1) := by decide +kernel
theorem dX9_write_35 : decode cX9_write 35 = .ok (.iload_n 3, 1) := by decide +kernel
theorem dX9_write_36 : decode cX9_write 36 = .ok (.ifCond .le 22, 3) := by decide +kernel
theorem dX9_write_39 : decode cX9_write 39 = .ok (.aload_n 0, 1) := by decide +kernel
theorem dX9_write_40 : decode cX9_write 40 = .ok (.dup, 1) := by decide +kernel
theorem dX9_write_41 : decode cX9_write 41 = .ok (.getfield 201, 3) := by decide +kernel
theorem dX9_write_44 : decode cX9_write 44 = .ok (.iconst 1, 1) := by decide +kernel
theorem dX9_write_45 : decode cX9_write 45 = .ok (.iadd, 1) := by decide +kernel
theorem dX9_write_46 : decode cX9_write 46 = .ok (.putfield 201, 3) := by decide +kernel
theorem dX9_write_49 : decode cX9_write 49 = .ok (.aload_n 0, 1) := by decide +kernel
theorem dX9_write_50 : decode cX9_write 50 = .ok (.iconst 0, 1) := by decide +kernel
theorem dX9_write_51 : decode cX9_write 51 = .ok (.putfield 192, 3) := by decide +kernel
theorem dX9_write_54 : decode cX9_write 54 = .ok (.iconst (-1), 1) := by decide +kernel
theorem dX9_write_55 : decode cX9_write 55 = .ok (.iload_n 3, 1) := by decide +kernel
theorem dX9_write_56 : decode cX9_write 56 = .ok (.isub, 1) := by decide +kernel
theorem dX9_write_57 : decode cX9_write 57 = .ok (.ireturn, 1) := by decide +kernel
theorem dX9_write_58 : decode cX9_write 58 = .ok (.bipush 16, 2) := by decide +kernel
theorem dX9_write_60 : decode cX9_write 60 = .ok (.aload_n 0, 1) := by decide +kernel
theorem dX9_write_61 : decode cX9_write 61 = .ok (.getfield 104, 3) := by decide +kernel
theorem dX9_write_64 : decode cX9_write 64 = .ok (.iload_n 1, 1) := by decide +kernel
theorem dX9_write_65 : decode cX9_write 65 = .ok (.iaload, 1) := by decide +kernel
theorem dX9_write_66 : decode cX9_write 66 = .ok (.imul, 1) := by decide +kernel
theorem dX9_write_67 : decode cX9_write 67 = .ok (.iload_n 2, 1) := by decide +kernel
theorem dX9_write_68 : decode cX9_write 68 = .ok (.iadd, 1) := by decide +kernel
theorem dX9_write_69 : decode cX9_write 69 = .ok (.istore 4, 2) := by decide +kernel
theorem dX9_write_71 : decode cX9_write 71 = .ok (.aload_n 0, 1) := by decide +kernel
theorem dX9_write_72 : decode cX9_write 72 = .ok (.getfield 97, 3) := by decide +kernel
theorem dX9_write_75 : decode cX9_write 75 = .ok (.iload 4, 2) := by decide +kernel
theorem dX9_write_77 : decode cX9_write 77 = .ok (.aload_n 0, 1) := by decide +kernel
theorem dX9_write_78 : decode cX9_write 78 = .ok (.getfield 192, 3) := by decide +kernel
theorem dX9_write_81 : decode cX9_write 81 = .ok (.iastore, 1) := by decide +kernel
theorem dX9_write_82 : decode cX9_write 82 = .ok (.iconst 0, 1) := by decide +kernel
theorem dX9_write_83 : decode cX9_write 83 = .ok (.istore 5, 2) := by decide +kernel
theorem dX9_write_85 : decode cX9_write 85 = .ok (.iload 5, 2) := by decide +kernel
theorem dX9_write_87 : decode cX9_write 87 = .ok (.aload_n 0, 1) := by decide +kernel
theorem dX9_write_88 : decode cX9_write 88 = .ok (.getfield 192, 3) := by decide +kernel
theorem dX9_write_91 : decode cX9_write 91 = .ok (.if_icmp .ge 29, 3) := by decide +kernel
theorem dX9_write_94 : decode cX9_write 94 = .ok (.aload_n 0, 1) := by decide +kernel
theorem dX9_write_95 : decode cX9_write 95 = .ok (.getfield 94, 3) := by decide +kernel
theorem dX9_write_98 : decode cX9_write 98 = .ok (.bipush 12, 2) := by decide +kernel
theorem dX9_write_100 : decode cX9_write 100 = .ok (.iload 4, 2) := by decide +kernel
theorem dX9_write_102 : decode cX9_write 102 = .ok (.imul, 1) := by decide +kernel
theorem dX9_write_103 : decode cX9_write 103 = .ok (.iload 5, 2) := by decide +kernel
theorem dX9_write_105 : decode cX9_write 105 = .ok (.iadd, 1) := by decide +kernel
theorem dX9_write_106 : decode cX9_write 106 = .ok (.aload_n 0, 1) := by decide +kernel
theorem dX9_write_107 : decode cX9_write 107 = .ok (.getfield 107, 3) := by decide +kernel
theorem dX9_write_110 : decode cX9_write 110 = .ok (.iload 5, 2) := by decide +kernel
theorem dX9_write_112 : decode cX9_write 112 = .ok (.iaload, 1) := by decide +kernel
theorem dX9_write_113 : decode cX9_write 113 = .ok (.iastore, 1) := by decide +kernel
theorem dX9_write_114 : decode cX9_write 114 = .ok (.iinc 5 1, 3) := by decide +kernel
theorem dX9_write_117 : decode cX9_write 117 = .ok (.goto (-32), 3) := by decide +kernel
theorem dX9_write_120 : decode cX9_write 120 = .ok (.aload_n 0, 1) := by decide +kernel
theorem dX9_write_121 : decode cX9_write 121 = .ok (.iconst 0, 1) := by decide +kernel
theorem dX9_write_122 : decode cX9_write 122 = .ok (.putfield 192, 3) := by decide +kernel
theorem dX9_write_125 : decode cX9_write 125 = .ok (.aload_n 0, 1) := by decide +kernel
theorem dX9_write_126 : decode cX9_write 126 = .ok (.iload_n 1, 1) := by decide +kernel
theorem dX9_write_127 : decode cX9_write 127 = .ok (.invokevirtual 204, 3) := by decide +kernel
theorem dX9_write_130 : decode cX9_write 130 = .ok (.iconst 1, 1) := by decide +kernel
theorem dX9_write_131 : decode cX9_write 131 = .ok (.ireturn, 1) := by decide +kernel
set_option maxRecDepth 20000 in
theorem ggX9_read_X9_isIn : GoodIn wsX9_read wsX9_isIn := goodIn_r _ [10] (by decide +kernel) (by decide +kernel)
set_option maxRecDepth 20000 in
theorem gX9_read_X9_isIn : GoodIn wsX9_read (va_wsS RX9 195 yX9_isIn wsX9_isIn) := goodIn_app (goodIn_of _ (by decide +kernel)) ggX9_read_X9_isIn
set_option maxRecDepth 20000 in
theorem ggX9_read_X9_check : GoodIn wsX9_read wsX9_check := goodIn_r _ [14, 2, 15, 16, 17, 18, 19, 20, 9, 21, 22, 23, 24, 25, 26, 27, 28, 29, 30, 31, 32, 33, 34, 35, 36, 37, 38, 39, 40, 41, 42, 43, 44, 45, 46, 47, 48, 49, 50, 51, 52, 53, 54, 55, 56, 57, 58, 59, 60, 61, 62, 63, 64, 65, 66, 67, 3, 6, 68, 69, 70, 71, 85, 86, 87, 88, 89, 90, 91, 92, 93, 94, 95, 96, 97, 98, 99, 100, 101, 102, 103, 104, 105, 106, 107] (by decide +kernel) (by decide +kernel)
set_option maxRecDepth 20000 in
theorem gX9_read_X9_check : GoodIn wsX9_read (wsV RX9 198 RX9 yX9_check wsX9_check) := goodIn_app (goodIn_of _ (by decide +kernel)) ggX9_read_X9_check
set_option maxRecDepth 20000 in
theorem ggX9_read_X9_advance : GoodIn wsX9_read wsX9_advance := goodIn_r _ [75, 2, 16, 15, 76, 68, 69, 70, 9, 71, 25, 26, 27, 58, 59, 60, 61, 62, 63, 64, 65, 66, 67, 32, 3, 6, 17, 24, 38, 39, 40, 41, 42, 43, 44, 45, 46, 47, 48, 49, 50, 51, 52, 53, 54, 55, 56, 57, 77, 78, 79, 80, 22, 23, 28, 29, 30, 31, 33, 34, 35, 36, 37, 81, 82, 83, 84, 85, 86, 87, 88, 89, 90, 91, 92, 93, 94, 95, 96, 97, 98, 99, 100, 101, 102, 103, 104, 105, 106, 107] (by decide +kernel) (by decide +kernel)
set_option maxRecDepth 20000 in
theorem gX9_read_X9_advance : GoodIn wsX9_read (wsV RX9 204 RX9 yX9_advance wsX9_advance) := goodIn_app (goodIn_of _ (by decide +kernel)) ggX9_read_X9_advance
theorem dX9_read_0 : decode cX9_read 0 = .ok (.iload_n 1, 1) := by decide +kernel
theorem dX9_read_1 : decode cX9_read 1 = .ok (.iconst 4, 1) := by decide +kernel
theorem dX9_read_2 : decode cX9_read 2 = .ok (.invokestatic 195, 3) := by decide +kernel
theorem dX9_read_5 : decode cX9_read 5 = .ok (.ifCond .eq 12, 3) := by decide +kernel
theorem dX9_read_8 : decode cX9_read 8 = .ok (.iload_n 2, 1) := by decide +kernel
theorem dX9_read_9 : decode cX9_read 9 = .ok (.bipush 16, 2) := by decide +kernel
theorem dX9_read_11 : decode cX9_read 11 = .ok (.invokestatic 195, 3) := by decide +kernel
theorem dX9_read_14 : decode cX9_read 14 = .ok (.ifCond .ne 6, 3) := by decide +kernel
theorem dX9_read_17 : decode cX9_read 17 = .ok (.bipush (-9), 2) := by decide +kernel
theorem dX9_read_19 : decode cX9_read 19 = .ok (.ireturn, 1) := by decide +kernel
theorem dX9_read_20 : decode cX9_read 20 = .ok (.aload_n 0, 1) := by decide +kernel
theorem dX9_read_21 : decode cX9_read 21 = .ok (.iload_n 1, 1) := by decide +kernel
theorem dX9_read_22 : decode cX9_read 22 = .ok (.invokevirtual 198, 3) := by decide +kernel
theorem dX9_read_25 : decode cX9_read 25 = .ok (.istore_n 3, 1) := by decide +kernel
theorem dX9_read_26 : decode cX9_read 26 = .ok (.iload_n 3, 1) := by decide +kernel
theorem dX9_read_27 : decode cX9_read 27 = .ok (.ifCond .le 17, 3) := by decide +kernel
theorem dX9_read_30 : decode cX9_read 30 = .ok (.aload_n 0, 1) := by decide +kernel
theorem dX9_read_31 : decode cX9_read 31 = .ok (.dup, 1) := by decide +kernel
theorem dX9_read_32 : decode cX9_read 32 = .ok (.getfield 201, 3) := by decide +kernel
theorem dX9_read_35 : decode cX9_read 35 = .ok (.iconst 1, 1) := by decide +kernel
theorem dX9_read_36 : decode cX9_read 36 = .ok (.iadd, 1) := by decide +kernel
theorem dX9_read_37 : decode cX9_read 37 = .ok (.putfield 201, 3) := by decide +kernel
theorem dX9_read_40 : decode cX9_read 40 = .ok (.iconst (-1), 1) := by decide +kernel
theorem dX9_read_41 : decode cX9_read 41 = .ok (.iload_n 3, 1) := by decide +kernel
theorem dX9_read_42 : decode cX9_read 42 = .ok (.isub, 1) := by decide +kernel
theorem dX9_read_43 : decode cX9_read 43 = .ok (.ireturn, 1) := by decide +kernel
theorem dX9_read_44 : decode cX9_read 44 = .ok (.bipush 16, 2) := by decide +kernel
theorem dX9_read_46 : decode cX9_read 46 = .ok (.aload_n 0, 1) := by decide +kernel
theorem dX9_read_47 : decode cX9_read 47 = .ok (.getfield 104, 3) := by decide +kernel
theorem dX9_read_50 : decode cX9_read 50 = .ok (.iload_n 1, 1) := by decide +kernel
theorem dX9_read_51 : decode cX9_read 51 = .ok (.iaload, 1) := by decide +kernel
theorem dX9_read_52 : decode cX9_read 52 = .ok (.imul, 1) := by decide +kernel
theorem dX9_read_53 : decode cX9_read 53 = .ok (.iload_n 2, 1) := by decide +kernel
theorem dX9_read_54 : decode cX9_read 54 = .ok (.iadd, 1) := by decide +kernel
theorem dX9_read_55 : decode cX9_read 55 = .ok (.istore 4, 2) := by decide +kernel
theorem dX9_read_57 : decode cX9_read 57 = .ok (.aload_n 0, 1) := by decide +kernel
theorem dX9_read_58 : decode cX9_read 58 = .ok (.aload_n 0, 1) := by decide +kernel
theorem dX9_read_59 : decode cX9_read 59 = .ok (.getfield 97, 3) := by decide +kernel
theorem dX9_read_62 : decode cX9_read 62 = .ok (.iload 4, 2) := by decide +kernel
theorem dX9_read_64 : decode cX9_read 64 = .ok (.iaload, 1) := by decide +kernel
theorem dX9_read_65 : decode cX9_read 65 = .ok (.putfield 207, 3) := by decide +kernel
theorem dX9_read_68 : decode cX9_read 68 = .ok (.iconst 0, 1) := by decide +kernel
theorem dX9_read_69 : decode cX9_read 69 = .ok (.istore 5, 2) := by decide +kernel
theorem dX9_read_71 : decode cX9_read 71 = .ok (.iload 5, 2) := by decide +kernel
theorem dX9_read_73 : decode cX9_read 73 = .ok (.aload_n 0, 1) := by decide +kernel
theorem dX9_read_74 : decode cX9_read 74 = .ok (.getfield 207, 3) := by decide +kernel
theorem dX9_read_77 : decode cX9_read 77 = .ok (.if_icmp .ge 29, 3) := by decide +kernel
theorem dX9_read_80 : decode cX9_read 80 = .ok (.aload_n 0, 1) := by decide +kernel
theorem dX9_read_81 : decode cX9_read 81 = .ok (.getfield 110, 3) := by decide +kernel
theorem dX9_read_84 : decode cX9_read 84 = .ok (.iload 5, 2) := by decide +kernel
theorem dX9_read_86 : decode cX9_read 86 = .ok (.aload_n 0, 1) := by decide +kernel
theorem dX9_read_87 : decode cX9_read 87 = .ok (.getfield 94, 3) := by decide +kernel
theorem dX9_read_90 : decode cX9_read 90 = .ok (.bipush 12, 2) := by decide +kernel
theorem dX9_read_92 : decode cX9_read 92 = .ok (.iload 4, 2) := by decide +kernel
theorem dX9_read_94 : decode cX9_read 94 = .ok (.imul, 1) := by decide +kernel
theorem dX9_read_95 : decode cX9_read 95 = .ok (.iload 5, 2) := by decide +kernel
theorem dX9_read_97 : decode cX9_read 97 = .ok (.iadd, 1) := by decide +kernel
theorem dX9_read_98 : decode cX9_read 98 = .ok (.iaload, 1) := by decide +kernel
theorem dX9_read_99 : decode cX9_read 99 = .ok (.iastore, 1) := by decide +kernel
theorem dX9_read_100 : decode cX9_read 100 = .ok (.iinc 5 1, 3) := by decide +kernel
theorem dX9_read_103 : decode cX9_read 103 = .ok (.goto (-32), 3) := by decide +kernel
theorem dX9_read_106 : decode cX9_read 106 = .ok (.aload_n 0, 1) := by decide +kernel
theorem dX9_read_107 : decode cX9_read 107 = .ok (.iload_n 1, 1) := by decide +kernel
theorem dX9_read_108 : decode cX9_read 108 = .ok (.invokevirtual 204, 3) := by decide +kernel
theorem dX9_read_111 : decode cX9_read 111 = .ok (.aload_n 0, 1) := by decide +kernel
theorem dX9_read_112 : decode cX9_read 112 = .ok (.getfield 207, 3) := by decide +kernel
theorem dX9_read_115 : decode cX9_read 115 = .ok (.ireturn, 1) := by decide +kernel
set_option maxRecDepth 20000 in
theorem ggX9_got_X9_isIn : GoodIn wsX9_got wsX9_isIn := goodIn_r _ [6] (by decide +kernel) (by decide +kernel)
set_option maxRecDepth 20000 in
theorem gX9_got_X9_isIn : GoodIn wsX9_got (va_wsS RX9 195 yX9_isIn wsX9_isIn) := goodIn_app (goodIn_of _ (by decide +kernel)) ggX9_got_X9_isIn
theorem dX9_got_0 : decode cX9_got 0 = .ok (.iload_n 1, 1) := by decide +kernel
theorem dX9_got_1 : decode cX9_got 1 = .ok (.aload_n 0, 1) := by decide +kernel
theorem dX9_got_2 : decode cX9_got 2 = .ok (.getfield 207, 3) := by decide +kernel
theorem dX9_got_5 : decode cX9_got 5 = .ok (.invokestatic 195, 3) := by decide +kernel
theorem dX9_got_8 : decode cX9_got 8 = .ok (.ifCond .eq 12, 3) := by decide +kernel
theorem dX9_got_11 : decode cX9_got 11 = .ok (.aload_n 0, 1) := by decide +kernel
theorem dX9_got_12 : decode cX9_got 12 = .ok (.getfield 110, 3) := by decide +kernel
theorem dX9_got_15 : decode cX9_got 15 = .ok (.iload_n 1, 1) := by decide +kernel
theorem dX9_got_16 : decode cX9_got 16 = .ok (.iaload, 1) := by decide +kernel
theorem dX9_got_17 : decode cX9_got 17 = .ok (.goto 4, 3) := by decide +kernel
theorem dX9_got_20 : decode cX9_got 20 = .ok (.iconst (-1), 1) := by decide +kernel
theorem dX9_got_21 : decode cX9_got 21 = .ok (.ireturn, 1) := by decide +kernel
set_option maxRecDepth 20000 in
theorem ggX9_split_X9_isIn : GoodIn wsX9_split wsX9_isIn := goodIn_r _ [8] (by decide +kernel) (by decide +kernel)
set_option maxRecDepth 20000 in
theorem gX9_split_X9_isIn : GoodIn wsX9_split (va_wsS RX9 195 yX9_isIn wsX9_isIn) := goodIn_app (goodIn_of _ (by decide +kernel)) ggX9_split_X9_isIn
theorem dX9_split_0 : decode cX9_split 0 = .ok (.iload_n 1, 1) := by decide +kernel
theorem dX9_split_1 : decode cX9_split 1 = .ok (.aload_n 0, 1) := by decide +kernel
theorem dX9_split_2 : decode cX9_split 2 = .ok (.getfield 100, 3) := by decide +kernel
theorem dX9_split_5 : decode cX9_split 5 = .ok (.invokestatic 195, 3) := by decide +kernel
theorem dX9_split_8 : decode cX9_split 8 = .ok (.ifCond .eq 12, 3) := by decide +kernel
theorem dX9_split_11 : decode cX9_split 11 = .ok (.aload_n 0, 1) := by decide +kernel
theorem dX9_split_12 : decode cX9_split 12 = .ok (.getfield 100, 3) := by decide +kernel
theorem dX9_split_15 : decode cX9_split 15 = .ok (.bipush 6, 2) := by decide +kernel
theorem dX9_split_17 : decode cX9_split 17 = .ok (.if_icmp .ne 5, 3) := by decide +kernel
theorem dX9_split_20 : decode cX9_split 20 = .ok (.iconst (-1), 1) := by decide +kernel
theorem dX9_split_21 : decode cX9_split 21 = .ok (.ireturn, 1) := by decide +kernel
theorem dX9_split_22 : decode cX9_split 22 = .ok (.iconst 0, 1) := by decide +kernel
theorem dX9_split_23 : decode cX9_split 23 = .ok (.istore_n 2, 1) := by decide +kernel
theorem dX9_split_24 : decode cX9_split 24 = .ok (.iload_n 2, 1) := by decide +kernel
theorem dX9_split_25 : decode cX9_split 25 = .ok (.sipush 336, 3) := by decide +kernel
theorem dX9_split_28 : decode cX9_split 28 = .ok (.if_icmp .ge 36, 3) := by decide +kernel
theorem dX9_split_31 : decode cX9_split 31 = .ok (.aload_n 0, 1) := by decide +kernel
theorem dX9_split_32 : decode cX9_split 32 = .ok (.getfield 88, 3) := by decide +kernel
theorem dX9_split_35 : decode cX9_split 35 = .ok (.sipush 336, 3) := by decide +kernel
end
section
theorem dX9_split_38 : decode cX9_split 38 = .ok (.aload_n 0, 1) := by decide +kernel
theorem dX9_split_39 : decode cX9_split 39 = .ok (.getfield 100, 3) := by decide +kernel
theorem dX9_split_42 : decode cX9_split 42 = .ok (.imul, 1) := by decide +kernel
theorem dX9_split_43 : decode cX9_split 43 = .ok (.iload_n 2, 1) := by decide +kernel
theorem dX9_split_44 : decode cX9_split 44 = .ok (.iadd, 1) := by decide +kernel
theorem dX9_split_45 : decode cX9_split 45 = .ok (.aload_n 0, 1) := by decide +kernel
theorem dX9_split_46 : decode cX9_split 46 = .ok (.getfield 88, 3) := by decide +kernel
theorem dX9_split_49 : decode cX9_split 49 = .ok (.sipush 336, 3) := by decide +kernel
theorem dX9_split_52 : decode cX9_split 52 = .ok (.iload_n 1, 1) := by decide +kernel
theorem dX9_split_53 : decode cX9_split 53 = .ok (.imul, 1) := by decide +kernel
theorem dX9_split_54 : decode cX9_split 54 = .ok (.iload_n 2, 1) := by decide +kernel
theorem dX9_split_55 : decode cX9_split 55 = .ok (.iadd, 1) := by decide +kernel
theorem dX9_split_56 : decode cX9_split 56 = .ok (.iaload, 1) := by decide +kernel
theorem dX9_split_57 : decode cX9_split 57 = .ok (.iastore, 1) := by decide +kernel
theorem dX9_split_58 : decode cX9_split 58 = .ok (.iinc 2 1, 3) := by decide +kernel
theorem dX9_split_61 : decode cX9_split 61 = .ok (.goto (-37), 3) := by decide +kernel
theorem dX9_split_64 : decode cX9_split 64 = .ok (.iconst 0, 1) := by decide +kernel
theorem dX9_split_65 : decode cX9_split 65 = .ok (.istore_n 2, 1) := by decide +kernel
theorem dX9_split_66 : decode cX9_split 66 = .ok (.iload_n 2, 1) := by decide +kernel
theorem dX9_split_67 : decode cX9_split 67 = .ok (.sipush 192, 3) := by decide +kernel
theorem dX9_split_70 : decode cX9_split 70 = .ok (.if_icmp .ge 36, 3) := by decide +kernel
theorem dX9_split_73 : decode cX9_split 73 = .ok (.aload_n 0, 1) := by decide +kernel
theorem dX9_split_74 : decode cX9_split 74 = .ok (.getfield 94, 3) := by decide +kernel
theorem dX9_split_77 : decode cX9_split 77 = .ok (.sipush 192, 3) := by decide +kernel
theorem dX9_split_80 : decode cX9_split 80 = .ok (.aload_n 0, 1) := by decide +kernel
theorem dX9_split_81 : decode cX9_split 81 = .ok (.getfield 100, 3) := by decide +kernel
theorem dX9_split_84 : decode cX9_split 84 = .ok (.imul, 1) := by decide +kernel
theorem dX9_split_85 : decode cX9_split 85 = .ok (.iload_n 2, 1) := by decide +kernel
theorem dX9_split_86 : decode cX9_split 86 = .ok (.iadd, 1) := by decide +kernel
theorem dX9_split_87 : decode cX9_split 87 = .ok (.aload_n 0, 1) := by decide +kernel
theorem dX9_split_88 : decode cX9_split 88 = .ok (.getfield 94, 3) := by decide +kernel
theorem dX9_split_91 : decode cX9_split 91 = .ok (.sipush 192, 3) := by decide +kernel
theorem dX9_split_94 : decode cX9_split 94 = .ok (.iload_n 1, 1) := by decide +kernel
theorem dX9_split_95 : decode cX9_split 95 = .ok (.imul, 1) := by decide +kernel
theorem dX9_split_96 : decode cX9_split 96 = .ok (.iload_n 2, 1) := by decide +kernel
theorem dX9_split_97 : decode cX9_split 97 = .ok (.iadd, 1) := by decide +kernel
theorem dX9_split_98 : decode cX9_split 98 = .ok (.iaload, 1) := by decide +kernel
theorem dX9_split_99 : decode cX9_split 99 = .ok (.iastore, 1) := by decide +kernel
theorem dX9_split_100 : decode cX9_split 100 = .ok (.iinc 2 1, 3) := by decide +kernel
theorem dX9_split_103 : decode cX9_split 103 = .ok (.goto (-37), 3) := by decide +kernel
theorem dX9_split_106 : decode cX9_split 106 = .ok (.iconst 0, 1) := by decide +kernel
theorem dX9_split_107 : decode cX9_split 107 = .ok (.istore_n 2, 1) := by decide +kernel
theorem dX9_split_108 : decode cX9_split 108 = .ok (.iload_n 2, 1) := by decide +kernel
theorem dX9_split_109 : decode cX9_split 109 = .ok (.bipush 16, 2) := by decide +kernel
theorem dX9_split_111 : decode cX9_split 111 = .ok (.if_icmp .ge 34, 3) := by decide +kernel
theorem dX9_split_114 : decode cX9_split 114 = .ok (.aload_n 0, 1) := by decide +kernel
theorem dX9_split_115 : decode cX9_split 115 = .ok (.getfield 97, 3) := by decide +kernel
theorem dX9_split_118 : decode cX9_split 118 = .ok (.bipush 16, 2) := by decide +kernel
theorem dX9_split_120 : decode cX9_split 120 = .ok (.aload_n 0, 1) := by decide +kernel
theorem dX9_split_121 : decode cX9_split 121 = .ok (.getfield 100, 3) := by decide +kernel
theorem dX9_split_124 : decode cX9_split 124 = .ok (.imul, 1) := by decide +kernel
theorem dX9_split_125 : decode cX9_split 125 = .ok (.iload_n 2, 1) := by decide +kernel
theorem dX9_split_126 : decode cX9_split 126 = .ok (.iadd, 1) := by decide +kernel
theorem dX9_split_127 : decode cX9_split 127 = .ok (.aload_n 0, 1) := by decide +kernel
theorem dX9_split_128 : decode cX9_split 128 = .ok (.getfield 97, 3) := by decide +kernel
theorem dX9_split_131 : decode cX9_split 131 = .ok (.bipush 16, 2) := by decide +kernel
theorem dX9_split_133 : decode cX9_split 133 = .ok (.iload_n 1, 1) := by decide +kernel
theorem dX9_split_134 : decode cX9_split 134 = .ok (.imul, 1) := by decide +kernel
theorem dX9_split_135 : decode cX9_split 135 = .ok (.iload_n 2, 1) := by decide +kernel
theorem dX9_split_136 : decode cX9_split 136 = .ok (.iadd, 1) := by decide +kernel
theorem dX9_split_137 : decode cX9_split 137 = .ok (.iaload, 1) := by decide +kernel
theorem dX9_split_138 : decode cX9_split 138 = .ok (.iastore, 1) := by decide +kernel
theorem dX9_split_139 : decode cX9_split 139 = .ok (.iinc 2 1, 3) := by decide +kernel
theorem dX9_split_142 : decode cX9_split 142 = .ok (.goto (-34), 3) := by decide +kernel
theorem dX9_split_145 : decode cX9_split 145 = .ok (.aload_n 0, 1) := by decide +kernel
theorem dX9_split_146 : decode cX9_split 146 = .ok (.dup, 1) := by decide +kernel
theorem dX9_split_147 : decode cX9_split 147 = .ok (.getfield 100, 3) := by decide +kernel
theorem dX9_split_150 : decode cX9_split 150 = .ok (.iconst 1, 1) := by decide +kernel
theorem dX9_split_151 : decode cX9_split 151 = .ok (.iadd, 1) := by decide +kernel
theorem dX9_split_152 : decode cX9_split 152 = .ok (.putfield 100, 3) := by decide +kernel
theorem dX9_split_155 : decode cX9_split 155 = .ok (.aload_n 0, 1) := by decide +kernel
theorem dX9_split_156 : decode cX9_split 156 = .ok (.getfield 100, 3) := by decide +kernel
theorem dX9_split_159 : decode cX9_split 159 = .ok (.iconst 1, 1) := by decide +kernel
theorem dX9_split_160 : decode cX9_split 160 = .ok (.isub, 1) := by decide +kernel
theorem dX9_split_161 : decode cX9_split 161 = .ok (.ireturn, 1) := by decide +kernel
set_option maxRecDepth 20000 in
theorem ggX9_show_X9_isIn : GoodIn wsX9_show wsX9_isIn := goodIn_r _ [6] (by decide +kernel) (by decide +kernel)
set_option maxRecDepth 20000 in
theorem gX9_show_X9_isIn : GoodIn wsX9_show (va_wsS RX9 195 yX9_isIn wsX9_isIn) := goodIn_app (goodIn_of _ (by decide +kernel)) ggX9_show_X9_isIn
theorem dX9_show_0 : decode cX9_show 0 = .ok (.iload_n 1, 1) := by decide +kernel
theorem dX9_show_1 : decode cX9_show 1 = .ok (.iconst 4, 1) := by decide +kernel
theorem dX9_show_2 : decode cX9_show 2 = .ok (.invokestatic 195, 3) := by decide +kernel
theorem dX9_show_5 : decode cX9_show 5 = .ok (.ifCond .eq 14, 3) := by decide +kernel
theorem dX9_show_8 : decode cX9_show 8 = .ok (.iload_n 2, 1) := by decide +kernel
theorem dX9_show_9 : decode cX9_show 9 = .ok (.aload_n 0, 1) := by decide +kernel
theorem dX9_show_10 : decode cX9_show 10 = .ok (.getfield 100, 3) := by decide +kernel
theorem dX9_show_13 : decode cX9_show 13 = .ok (.invokestatic 195, 3) := by decide +kernel
theorem dX9_show_16 : decode cX9_show 16 = .ok (.ifCond .ne 5, 3) := by decide +kernel
theorem dX9_show_19 : decode cX9_show 19 = .ok (.iconst (-1), 1) := by decide +kernel
theorem dX9_show_20 : decode cX9_show 20 = .ok (.ireturn, 1) := by decide +kernel
theorem dX9_show_21 : decode cX9_show 21 = .ok (.aload_n 0, 1) := by decide +kernel
theorem dX9_show_22 : decode cX9_show 22 = .ok (.getfield 104, 3) := by decide +kernel
theorem dX9_show_25 : decode cX9_show 25 = .ok (.iload_n 1, 1) := by decide +kernel
theorem dX9_show_26 : decode cX9_show 26 = .ok (.iaload, 1) := by decide +kernel
theorem dX9_show_27 : decode cX9_show 27 = .ok (.istore_n 3, 1) := by decide +kernel
theorem dX9_show_28 : decode cX9_show 28 = .ok (.aload_n 0, 1) := by decide +kernel
theorem dX9_show_29 : decode cX9_show 29 = .ok (.getfield 104, 3) := by decide +kernel
theorem dX9_show_32 : decode cX9_show 32 = .ok (.iload_n 1, 1) := by decide +kernel
theorem dX9_show_33 : decode cX9_show 33 = .ok (.iload_n 2, 1) := by decide +kernel
theorem dX9_show_34 : decode cX9_show 34 = .ok (.iastore, 1) := by decide +kernel
theorem dX9_show_35 : decode cX9_show 35 = .ok (.iload_n 3, 1) := by decide +kernel
theorem dX9_show_36 : decode cX9_show 36 = .ok (.ireturn, 1) := by decide +kernel
set_option maxRecDepth 20000 in
theorem ggX9_graft_X9_isIn : GoodIn wsX9_graft wsX9_isIn := goodIn_r _ [6] (by decide +kernel) (by decide +kernel)
set_option maxRecDepth 20000 in
theorem gX9_graft_X9_isIn : GoodIn wsX9_graft (va_wsS RX9 195 yX9_isIn wsX9_isIn) := goodIn_app (goodIn_of _ (by decide +kernel)) ggX9_graft_X9_isIn
set_option maxRecDepth 20000 in
theorem ggX9_graft_X9_placeOf : GoodIn wsX9_graft wsX9_placeOf := goodIn_r _ [9] (by decide +kernel) (by decide +kernel)
set_option maxRecDepth 20000 in
theorem gX9_graft_X9_placeOf : GoodIn wsX9_graft (va_wsS RX9 170 yX9_placeOf wsX9_placeOf) := goodIn_app (goodIn_of _ (by decide +kernel)) ggX9_graft_X9_placeOf
theorem dX9_graft_0 : decode cX9_graft 0 = .ok (.iload_n 1, 1) := by decide +kernel
theorem dX9_graft_1 : decode cX9_graft 1 = .ok (.aload_n 0, 1) := by decide +kernel
theorem dX9_graft_2 : decode cX9_graft 2 = .ok (.getfield 100, 3) := by decide +kernel
theorem dX9_graft_5 : decode cX9_graft 5 = .ok (.invokestatic 195, 3) := by decide +kernel
theorem dX9_graft_8 : decode cX9_graft 8 = .ok (.ifCond .eq 22, 3) := by decide +kernel
theorem dX9_graft_11 : decode cX9_graft 11 = .ok (.iload_n 2, 1) := by decide +kernel
theorem dX9_graft_12 : decode cX9_graft 12 = .ok (.iconst 4, 1) := by decide +kernel
theorem dX9_graft_13 : decode cX9_graft 13 = .ok (.invokestatic 195, 3) := by decide +kernel
theorem dX9_graft_16 : decode cX9_graft 16 = .ok (.ifCond .eq 14, 3) := by decide +kernel
theorem dX9_graft_19 : decode cX9_graft 19 = .ok (.iload_n 3, 1) := by decide +kernel
theorem dX9_graft_20 : decode cX9_graft 20 = .ok (.aload_n 0, 1) := by decide +kernel
theorem dX9_graft_21 : decode cX9_graft 21 = .ok (.getfield 100, 3) := by decide +kernel
theorem dX9_graft_24 : decode cX9_graft 24 = .ok (.invokestatic 195, 3) := by decide +kernel
theorem dX9_graft_27 : decode cX9_graft 27 = .ok (.ifCond .ne 5, 3) := by decide +kernel
theorem dX9_graft_30 : decode cX9_graft 30 = .ok (.iconst 0, 1) := by decide +kernel
theorem dX9_graft_31 : decode cX9_graft 31 = .ok (.ireturn, 1) := by decide +kernel
theorem dX9_graft_32 : decode cX9_graft 32 = .ok (.iconst 0, 1) := by decide +kernel
theorem dX9_graft_33 : decode cX9_graft 33 = .ok (.istore 4, 2) := by decide +kernel
theorem dX9_graft_35 : decode cX9_graft 35 = .ok (.iload 4, 2) := by decide +kernel
theorem dX9_graft_37 : decode cX9_graft 37 = .ok (.bipush 84, 2) := by decide +kernel
theorem dX9_graft_39 : decode cX9_graft 39 = .ok (.if_icmp .ge 35, 3) := by decide +kernel
theorem dX9_graft_42 : decode cX9_graft 42 = .ok (.aload_n 0, 1) := by decide +kernel
theorem dX9_graft_43 : decode cX9_graft 43 = .ok (.getfield 88, 3) := by decide +kernel
theorem dX9_graft_46 : decode cX9_graft 46 = .ok (.iload_n 1, 1) := by decide +kernel
theorem dX9_graft_47 : decode cX9_graft 47 = .ok (.iload_n 2, 1) := by decide +kernel
theorem dX9_graft_48 : decode cX9_graft 48 = .ok (.invokestatic 170, 3) := by decide +kernel
theorem dX9_graft_51 : decode cX9_graft 51 = .ok (.iload 4, 2) := by decide +kernel
theorem dX9_graft_53 : decode cX9_graft 53 = .ok (.iadd, 1) := by decide +kernel
theorem dX9_graft_54 : decode cX9_graft 54 = .ok (.aload_n 0, 1) := by decide +kernel
theorem dX9_graft_55 : decode cX9_graft 55 = .ok (.getfield 88, 3) := by decide +kernel
theorem dX9_graft_58 : decode cX9_graft 58 = .ok (.iload_n 3, 1) := by decide +kernel
theorem dX9_graft_59 : decode cX9_graft 59 = .ok (.iload_n 2, 1) := by decide +kernel
theorem dX9_graft_60 : decode cX9_graft 60 = .ok (.invokestatic 170, 3) := by decide +kernel
theorem dX9_graft_63 : decode cX9_graft 63 = .ok (.iload 4, 2) := by decide +kernel
theorem dX9_graft_65 : decode cX9_graft 65 = .ok (.iadd, 1) := by decide +kernel
theorem dX9_graft_66 : decode cX9_graft 66 = .ok (.iaload, 1) := by decide +kernel
theorem dX9_graft_67 : decode cX9_graft 67 = .ok (.iastore, 1) := by decide +kernel
theorem dX9_graft_68 : decode cX9_graft 68 = .ok (.iinc 4 1, 3) := by decide +kernel
theorem dX9_graft_71 : decode cX9_graft 71 = .ok (.goto (-36), 3) := by decide +kernel
theorem dX9_graft_74 : decode cX9_graft 74 = .ok (.iconst 1, 1) := by decide +kernel
theorem dX9_graft_75 : decode cX9_graft 75 = .ok (.ireturn, 1) := by decide +kernel
set_option maxRecDepth 20000 in
theorem ggX9_poke_X9_isIn : GoodIn wsX9_poke wsX9_isIn := goodIn_r _ [6] (by decide +kernel) (by decide +kernel)
set_option maxRecDepth 20000 in
theorem gX9_poke_X9_isIn : GoodIn wsX9_poke (va_wsS RX9 195 yX9_isIn wsX9_isIn) := goodIn_app (goodIn_of _ (by decide +kernel)) ggX9_poke_X9_isIn
set_option maxRecDepth 20000 in
theorem ggX9_poke_X9_placeOf : GoodIn wsX9_poke wsX9_placeOf := goodIn_r _ [9] (by decide +kernel) (by decide +kernel)
set_option maxRecDepth 20000 in
theorem gX9_poke_X9_placeOf : GoodIn wsX9_poke (va_wsS RX9 170 yX9_placeOf wsX9_placeOf) := goodIn_app (goodIn_of _ (by decide +kernel)) ggX9_poke_X9_placeOf
theorem dX9_poke_0 : decode cX9_poke 0 = .ok (.iload_n 1, 1) := by decide +kernel
theorem dX9_poke_1 : decode cX9_poke 1 = .ok (.aload_n 0, 1) := by decide +kernel
theorem dX9_poke_2 : decode cX9_poke 2 = .ok (.getfield 100, 3) := by decide +kernel
theorem dX9_poke_5 : decode cX9_poke 5 = .ok (.invokestatic 195, 3) := by decide +kernel
theorem dX9_poke_8 : decode cX9_poke 8 = .ok (.ifCond .eq 34, 3) := by decide +kernel
theorem dX9_poke_11 : decode cX9_poke 11 = .ok (.iload_n 2, 1) := by decide +kernel
theorem dX9_poke_12 : decode cX9_poke 12 = .ok (.iconst 4, 1) := by decide +kernel
theorem dX9_poke_13 : decode cX9_poke 13 = .ok (.invokestatic 195, 3) := by decide +kernel
theorem dX9_poke_16 : decode cX9_poke 16 = .ok (.ifCond .eq 26, 3) := by decide +kernel
theorem dX9_poke_19 : decode cX9_poke 19 = .ok (.iload_n 3, 1) := by decide +kernel
theorem dX9_poke_20 : decode cX9_poke 20 = .ok (.bipush 84, 2) := by decide +kernel
theorem dX9_poke_22 : decode cX9_poke 22 = .ok (.invokestatic 195, 3) := by decide +kernel
theorem dX9_poke_25 : decode cX9_poke 25 = .ok (.ifCond .eq 17, 3) := by decide +kernel
theorem dX9_poke_28 : decode cX9_poke 28 = .ok (.iload 4, 2) := by decide +kernel
theorem dX9_poke_30 : decode cX9_poke 30 = .ok (.iconst 1, 1) := by decide +kernel
theorem dX9_poke_31 : decode cX9_poke 31 = .ok (.if_icmp .lt 11, 3) := by decide +kernel
theorem dX9_poke_34 : decode cX9_poke 34 = .ok (.iload 4, 2) := by decide +kernel
theorem dX9_poke_36 : decode cX9_poke 36 = .ok (.sipush 255, 3) := by decide +kernel
theorem dX9_poke_39 : decode cX9_poke 39 = .ok (.if_icmp .le 5, 3) := by decide +kernel
theorem dX9_poke_42 : decode cX9_poke 42 = .ok (.iconst 0, 1) := by decide +kernel
theorem dX9_poke_43 : decode cX9_poke 43 = .ok (.ireturn, 1) := by decide +kernel
theorem dX9_poke_44 : decode cX9_poke 44 = .ok (.aload_n 0, 1) := by decide +kernel
theorem dX9_poke_45 : decode cX9_poke 45 = .ok (.getfield 88, 3) := by decide +kernel
theorem dX9_poke_48 : decode cX9_poke 48 = .ok (.iload_n 1, 1) := by decide +kernel
theorem dX9_poke_49 : decode cX9_poke 49 = .ok (.iload_n 2, 1) := by decide +kernel
theorem dX9_poke_50 : decode cX9_poke 50 = .ok (.invokestatic 170, 3) := by decide +kernel
theorem dX9_poke_53 : decode cX9_poke 53 = .ok (.iload_n 3, 1) := by decide +kernel
theorem dX9_poke_54 : decode cX9_poke 54 = .ok (.iadd, 1) := by decide +kernel
theorem dX9_poke_55 : decode cX9_poke 55 = .ok (.dup2, 1) := by decide +kernel
theorem dX9_poke_56 : decode cX9_poke 56 = .ok (.iaload, 1) := by decide +kernel
theorem dX9_poke_57 : decode cX9_poke 57 = .ok (.iload 4, 2) := by decide +kernel
theorem dX9_poke_59 : decode cX9_poke 59 = .ok (.ixor, 1) := by decide +kernel
theorem dX9_poke_60 : decode cX9_poke 60 = .ok (.iastore, 1) := by decide +kernel
theorem dX9_poke_61 : decode cX9_poke 61 = .ok (.iconst 1, 1) := by decide +kernel
theorem dX9_poke_62 : decode cX9_poke 62 = .ok (.ireturn, 1) := by decide +kernel
set_option maxRecDepth 20000 in
theorem ggX9_spoil_X9_isIn : GoodIn wsX9_spoil wsX9_isIn := goodIn_r _ [7] (by decide +kernel) (by decide +kernel)
set_option maxRecDepth 20000 in
theorem gX9_spoil_X9_isIn : GoodIn wsX9_spoil (va_wsS RX9 195 yX9_isIn wsX9_isIn) := goodIn_app (goodIn_of _ (by decide +kernel)) ggX9_spoil_X9_isIn
theorem dX9_spoil_0 : decode cX9_spoil 0 = .ok (.iload_n 1, 1) := by decide +kernel
theorem dX9_spoil_1 : decode cX9_spoil 1 = .ok (.aload_n 0, 1) := by decide +kernel
theorem dX9_spoil_2 : decode cX9_spoil 2 = .ok (.getfield 100, 3) := by decide +kernel
theorem dX9_spoil_5 : decode cX9_spoil 5 = .ok (.invokestatic 195, 3) := by decide +kernel
theorem dX9_spoil_8 : decode cX9_spoil 8 = .ok (.ifCond .eq 26, 3) := by decide +kernel
theorem dX9_spoil_11 : decode cX9_spoil 11 = .ok (.iload_n 2, 1) := by decide +kernel
theorem dX9_spoil_12 : decode cX9_spoil 12 = .ok (.bipush 16, 2) := by decide +kernel
theorem dX9_spoil_14 : decode cX9_spoil 14 = .ok (.invokestatic 195, 3) := by decide +kernel
theorem dX9_spoil_17 : decode cX9_spoil 17 = .ok (.ifCond .eq 17, 3) := by decide +kernel
theorem dX9_spoil_20 : decode cX9_spoil 20 = .ok (.iload 4, 2) := by decide +kernel
theorem dX9_spoil_22 : decode cX9_spoil 22 = .ok (.iconst 1, 1) := by decide +kernel
theorem dX9_spoil_23 : decode cX9_spoil 23 = .ok (.if_icmp .lt 11, 3) := by decide +kernel
theorem dX9_spoil_26 : decode cX9_spoil 26 = .ok (.iload 4, 2) := by decide +kernel
theorem dX9_spoil_28 : decode cX9_spoil 28 = .ok (.sipush 255, 3) := by decide +kernel
theorem dX9_spoil_31 : decode cX9_spoil 31 = .ok (.if_icmp .le 5, 3) := by decide +kernel
theorem dX9_spoil_34 : decode cX9_spoil 34 = .ok (.iconst 0, 1) := by decide +kernel
theorem dX9_spoil_35 : decode cX9_spoil 35 = .ok (.ireturn, 1) := by decide +kernel
theorem dX9_spoil_36 : decode cX9_spoil 36 = .ok (.bipush 16, 2) := by decide +kernel
theorem dX9_spoil_38 : decode cX9_spoil 38 = .ok (.iload_n 1, 1) := by decide +kernel
theorem dX9_spoil_39 : decode cX9_spoil 39 = .ok (.imul, 1) := by decide +kernel
theorem dX9_spoil_40 : decode cX9_spoil 40 = .ok (.iload_n 2, 1) := by decide +kernel
theorem dX9_spoil_41 : decode cX9_spoil 41 = .ok (.iadd, 1) := by decide +kernel
theorem dX9_spoil_42 : decode cX9_spoil 42 = .ok (.istore 5, 2) := by decide +kernel
theorem dX9_spoil_44 : decode cX9_spoil 44 = .ok (.iload_n 3, 1) := by decide +kernel
theorem dX9_spoil_45 : decode cX9_spoil 45 = .ok (.aload_n 0, 1) := by decide +kernel
theorem dX9_spoil_46 : decode cX9_spoil 46 = .ok (.getfield 97, 3) := by decide +kernel
theorem dX9_spoil_49 : decode cX9_spoil 49 = .ok (.iload 5, 2) := by decide +kernel
theorem dX9_spoil_51 : decode cX9_spoil 51 = .ok (.iaload, 1) := by decide +kernel
theorem dX9_spoil_52 : decode cX9_spoil 52 = .ok (.invokestatic 195, 3) := by decide +kernel
theorem dX9_spoil_55 : decode cX9_spoil 55 = .ok (.ifCond .ne 5, 3) := by decide +kernel
theorem dX9_spoil_58 : decode cX9_spoil 58 = .ok (.iconst 0, 1) := by decide +kernel
theorem dX9_spoil_59 : decode cX9_spoil 59 = .ok (.ireturn, 1) := by decide +kernel
theorem dX9_spoil_60 : decode cX9_spoil 60 = .ok (.aload_n 0, 1) := by decide +kernel
theorem dX9_spoil_61 : decode cX9_spoil 61 = .ok (.getfield 94, 3) := by decide +kernel
theorem dX9_spoil_64 : decode cX9_spoil 64 = .ok (.bipush 12, 2) := by decide +kernel
theorem dX9_spoil_66 : decode cX9_spoil 66 = .ok (.iload 5, 2) := by decide +kernel
theorem dX9_spoil_68 : decode cX9_spoil 68 = .ok (.imul, 1) := by decide +kernel
theorem dX9_spoil_69 : decode cX9_spoil 69 = .ok (.iload_n 3, 1) := by decide +kernel
theorem dX9_spoil_70 : decode cX9_spoil 70 = .ok (.iadd, 1) := by decide +kernel
theorem dX9_spoil_71 : decode cX9_spoil 71 = .ok (.dup2, 1) := by decide +kernel
theorem dX9_spoil_72 : decode cX9_spoil 72 = .ok (.iaload, 1) := by decide +kernel
theorem dX9_spoil_73 : decode cX9_spoil 73 = .ok (.iload 4, 2) := by decide +kernel
theorem dX9_spoil_75 : decode cX9_spoil 75 = .ok (.ixor, 1) := by decide +kernel
theorem dX9_spoil_76 : decode cX9_spoil 76 = .ok (.iastore, 1) := by decide +kernel
theorem dX9_spoil_77 : decode cX9_spoil 77 = .ok (.iconst 1, 1) := by decide +kernel
theorem dX9_spoil_78 : decode cX9_spoil 78 = .ok (.ireturn, 1) := by decide +kernel
set_option maxRecDepth 20000 in
theorem ggX9_exchange_X9_isIn : GoodIn wsX9_exchange wsX9_isIn := goodIn_r _ [5] (by decide +kernel) (by decide +kernel)
set_option maxRecDepth 20000 in
theorem gX9_exchange_X9_isIn : GoodIn wsX9_exchange (va_wsS RX9 195 yX9_isIn wsX9_isIn) := goodIn_app (goodIn_of _ (by decide +kernel)) ggX9_exchange_X9_isIn
set_option maxRecDepth 20000 in
theorem ggX9_exchange_X9_isNotAbove : GoodIn wsX9_exchange wsX9_isNotAbove := goodIn_r _ [8, 9, 10, 4, 11] (by decide +kernel) (by decide +kernel)
set_option maxRecDepth 20000 in
theorem gX9_exchange_X9_isNotAbove : GoodIn wsX9_exchange (va_wsS RX9 177 yX9_isNotAbove wsX9_isNotAbove) := goodIn_app (goodIn_of _ (by decide +kernel)) ggX9_exchange_X9_isNotAbove
theorem dX9_exchange_0 : decode cX9_exchange 0 = .ok (.iload_n 1, 1) := by decide +kernel
theorem dX9_exchange_1 : decode cX9_exchange 1 = .ok (.iconst 4, 1) := by decide +kernel
theorem dX9_exchange_2 : decode cX9_exchange 2 = .ok (.invokestatic 195, 3) := by decide +kernel
theorem dX9_exchange_5 : decode cX9_exchange 5 = .ok (.ifCond .eq 16, 3) := by decide +kernel
theorem dX9_exchange_8 : decode cX9_exchange 8 = .ok (.iload_n 2, 1) := by decide +kernel
theorem dX9_exchange_9 : decode cX9_exchange 9 = .ok (.iconst 4, 1) := by decide +kernel
theorem dX9_exchange_10 : decode cX9_exchange 10 = .ok (.invokestatic 195, 3) := by decide +kernel
theorem dX9_exchange_13 : decode cX9_exchange 13 = .ok (.ifCond .eq 8, 3) := by decide +kernel
theorem dX9_exchange_16 : decode cX9_exchange 16 = .ok (.iload_n 1, 1) := by decide +kernel
theorem dX9_exchange_17 : decode cX9_exchange 17 = .ok (.iload_n 2, 1) := by decide +kernel
theorem dX9_exchange_18 : decode cX9_exchange 18 = .ok (.if_icmp .ne 5, 3) := by decide +kernel
theorem dX9_exchange_21 : decode cX9_exchange 21 = .ok (.iconst (-1), 1) := by decide +kernel
theorem dX9_exchange_22 : decode cX9_exchange 22 = .ok (.ireturn, 1) := by decide +kernel
theorem dX9_exchange_23 : decode cX9_exchange 23 = .ok (.aload_n 0, 1) := by decide +kernel
theorem dX9_exchange_24 : decode cX9_exchange 24 = .ok (.getfield 91, 3) := by decide +kernel
theorem dX9_exchange_27 : decode cX9_exchange 27 = .ok (.bipush 84, 2) := by decide +kernel
theorem dX9_exchange_29 : decode cX9_exchange 29 = .ok (.iload_n 1, 1) := by decide +kernel
theorem dX9_exchange_30 : decode cX9_exchange 30 = .ok (.imul, 1) := by decide +kernel
theorem dX9_exchange_31 : decode cX9_exchange 31 = .ok (.bipush 84, 2) := by decide +kernel
theorem dX9_exchange_33 : decode cX9_exchange 33 = .ok (.iload_n 2, 1) := by decide +kernel
theorem dX9_exchange_34 : decode cX9_exchange 34 = .ok (.imul, 1) := by decide +kernel
theorem dX9_exchange_35 : decode cX9_exchange 35 = .ok (.invokestatic 177, 3) := by decide +kernel
theorem dX9_exchange_38 : decode cX9_exchange 38 = .ok (.ifCond .ne 21, 3) := by decide +kernel
theorem dX9_exchange_41 : decode cX9_exchange 41 = .ok (.aload_n 0, 1) := by decide +kernel
theorem dX9_exchange_42 : decode cX9_exchange 42 = .ok (.getfield 91, 3) := by decide +kernel
theorem dX9_exchange_45 : decode cX9_exchange 45 = .ok (.bipush 84, 2) := by decide +kernel
theorem dX9_exchange_47 : decode cX9_exchange 47 = .ok (.iload_n 2, 1) := by decide +kernel
theorem dX9_exchange_48 : decode cX9_exchange 48 = .ok (.imul, 1) := by decide +kernel
theorem dX9_exchange_49 : decode cX9_exchange 49 = .ok (.bipush 84, 2) := by decide +kernel
theorem dX9_exchange_51 : decode cX9_exchange 51 = .ok (.iload_n 1, 1) := by decide +kernel
theorem dX9_exchange_52 : decode cX9_exchange 52 = .ok (.imul, 1) := by decide +kernel
theorem dX9_exchange_53 : decode cX9_exchange 53 = .ok (.invokestatic 177, 3) := by decide +kernel
theorem dX9_exchange_56 : decode cX9_exchange 56 = .ok (.ifCond .eq 7, 3) := by decide +kernel
theorem dX9_exchange_59 : decode cX9_exchange 59 = .ok (.iconst 0, 1) := by decide +kernel
theorem dX9_exchange_60 : decode cX9_exchange 60 = .ok (.goto 4, 3) := by decide +kernel
theorem dX9_exchange_63 : decode cX9_exchange 63 = .ok (.iconst 1, 1) := by decide +kernel
theorem dX9_exchange_64 : decode cX9_exchange 64 = .ok (.ireturn, 1) := by decide +kernel
set_option maxRecDepth 20000 in
theorem ggX9_statement_X9_isIn : GoodIn wsX9_statement wsX9_isIn := goodIn_r _ [7] (by decide +kernel) (by decide +kernel)
set_option maxRecDepth 20000 in
theorem gX9_statement_X9_isIn : GoodIn wsX9_statement (va_wsS RX9 195 yX9_isIn wsX9_isIn) := goodIn_app (goodIn_of _ (by decide +kernel)) ggX9_statement_X9_isIn
set_option maxRecDepth 20000 in
theorem ggX9_statement_X9_placeOf : GoodIn wsX9_statement wsX9_placeOf := goodIn_r _ [10] (by decide +kernel) (by decide +kernel)
set_option maxRecDepth 20000 in
theorem gX9_statement_X9_placeOf : GoodIn wsX9_statement (va_wsS RX9 170 yX9_placeOf wsX9_placeOf) := goodIn_app (goodIn_of _ (by decide +kernel)) ggX9_statement_X9_placeOf
theorem dX9_statement_0 : decode cX9_statement 0 = .ok (.iload_n 1, 1) := by decide +kernel
theorem dX9_statement_1 : decode cX9_statement 1 = .ok (.iconst (-1), 1) := by decide +kernel
theorem dX9_statement_2 : decode cX9_statement 2 = .ok (.if_icmp .lt 28, 3) := by decide +kernel
theorem dX9_statement_5 : decode cX9_statement 5 = .ok (.iload_n 1, 1) := by decide +kernel
theorem dX9_statement_6 : decode cX9_statement 6 = .ok (.aload_n 0, 1) := by decide +kernel
theorem dX9_statement_7 : decode cX9_statement 7 = .ok (.getfield 100, 3) := by decide +kernel
theorem dX9_statement_10 : decode cX9_statement 10 = .ok (.if_icmp .ge 20, 3) := by decide +kernel
theorem dX9_statement_13 : decode cX9_statement 13 = .ok (.iload_n 2, 1) := by decide +kernel
theorem dX9_statement_14 : decode cX9_statement 14 = .ok (.iconst 4, 1) := by decide +kernel
theorem dX9_statement_15 : decode cX9_statement 15 = .ok (.invokestatic 195, 3) := by decide +kernel
theorem dX9_statement_18 : decode cX9_statement 18 = .ok (.ifCond .eq 12, 3) := by decide +kernel
theorem dX9_statement_21 : decode cX9_statement 21 = .ok (.iload_n 3, 1) := by decide +kernel
theorem dX9_statement_22 : decode cX9_statement 22 = .ok (.bipush 84, 2) := by decide +kernel
theorem dX9_statement_24 : decode cX9_statement 24 = .ok (.invokestatic 195, 3) := by decide +kernel
theorem dX9_statement_27 : decode cX9_statement 27 = .ok (.ifCond .ne 5, 3) := by decide +kernel
theorem dX9_statement_30 : decode cX9_statement 30 = .ok (.iconst (-1), 1) := by decide +kernel
theorem dX9_statement_31 : decode cX9_statement 31 = .ok (.ireturn, 1) := by decide +kernel
theorem dX9_statement_32 : decode cX9_statement 32 = .ok (.iload_n 1, 1) := by decide +kernel
theorem dX9_statement_33 : decode cX9_statement 33 = .ok (.iconst (-1), 1) := by decide +kernel
theorem dX9_statement_34 : decode cX9_statement 34 = .ok (.if_icmp .ne 17, 3) := by decide +kernel
theorem dX9_statement_37 : decode cX9_statement 37 = .ok (.aload_n 0, 1) := by decide +kernel
theorem dX9_statement_38 : decode cX9_statement 38 = .ok (.getfield 91, 3) := by decide +kernel
theorem dX9_statement_41 : decode cX9_statement 41 = .ok (.bipush 84, 2) := by decide +kernel
theorem dX9_statement_43 : decode cX9_statement 43 = .ok (.iload_n 2, 1) := by decide +kernel
theorem dX9_statement_44 : decode cX9_statement 44 = .ok (.imul, 1) := by decide +kernel
theorem dX9_statement_45 : decode cX9_statement 45 = .ok (.iload_n 3, 1) := by decide +kernel
theorem dX9_statement_46 : decode cX9_statement 46 = .ok (.iadd, 1) := by decide +kernel
theorem dX9_statement_47 : decode cX9_statement 47 = .ok (.iaload, 1) := by decide +kernel
theorem dX9_statement_48 : decode cX9_statement 48 = .ok (.goto 15, 3) := by decide +kernel
theorem dX9_statement_51 : decode cX9_statement 51 = .ok (.aload_n 0, 1) := by decide +kernel
theorem dX9_statement_52 : decode cX9_statement 52 = .ok (.getfield 88, 3) := by decide +kernel
theorem dX9_statement_55 : decode cX9_statement 55 = .ok (.iload_n 1, 1) := by decide +kernel
theorem dX9_statement_56 : decode cX9_statement 56 = .ok (.iload_n 2, 1) := by decide +kernel
theorem dX9_statement_57 : decode cX9_statement 57 = .ok (.invokestatic 170, 3) := by decide +kernel
theorem dX9_statement_60 : decode cX9_statement 60 = .ok (.iload_n 3, 1) := by decide +kernel
theorem dX9_statement_61 : decode cX9_statement 61 = .ok (.iadd, 1) := by decide +kernel
theorem dX9_statement_62 : decode cX9_statement 62 = .ok (.iaload, 1) := by decide +kernel
theorem dX9_statement_63 : decode cX9_statement 63 = .ok (.ireturn, 1) := by decide +kernel
set_option maxRecDepth 20000 in
theorem ggX9_seen_X9_isIn : GoodIn wsX9_seen wsX9_isIn := goodIn_r _ [5] (by decide +kernel) (by decide +kernel)
set_option maxRecDepth 20000 in
theorem gX9_seen_X9_isIn : GoodIn wsX9_seen (va_wsS RX9 195 yX9_isIn wsX9_isIn) := goodIn_app (goodIn_of _ (by decide +kernel)) ggX9_seen_X9_isIn
set_option maxRecDepth 20000 in
theorem ggX9_seen_X9_countAt : GoodIn wsX9_seen wsX9_countAt := goodIn_r _ [8] (by decide +kernel) (by decide +kernel)
set_option maxRecDepth 20000 in
theorem gX9_seen_X9_countAt : GoodIn wsX9_seen (va_wsS RX9 173 yX9_countAt wsX9_countAt) := goodIn_app (goodIn_of _ (by decide +kernel)) ggX9_seen_X9_countAt
theorem dX9_seen_0 : decode cX9_seen 0 = .ok (.iload_n 1, 1) := by decide +kernel
theorem dX9_seen_1 : decode cX9_seen 1 = .ok (.iconst 4, 1) := by decide +kernel
theorem dX9_seen_2 : decode cX9_seen 2 = .ok (.invokestatic 195, 3) := by decide +kernel
theorem dX9_seen_5 : decode cX9_seen 5 = .ok (.ifCond .eq 27, 3) := by decide +kernel
theorem dX9_seen_8 : decode cX9_seen 8 = .ok (.iload_n 2, 1) := by decide +kernel
theorem dX9_seen_9 : decode cX9_seen 9 = .ok (.iconst 4, 1) := by decide +kernel
theorem dX9_seen_10 : decode cX9_seen 10 = .ok (.invokestatic 195, 3) := by decide +kernel
theorem dX9_seen_13 : decode cX9_seen 13 = .ok (.ifCond .eq 19, 3) := by decide +kernel
theorem dX9_seen_16 : decode cX9_seen 16 = .ok (.aload_n 0, 1) := by decide +kernel
theorem dX9_seen_17 : decode cX9_seen 17 = .ok (.getfield 91, 3) := by decide +kernel
theorem dX9_seen_20 : decode cX9_seen 20 = .ok (.bipush 84, 2) := by decide +kernel
theorem dX9_seen_22 : decode cX9_seen 22 = .ok (.iload_n 1, 1) := by decide +kernel
theorem dX9_seen_23 : decode cX9_seen 23 = .ok (.imul, 1) := by decide +kernel
theorem dX9_seen_24 : decode cX9_seen 24 = .ok (.iload_n 2, 1) := by decide +kernel
theorem dX9_seen_25 : decode cX9_seen 25 = .ok (.invokestatic 173, 3) := by decide +kernel
theorem dX9_seen_28 : decode cX9_seen 28 = .ok (.l2i, 1) := by decide +kernel
theorem dX9_seen_29 : decode cX9_seen 29 = .ok (.goto 4, 3) := by decide +kernel
theorem dX9_seen_32 : decode cX9_seen 32 = .ok (.iconst (-1), 1) := by decide +kernel
theorem dX9_seen_33 : decode cX9_seen 33 = .ok (.ireturn, 1) := by decide +kernel
set_option maxRecDepth 20000 in
theorem ggX9_digest_X9_isIn : GoodIn wsX9_digest wsX9_isIn := goodIn_r _ [10] (by decide +kernel) (by decide +kernel)
set_option maxRecDepth 20000 in
theorem gX9_digest_X9_isIn : GoodIn wsX9_digest (va_wsS RX9 195 yX9_isIn wsX9_isIn) := goodIn_app (goodIn_of _ (by decide +kernel)) ggX9_digest_X9_isIn
set_option maxRecDepth 20000 in
theorem ggX9_digest_X9_mac : GoodIn wsX9_digest wsX9_mac := goodIn_r _ [14, 5, 2, 3, 15, 6, 16, 17, 18, 9, 19, 20, 21, 22, 23, 24, 25, 26, 27, 28, 29, 30, 31, 32, 33, 34, 35, 36, 37, 38, 39, 40, 41, 42, 43, 44, 45, 46, 47, 48, 49, 50, 51, 52, 53, 54, 55, 56, 57, 58, 59, 60, 61, 62] (by decide +kernel) (by decide +kernel)
set_option maxRecDepth 20000 in
theorem gX9_digest_X9_mac : GoodIn wsX9_digest (wsV RX9 167 RX9 yX9_mac wsX9_mac) := goodIn_app (goodIn_of _ (by decide +kernel)) ggX9_digest_X9_mac
set_option maxRecDepth 20000 in
theorem ggX9_digest_X9_add : GoodIn wsX9_digest wsX9_add := goodIn_r _ [23, 24, 5, 40, 41, 42, 43, 44, 45, 46, 47, 48, 49, 50, 51, 52, 53, 54, 55, 56, 57, 58, 59, 60, 61, 62] (by decide +kernel) (by decide +kernel)
set_option maxRecDepth 20000 in
theorem gX9_digest_X9_add : GoodIn wsX9_digest (wsV RX9 152 RX9 yX9_add wsX9_add) := goodIn_app (goodIn_of _ (by decide +kernel)) ggX9_digest_X9_add
set_option maxRecDepth 20000 in
theorem ggX9_digest_X9_hash : GoodIn wsX9_digest wsX9_hash := goodIn_r _ [28, 5, 29, 30, 6, 20, 21, 22, 9, 23, 24, 31, 32, 33, 34, 35, 36, 37, 38, 39, 40, 41, 42, 43, 44, 45, 46, 47, 48, 49, 50, 51, 52, 53, 54, 55, 56, 57, 58, 59, 60, 61, 62] (by decide +kernel) (by decide +kernel)
set_option maxRecDepth 20000 in
theorem gX9_digest_X9_hash : GoodIn wsX9_digest (wsV RX9 164 RX9 yX9_hash wsX9_hash) := goodIn_app (goodIn_of _ (by decide +kernel)) ggX9_digest_X9_hash
theorem dX9_digest_0 : decode cX9_digest 0 = .ok (.iload_n 1, 1) := by decide +kernel
theorem dX9_digest_1 : decode cX9_digest 1 = .ok (.ifCond .lt 17, 3) := by decide +kernel
theorem dX9_digest_4 : decode cX9_digest 4 = .ok (.iload_n 1, 1) := by decide +kernel
theorem dX9_digest_5 : decode cX9_digest 5 = .ok (.iconst 1, 1) := by decide +kernel
theorem dX9_digest_6 : decode cX9_digest 6 = .ok (.if_icmp .gt 12, 3) := by decide +kernel
theorem dX9_digest_9 : decode cX9_digest 9 = .ok (.iload_n 2, 1) := by decide +kernel
theorem dX9_digest_10 : decode cX9_digest 10 = .ok (.bipush 32, 2) := by decide +kernel
theorem dX9_digest_12 : decode cX9_digest 12 = .ok (.invokestatic 195, 3) := by decide +kernel
theorem dX9_digest_15 : decode cX9_digest 15 = .ok (.ifCond .ne 5, 3) := by decide +kernel
theorem dX9_digest_18 : decode cX9_digest 18 = .ok (.iconst (-1), 1) := by decide +kernel
theorem dX9_digest_19 : decode cX9_digest 19 = .ok (.ireturn, 1) := by decide +kernel
theorem dX9_digest_20 : decode cX9_digest 20 = .ok (.aload_n 0, 1) := by decide +kernel
theorem dX9_digest_21 : decode cX9_digest 21 = .ok (.aload_n 0, 1) := by decide +kernel
theorem dX9_digest_22 : decode cX9_digest 22 = .ok (.getfield 192, 3) := by decide +kernel
theorem dX9_digest_25 : decode cX9_digest 25 = .ok (.putfield 161, 3) := by decide +kernel
theorem dX9_digest_28 : decode cX9_digest 28 = .ok (.iconst 0, 1) := by decide +kernel
theorem dX9_digest_29 : decode cX9_digest 29 = .ok (.istore_n 3, 1) := by decide +kernel
theorem dX9_digest_30 : decode cX9_digest 30 = .ok (.iload_n 3, 1) := by decide +kernel
theorem dX9_digest_31 : decode cX9_digest 31 = .ok (.aload_n 0, 1) := by decide +kernel
theorem dX9_digest_32 : decode cX9_digest 32 = .ok (.getfield 192, 3) := by decide +kernel
theorem dX9_digest_35 : decode cX9_digest 35 = .ok (.if_icmp .ge 21, 3) := by decide +kernel
theorem dX9_digest_38 : decode cX9_digest 38 = .ok (.aload_n 0, 1) := by decide +kernel
theorem dX9_digest_39 : decode cX9_digest 39 = .ok (.getfield 131, 3) := by decide +kernel
theorem dX9_digest_42 : decode cX9_digest 42 = .ok (.iload_n 3, 1) := by decide +kernel
theorem dX9_digest_43 : decode cX9_digest 43 = .ok (.aload_n 0, 1) := by decide +kernel
theorem dX9_digest_44 : decode cX9_digest 44 = .ok (.getfield 107, 3) := by decide +kernel
theorem dX9_digest_47 : decode cX9_digest 47 = .ok (.iload_n 3, 1) := by decide +kernel
theorem dX9_digest_48 : decode cX9_digest 48 = .ok (.iaload, 1) := by decide +kernel
theorem dX9_digest_49 : decode cX9_digest 49 = .ok (.iastore, 1) := by decide +kernel
theorem dX9_digest_50 : decode cX9_digest 50 = .ok (.iinc 3 1, 3) := by decide +kernel
theorem dX9_digest_53 : decode cX9_digest 53 = .ok (.goto (-23), 3) := by decide +kernel
theorem dX9_digest_56 : decode cX9_digest 56 = .ok (.iload_n 1, 1) := by decide +kernel
theorem dX9_digest_57 : decode cX9_digest 57 = .ok (.iconst 1, 1) := by decide +kernel
theorem dX9_digest_58 : decode cX9_digest 58 = .ok (.if_icmp .ne 10, 3) := by decide +kernel
theorem dX9_digest_61 : decode cX9_digest 61 = .ok (.aload_n 0, 1) := by decide +kernel
theorem dX9_digest_62 : decode cX9_digest 62 = .ok (.invokevirtual 167, 3) := by decide +kernel
theorem dX9_digest_65 : decode cX9_digest 65 = .ok (.goto 38, 3) := by decide +kernel
theorem dX9_digest_68 : decode cX9_digest 68 = .ok (.aload_n 0, 1) := by decide +kernel
theorem dX9_digest_69 : decode cX9_digest 69 = .ok (.iconst 0, 1) := by decide +kernel
theorem dX9_digest_70 : decode cX9_digest 70 = .ok (.putfield 145, 3) := by decide +kernel
theorem dX9_digest_73 : decode cX9_digest 73 = .ok (.iconst 0, 1) := by decide +kernel
theorem dX9_digest_74 : decode cX9_digest 74 = .ok (.istore_n 3, 1) := by decide +kernel
theorem dX9_digest_75 : decode cX9_digest 75 = .ok (.iload_n 3, 1) := by decide +kernel
theorem dX9_digest_76 : decode cX9_digest 76 = .ok (.aload_n 0, 1) := by decide +kernel
theorem dX9_digest_77 : decode cX9_digest 77 = .ok (.getfield 192, 3) := by decide +kernel
theorem dX9_digest_80 : decode cX9_digest 80 = .ok (.if_icmp .ge 19, 3) := by decide +kernel
theorem dX9_digest_83 : decode cX9_digest 83 = .ok (.aload_n 0, 1) := by decide +kernel
theorem dX9_digest_84 : decode cX9_digest 84 = .ok (.aload_n 0, 1) := by decide +kernel
theorem dX9_digest_85 : decode cX9_digest 85 = .ok (.getfield 107, 3) := by decide +kernel
theorem dX9_digest_88 : decode cX9_digest 88 = .ok (.iload_n 3, 1) := by decide +kernel
theorem dX9_digest_89 : decode cX9_digest 89 = .ok (.iaload, 1) := by decide +kernel
theorem dX9_digest_90 : decode cX9_digest 90 = .ok (.invokevirtual 152, 3) := by decide +kernel
theorem dX9_digest_93 : decode cX9_digest 93 = .ok (.iinc 3 1, 3) := by decide +kernel
theorem dX9_digest_96 : decode cX9_digest 96 = .ok (.goto (-21), 3) := by decide +kernel
theorem dX9_digest_99 : decode cX9_digest 99 = .ok (.aload_n 0, 1) := by decide +kernel
theorem dX9_digest_100 : decode cX9_digest 100 = .ok (.invokevirtual 164, 3) := by decide +kernel
theorem dX9_digest_103 : decode cX9_digest 103 = .ok (.aload_n 0, 1) := by decide +kernel
theorem dX9_digest_104 : decode cX9_digest 104 = .ok (.getfield 116, 3) := by decide +kernel
theorem dX9_digest_107 : decode cX9_digest 107 = .ok (.iload_n 2, 1) := by decide +kernel
theorem dX9_digest_108 : decode cX9_digest 108 = .ok (.iaload, 1) := by decide +kernel
theorem dX9_digest_109 : decode cX9_digest 109 = .ok (.ireturn, 1) := by decide +kernel
theorem dX9_plain_0 : decode cX9_plain 0 = .ok (.iconst 1, 1) := by decide +kernel
theorem dX9_plain_1 : decode cX9_plain 1 = .ok (.ireturn, 1) := by decide +kernel
theorem dX9_count_0 : decode cX9_count 0 = .ok (.iload_n 1, 1) := by decide +kernel
theorem dX9_count_1 : decode cX9_count 1 = .ok (.tableswitch 51 0 3 #[31, 36, 41, 46], 31) := by decide +kernel
theorem dX9_count_32 : decode cX9_count 32 = .ok (.aload_n 0, 1) := by decide +kernel
theorem dX9_count_33 : decode cX9_count 33 = .ok (.getfield 100, 3) := by decide +kernel
theorem dX9_count_36 : decode cX9_count 36 = .ok (.ireturn, 1) := by decide +kernel
theorem dX9_count_37 : decode cX9_count 37 = .ok (.aload_n 0, 1) := by decide +kernel
theorem dX9_count_38 : decode cX9_count 38 = .ok (.getfield 189, 3) := by decide +kernel
theorem dX9_count_41 : decode cX9_count 41 = .ok (.ireturn, 1) := by decide +kernel
theorem dX9_count_42 : decode cX9_count 42 = .ok (.aload_n 0, 1) := by decide +kernel
theorem dX9_count_43 : decode cX9_count 43 = .ok (.getfield 201, 3) := by decide +kernel
theorem dX9_count_46 : decode cX9_count 46 = .ok (.ireturn, 1) := by decide +kernel
theorem dX9_count_47 : decode cX9_count 47 = .ok (.aload_n 0, 1) := by decide +kernel
theorem dX9_count_48 : decode cX9_count 48 = .ok (.getfield 192, 3) := by decide +kernel
theorem dX9_count_51 : decode cX9_count 51 = .ok (.ireturn, 1) := by decide +kernel
theorem dX9_count_52 : decode cX9_count 52 = .ok (.iload_n 1, 1) := by decide +kernel
theorem dX9_count_53 : decode cX9_count 53 = .ok (.iconst 4, 1) := by decide +kernel
theorem dX9_count_54 : decode cX9_count 54 = .ok (.if_icmp .lt 20, 3) := by decide +kernel
theorem dX9_count_57 : decode cX9_count 57 = .ok (.iload_n 1, 1) := by decide +kernel
theorem dX9_count_58 : decode cX9_count 58 = .ok (.bipush 8, 2) := by decide +kernel
theorem dX9_count_60 : decode cX9_count 60 = .ok (.if_icmp .ge 14, 3) := by decide +kernel
theorem dX9_count_63 : decode cX9_count 63 = .ok (.aload_n 0, 1) := by decide +kernel
theorem dX9_count_64 : decode cX9_count 64 = .ok (.getfield 104, 3) := by decide +kernel
theorem dX9_count_67 : decode cX9_count 67 = .ok (.iload_n 1, 1) := by decide +kernel
theorem dX9_count_68 : decode cX9_count 68 = .ok (.iconst 4, 1) := by decide +kernel
theorem dX9_count_69 : decode cX9_count 69 = .ok (.isub, 1) := by decide +kernel
theorem dX9_count_70 : decode cX9_count 70 = .ok (.iaload, 1) := by decide +kernel
theorem dX9_count_71 : decode cX9_count 71 = .ok (.goto 4, 3) := by decide +kernel
theorem dX9_count_74 : decode cX9_count 74 = .ok (.iconst (-1), 1) := by decide +kernel
theorem dX9_count_75 : decode cX9_count 75 = .ok (.ireturn, 1) := by decide +kernel
end
section
/-! ===== the memory layer (own): a world as a function from addresses to cells; every row of the kit that reads, writes, makes or calls, over such a function ===== -/
abbrev mm_M : Type := Nat → Option va_E
/-- the class numbers and slots; the classes of int[], Statement[], Object[]; the addresses of START, ROUND, the empty list's array, the Class object of Object[] -/
abbrev mm_G : Type := va_G × (ClassId × ClassId × ClassId) × (Nat × Nat × Nat × Nat)
abbrev mm_tys (G : mm_G) : List (ClassId × FieldType) := [(G.2.1.1, .int), (G.2.1.2.1, .object "ForkWatch$Statement"), (G.2.1.2.2, .object "java/lang/Object")]
abbrev ia (G : mm_G) (n : Nat) (f : Nat → Int32) : va_E := .inl (G.2.1.1, n, .inl f)
abbrev sa (G : mm_G) (n : Nat) (f : Nat → Option Nat) : va_E := .inl (G.2.1.2.1, n, .inr (.inr (.inr (.inr f))))
abbrev oa (G : mm_G) (n : Nat) (f : Nat → Option Nat) : va_E := .inl (G.2.1.2.2, n, .inr (.inr (.inr (.inr f))))
abbrev ob (ci : Nat) (fs : List Value) : va_E := .inr (ci, fs)
def mm_w (M : mm_M) (ws : va_W) : Prop := ∀ (a : Nat) (e : va_E), M a = some e ↔ (a, e) ∈ ws
def mm_H (G : mm_G) (A : Nat → Prop) (M : mm_M) (H : Heap) : Prop := ∃ ws : va_W, va_P G.1 vwCl ws H ∧ va_D A ws ∧ mm_w M ws
def mm_R (G : mm_G) (s : State) (A : Nat → Prop) (M : mm_M) (H : Heap) (locs : List Loc) : Prop := mm_H G A M H ∧ va_S A s.heap H locs
def mm_A (M : mm_M) (sz : Nat) : Nat → Prop := fun q => M q ≠ none ∨ sz ≤ q
/-- the tables of SHA-256 -/
def k_begin : Nat → Int32 := fun j => ([1779033703, -1150833019, 1013904242, -1521486534, 1359893119, -1694144372, 528734635, 1541459225] : List Int32).getD j 0
def k_round : Nat → Int32 := fun j => ([1116352408, 1899447441, -1245643825, -373957723, 961987163, 1508970993, -1841331548, -1424204075, -670586216, 310598401, 607225278, 1426881987, 1925078388, -2132889090, -1680079193, -1046744716, -459576895, -272742522, 264347078, 604807628, 770255983, 1249150122, 1555081692, 1996064986, -1740746414, -1473132947, -1341970488, -1084653625, -958395405, -710438585, 113926993, 338241895, 666307205, 773529912, 1294757372, 1396182291, 1695183700, 1986661051, -2117940946, -1838011259, -1564481375, -1474664885, -1035236496, -949202525, -778901479, -694614492, -200395387, 275423344, 430227734, 506948616, 659060556, 883997877, 958139571, 1322822218, 1537002063, 1747873779, 1955562222, 2024104815, -2067236844, -1933114872, -1866530822, -1538233109, -1090935817, -965641998] : List Int32).getD j 0
/-- the links between nest mates -/
def mm_nw : List Cond := [.methodLinkNest RX8 9 yX4_init "ForkWatch", .methodLinkNest RX8 18 yX2_init "ForkWatch", .methodLinkNest RX2 11 yX4_init "ForkWatch", .methodLinkNest RX8 58 yX1_init "ForkWatch", .methodLinkNest RX1 24 yX0_init "ForkWatch", .methodLinkNest RX7 19 yX0_init "ForkWatch", .methodLinkNest RX7 26 yX6_init "ForkWatch", .methodLinkNest RX6 29 yX8_sameRow "ForkWatch", .methodLinkNest RX0 30 yX8_sameRow "ForkWatch"]
/-- what no method of ours changes: classes, static tables, the Class object, links between nest mates -/
def mm_C (G : mm_G) (A : Nat → Prop) (U : State) : Prop :=
  va_K G.1 vwCl (mm_tys G) U ∧ (va_Z RX4 "START" "[I" (.ref G.2.2.1) A U U.heap ∧ va_T .int G.2.2.1 8 (fun j => .int (k_begin j)) A U U.heap) ∧ (va_Z RX4 "ROUND" "[I" (.ref G.2.2.2.1) A U U.heap ∧ va_T .int G.2.2.2.1 64 (fun j => .int (k_round j)) A U U.heap) ∧
  (va_Z RJx4a65c "DEFAULTCAPACITY_EMPTY_ELEMENTDATA" "[Ljava/lang/Object;" (.ref G.2.2.2.2.1) A U U.heap ∧ va_T (.object "java/lang/Object") G.2.2.2.2.1 0 (fun _ => .null) A U U.heap) ∧ (va_Mi "[Ljava/lang/Object;" G.2.2.2.2.2 U ∧ (va_AO "ForkWatch$Statement" U ∧ va_AO "java/lang/Object" U) ∧ (va_Nw (.castable "ForkWatch$World" "java/lang/Object") U ∧ va_Nw (.castable "ForkWatch$Operation" "java/lang/Object") U) ∧ va_Dc U) ∧ ∀ w ∈ mm_nw, va_Nw w U
def mm_pre (G : mm_G) (M : mm_M) (sz : Nat) (U : State) : Prop := U.heap.size = sz ∧ mm_H G (fun _ => True) M U.heap ∧ mm_C G (mm_A M sz) U
theorem mm_C.move {G : mm_G} {A B : Nat → Prop} {s U : State} {H : Heap} {locs : List Loc} (hC : mm_C G A s) (hS : va_S A s.heap H locs) (hU : U.heap = H) (hW : s.WarmedH U.vm) (hAB : ∀ q, B q → A q) : mm_C G B U := by
  obtain ⟨h1, ⟨h2, h3⟩, ⟨h4, h5⟩, ⟨h6, h7⟩, ⟨h8, ⟨k1, k2⟩, ⟨k3, k4⟩, k5⟩, h9⟩ := hC
  subst hU
  have hvm := hW.alike
  have h9' : ∀ w ∈ mm_nw, va_Nw w U := by
    intro w hw
    have h := h9 w hw
    simp only [mm_nw, List.mem_cons, List.not_mem_nil, or_false] at hw
    rcases hw with rfl | rfl | rfl | rfl | rfl | rfl | rfl | rfl | rfl <;> exact h.warmM hW
  exact ⟨h1.moved hvm, ⟨((h2.moved hvm).kept hS.2.1).narrow hAB, ((h3.moved hvm).kept hS.2.1).narrow hAB⟩, ⟨((h4.moved hvm).kept hS.2.1).narrow hAB, ((h5.moved hvm).kept hS.2.1).narrow hAB⟩, ⟨((h6.moved hvm).kept hS.2.1).narrow hAB, ((h7.moved hvm).kept hS.2.1).narrow hAB⟩, ⟨h8.moved hvm, ⟨k1.moved hvm, k2.moved hvm⟩, ⟨k3.warmC hW, k4.warmC hW⟩, k5.moved hvm⟩, h9'⟩
theorem mm_H.weaken {G : mm_G} {A B : Nat → Prop} {M : mm_M} {H : Heap} (h : mm_H G A M H) (hAB : ∀ q, A q → B q) : mm_H G B M H := by
  obtain ⟨ws, h1, h2, h3⟩ := h
  exact ⟨ws, h1, h2.weaken (fun _ _ _ h => hAB _ h), h3⟩
theorem mm_H.in {G : mm_G} {A : Nat → Prop} {M : mm_M} {H : Heap} (h : mm_H G A M H) {a : Nat} {e : va_E} (ha : M a = some e) : A a ∧ a < H.size := by
  obtain ⟨ws, h1, h2, h3⟩ := h
  obtain ⟨k, hk⟩ := List.getElem?_of_mem ((h3 a e).mp ha)
  exact ⟨h2.2 k _ hk, (h1 k _ hk).lt⟩
theorem mm_H.lt {G : mm_G} {A : Nat → Prop} {M : mm_M} {H : Heap} (h : mm_H G A M H) {a : Nat} (ha : M a ≠ none) : A a ∧ a < H.size := by
  cases hq : M a with
  | none => exact absurd hq ha
  | some e => exact h.in hq
theorem mm_R.sub {G : mm_G} {s : State} {A : Nat → Prop} {M : mm_M} {H : Heap} {locs : List Loc} (hR : mm_R G s A M H locs) (hA : ∀ q, s.heap.size ≤ q → A q) : ∀ q, mm_A M H.size q → A q := by
  intro q h
  rcases h with h | h
  · exact (hR.1.lt h).1
  · exact hA q (Nat.le_trans hR.2.1 h)
theorem mm_set {A : Nat → Prop} {M : mm_M} {ws : va_W} {k a : Nat} {e0 e : va_E} (hD : va_D A ws) (hk : ws[k]? = some (a, e0)) (hw : mm_w M ws) : mm_w (va_up M a (some e)) (ws.set k (a, e)) := by
  have hlt := (List.getElem?_eq_some_iff.mp hk).1
  intro b f
  constructor
  · intro h
    by_cases hb : b = a
    · subst hb
      rw [va_up_self] at h
      cases h
      exact List.mem_of_getElem? (i := k) (by rw [List.getElem?_set_self hlt])
    · rw [va_up_ne _ _ hb] at h
      obtain ⟨j, hj⟩ := List.getElem?_of_mem ((hw b f).mp h)
      have hjk : k ≠ j := by
        intro q
        subst q
        rw [hk] at hj
        cases hj
        exact hb rfl
      exact List.mem_of_getElem? (i := j) (by rw [List.getElem?_set_ne hjk]; exact hj)
  · intro h
    obtain ⟨j, hj⟩ := List.getElem?_of_mem h
    by_cases hjk : k = j
    · subst hjk
      rw [List.getElem?_set_self hlt] at hj
      cases hj
      exact va_up_self ..
    · rw [List.getElem?_set_ne hjk] at hj
      have hb : b ≠ a := by
        intro q
        subst q
        exact hjk (hD.1 k j _ _ hk hj rfl)
      rw [va_up_ne _ _ hb]
      exact (hw b f).mpr (List.mem_of_getElem? hj)
theorem mm_push {A : Nat → Prop} {M : mm_M} {ws : va_W} {q : Nat} {e : va_E} (hD : va_D A (ws ++ [(q, e)])) (hw : mm_w M ws) : mm_w (va_up M q (some e)) (ws ++ [(q, e)]) ∧ M q = none := by
  have hn : M q = none := by
    cases hq : M q with
    | none => rfl
    | some f =>
      obtain ⟨j, hj⟩ := List.getElem?_of_mem ((hw q f).mp hq)
      have hlt := (List.getElem?_eq_some_iff.mp hj).1
      have h1 : (ws ++ [(q, e)])[j]? = some (q, f) := by rw [List.getElem?_append_left hlt]; exact hj
      have h2 : (ws ++ [(q, e)])[ws.length]? = some (q, e) := by rw [List.getElem?_append_right (Nat.le_refl _), Nat.sub_self]; rfl
      have h3 := hD.1 j ws.length _ _ h1 h2 rfl
      omega
  refine ⟨fun b f => ⟨fun h => ?_, fun h => ?_⟩, hn⟩
  · by_cases hb : b = q
    · subst hb
      rw [va_up_self] at h
      cases h
      exact List.mem_append_right _ List.mem_cons_self
    · rw [va_up_ne _ _ hb] at h
      exact List.mem_append_left _ ((hw b f).mp h)
  · rcases List.mem_append.mp h with h' | h'
    · have h2 := (hw b f).mpr h'
      have hb : b ≠ q := by
        intro z
        rw [z, hn] at h2
        cases h2
      rw [va_up_ne _ _ hb]
      exact h2
    · have h1 := List.mem_singleton.mp h'
      cases h1
      exact va_up_self ..
theorem mm_blind {G : mm_G} {M : mm_M} {sz : Nat} (av : List Value) : FrameBlind (va_Pc av (mm_pre G M sz)) := by
  intro a U g mk q
  obtain ⟨q0, q1, q2, q3⟩ := q
  exact ⟨q0, q1, q2, mm_C.move (H := U.heap) (locs := []) q3 va_S.rf rfl (State.WarmedH.refl U) (fun _ h => h)⟩
/-- the frame: what was there stays, but at the addresses of L -/
def mm_fr (L : List Nat) (M M' : mm_M) : Prop := ∀ (q : Nat) (e : va_E), M q = some e → q ∉ L → M' q = some e
theorem mm_fr.rf {L : List Nat} {M : mm_M} : mm_fr L M M := fun _ _ h _ => h
theorem mm_fr.up {L : List Nat} {M M' : mm_M} (h : mm_fr L M M') {L' : List Nat} (hs : ∀ q, q ∈ L → q ∈ L') : mm_fr L' M M' := fun q e hq hn => h q e hq (fun z => hn (hs q z))
theorem mm_fr.tr {L1 L : List Nat} {M M1 M2 : mm_M} (h1 : mm_fr L M M1) (h2 : mm_fr L1 M1 M2) (s1 : ∀ q, q ∈ L1 → q ∈ L ∨ M q = none) : mm_fr L M M2 := fun q e hq hn => h2 q e (h1 q e hq hn) (fun z => (s1 q z).elim hn (fun y => by rw [hq] at y; cases y))
theorem mm_fr.none {L : List Nat} {M M1 : mm_M} (h : mm_fr L M M1) {q : Nat} (hq : M1 q = none) (hL : ∀ a, a ∈ L → M1 a ≠ none) : M q = none := by
  cases hc : M q with
  | none => rfl
  | some e =>
    by_cases hm : q ∈ L
    · exact absurd hq (hL q hm)
    · rw [h q e hc hm] at hq
      cases hq
theorem mm_o0 {M : mm_M} : ∀ a, a ∈ ([] : List Nat) → M a ≠ none := fun _ h => absurd h List.not_mem_nil
theorem mm_oc {M : mm_M} {a : Nat} {e : va_E} {L : List Nat} (h : M a = some e) (hL : ∀ x, x ∈ L → M x ≠ none) : ∀ x, x ∈ a :: L → M x ≠ none := fun x hx => (List.mem_cons.mp hx).elim (fun z => by rw [z, h]; exact fun y => by cases y) (hL x)
theorem mm_fr.at {L : List Nat} {M M' : mm_M} (h : mm_fr L M M') {b : Nat} {e : va_E} (hb : M b = some e) (hn : b ∉ L) : M' b = some e := h b e hb hn
theorem mm_fru {M : mm_M} {a : Nat} {e : va_E} : mm_fr [a] M (va_up M a (some e)) := fun q _ h hq => by
  rw [va_up_ne _ _ (fun z => hq (by rw [z]; exact List.mem_cons_self))]
  exact h
theorem mm_frn {M : mm_M} {a : Nat} {e : va_E} (hn : M a = none) : mm_fr [] M (va_up M a (some e)) := fun q _ h _ => by
  rw [va_up_ne _ _ (fun z => by rw [z, hn] at h; cases h)]
  exact h
theorem mm_n0 {a : Nat} : a ∉ ([] : List Nat) := List.not_mem_nil
theorem mm_nc {a b : Nat} {L : List Nat} (h : a ≠ b) (hL : a ∉ L) : a ∉ b :: L := fun z => (List.mem_cons.mp z).elim h hL
theorem mm_i0 {L : List Nat} {M : mm_M} : ∀ q, q ∈ ([] : List Nat) → q ∈ L ∨ M q = none := fun _ h => absurd h List.not_mem_nil
theorem mm_ic {a : Nat} {L1 L : List Nat} {M : mm_M} (k : Nat) (ha : L[k]? = some a) (h : ∀ q, q ∈ L1 → q ∈ L ∨ M q = none) : ∀ q, q ∈ a :: L1 → q ∈ L ∨ M q = none := fun q hq => (List.mem_cons.mp hq).elim (fun z => by rw [z]; exact Or.inl (List.mem_of_getElem? ha)) (h q)
theorem mm_in {a : Nat} {L1 L : List Nat} {M : mm_M} (ha : M a = none) (h : ∀ q, q ∈ L1 → q ∈ L ∨ M q = none) : ∀ q, q ∈ a :: L1 → q ∈ L ∨ M q = none := fun q hq => (List.mem_cons.mp hq).elim (fun z => by rw [z]; exact Or.inr ha) (h q)
theorem mm_neoi {M : mm_M} {a b : Nat} {x : Nat × List Value} {y : ClassId × vp_A} (ha : M a = some (.inr x)) (hb : M b = some (.inl y)) : a ≠ b := fun e => by rw [e, hb] at ha; cases ha
theorem mm_neoo {M : mm_M} {a b c d : Nat} {x y : List Value} (ha : M a = some (.inr (c, x))) (hb : M b = some (.inr (d, y))) (h : c ≠ d) : a ≠ b := fun e => by rw [e, hb] at ha; cases ha; exact h rfl
theorem mm_nelen {G : mm_G} {M : mm_M} {a b n k : Nat} {f g : Nat → Int32} (ha : M a = some (ia G n f)) (hb : M b = some (ia G k g)) (h : n ≠ k) : a ≠ b := fun e => by rw [e, hb] at ha; cases ha; exact h rfl
theorem mm_nenew {M : mm_M} {a b : Nat} {e : va_E} (ha : M a = some e) (hb : M b = none) : a ≠ b := fun z => by rw [z, hb] at ha; cases ha
end
section
section MMR
variable {p : Program} {l : Launch} {e : Env} {R : Room} {s : State} {m : MethodId} {args : Array Value} {below : List Frame} {meth : Method} {c : Code} {H : Heap} {locs : List Loc} {cells slots : Nat} {Q : State → Prop}
variable {cc : ByteArray} {pc nL : Nat} {ls : Array Slot} {rest : List Value} {G : mm_G} {A : Nat → Prop} {M : mm_M} {Ts : List Cond} {own : String}
theorem mm_get (S : CallFix p m c cc nL s args Ts own) (hC : mm_C G A s) (hR : mm_R G s A M H locs) {a ci N index : Nat} {C ref : String} {T : u_T} {fs : List Value} (k : Nat) {v : Value} (ha : M a = some (.inr (ci, fs))) (hin : ∀ w ∈ u_ws C T N, w ∈ Ts) (hc : vwCl[ci]? = some (C, T, N)) (hk : k < N) (hl : Cond.fieldLink own index ref (T k).2.1 (T k).2.2.1 ∈ Ts) (hsame : ∀ x, s.fieldFound? (T k).1 (T k).2.1 (T k).2.2.1 = some x → s.fieldFound? ref (T k).2.1 (T k).2.2.1 = some x) (hv : fs[k]? = some v) (hdg : decode cc pc = .ok (.getfield index, 3))
    (kk : W p l e R s m args below meth c H locs cells slots Q (F0 m (pc + 3) ls (v :: rest))) : W p l e R s m args below meth c H locs cells slots Q (F0 m pc ls (.ref a :: rest)) := by
  obtain ⟨⟨ws, hP, hD, hw⟩, hS⟩ := hR
  obtain ⟨j, hj⟩ := List.getElem?_of_mem ((hw _ _).mp ha)
  exact va_get S.1 S.2.1 S.2.2.2.2 hin S.2.2.2.1 hC.1 hP j hj hc k hk (S.2.2.2.2 _ hl) hsame hv hdg kk
theorem mm_put (S : CallFix p m c cc nL s args Ts own) (hC : mm_C G A s) (hR : mm_R G s A M H locs) {a ci N index : Nat} {C ref : String} {T : u_T} {fs : List Value} (k : Nat) {v : Value} (ha : M a = some (.inr (ci, fs))) (hin : ∀ w ∈ u_ws C T N, w ∈ Ts) (hc : vwCl[ci]? = some (C, T, N)) {ty0 : Nat → FieldType} (hty : ∀ k, k < N → parseFieldDescriptor (T k).2.2.1 = some (ty0 k)) (hnm : ∀ a, a < N → ∀ b, b < N → a ≠ b → (T a).2.1 ≠ (T b).2.1) (hk : k < N) (hl : Cond.fieldLink own index ref (T k).2.1 (T k).2.2.1 ∈ Ts) (hsame : ∀ x, s.fieldFound? (T k).1 (T k).2.1 (T k).2.2.1 = some x → s.fieldFound? ref (T k).2.1 (T k).2.2.1 = some x) (hfin : (T k).2.2.2 = false) (hn : narrow (ty0 k) v = v) (hfit : fits (ty0 k) v = true) (hlen : k < fs.length) (hdg : decode cc pc = .ok (.putfield index, 3))
    (kk : ∀ (H1 : Heap) (locs1 : List Loc), ∀ M1 : mm_M, M1 a = some (.inr (ci, fs.set k v)) → mm_fr [a] M M1 → mm_R G s A M1 H1 locs1 → W p l e R s m args below meth c H1 locs1 cells slots Q (F0 m (pc + 3) ls rest)) : W p l e R s m args below meth c H locs cells slots Q (F0 m pc ls (v :: .ref a :: rest)) := by
  obtain ⟨⟨ws, hP, hD, hw⟩, hS⟩ := hR
  obtain ⟨j, hj⟩ := List.getElem?_of_mem ((hw _ _).mp ha)
  exact va_put S.1 S.2.1 S.2.2.2.2 hin ty0 hty hnm S.2.2.2.1 hC.1 hP hD hS j hj hc k hk (S.2.2.2.2 _ hl) hsame hfin (hty k hk) hn hfit hlen hdg (fun H1 locs1 hP1 hD1 hS1 => kk H1 locs1 _ (va_up_self ..) mm_fru ⟨⟨_, hP1, hD1, mm_set hD hj hw⟩, hS1⟩)
theorem mm_putF (S : CallFix p m c cc nL s args Ts own) (hC : mm_C G A s) (hR : mm_R G s A M H locs) {a ci N index : Nat} {C ref : String} {T : u_T} {fs : List Value} (k : Nat) {v : Value} (ha : M a = some (.inr (ci, fs))) (hin : ∀ w ∈ u_ws C T N, w ∈ Ts) (hc : vwCl[ci]? = some (C, T, N)) {ty0 : Nat → FieldType} (hty : ∀ k, k < N → parseFieldDescriptor (T k).2.2.1 = some (ty0 k)) (hnm : ∀ a, a < N → ∀ b, b < N → a ≠ b → (T a).2.1 ≠ (T b).2.1) (hk : k < N) (hl : Cond.fieldLink own index ref (T k).2.1 (T k).2.2.1 ∈ Ts) (hsame : ∀ x, s.fieldFound? (T k).1 (T k).2.1 (T k).2.2.1 = some x → s.fieldFound? ref (T k).2.1 (T k).2.2.1 = some x) (hfin : (T k).2.2.2 = true) (hin2 : meth.name = "<init>") (hdecl : (T k).1 = own) (hn : narrow (ty0 k) v = v) (hfit : fits (ty0 k) v = true) (hlen : k < fs.length) (hdg : decode cc pc = .ok (.putfield index, 3))
    (kk : ∀ (H1 : Heap) (locs1 : List Loc), ∀ M1 : mm_M, M1 a = some (.inr (ci, fs.set k v)) → mm_fr [a] M M1 → mm_R G s A M1 H1 locs1 → W p l e R s m args below meth c H1 locs1 cells slots Q (F0 m (pc + 3) ls rest)) : W p l e R s m args below meth c H locs cells slots Q (F0 m pc ls (v :: .ref a :: rest)) := by
  obtain ⟨⟨ws, hP, hD, hw⟩, hS⟩ := hR
  obtain ⟨j, hj⟩ := List.getElem?_of_mem ((hw _ _).mp ha)
  exact va_putF S.1 S.2.1 S.2.2.2.2 hin ty0 hty hnm S.2.2.2.1 hC.1 hP hD hS j hj hc k hk (S.2.2.2.2 _ hl) hsame hfin hin2 hdecl (hty k hk) hn hfit hlen hdg (fun H1 locs1 hP1 hD1 hS1 => kk H1 locs1 _ (va_up_self ..) mm_fru ⟨⟨_, hP1, hD1, mm_set hD hj hw⟩, hS1⟩)
theorem mm_iald (S : CallFix p m c cc nL s args Ts own) (hC : mm_C G A s) (hR : mm_R G s A M H locs) {a n : Nat} {f : Nat → Int32} (ha : M a = some (ia G n f)) {j : Nat} (hj : j < n) (hn : n < 2 ^ 31) (hdg : decode cc pc = .ok (.iaload, 1))
    (kk : W p l e R s m args below meth c H locs cells slots Q (F0 m (pc + 1) ls (.int (f j) :: rest))) : W p l e R s m args below meth c H locs cells slots Q (F0 m pc ls (.int (nI j) :: .ref a :: rest)) := by
  obtain ⟨⟨ws, hP, hD, hw⟩, hS⟩ := hR
  obtain ⟨i, hi⟩ := List.getElem?_of_mem ((hw _ _).mp ha)
  refine va_iald S.1 S.2.1 hC.1 hP i 0 hi rfl (vp_in_nI hj hn) hdg ?_
  rw [nI_clamp (Nat.lt_trans hj hn)]
  exact kk
theorem mm_iast (S : CallFix p m c cc nL s args Ts own) (hC : mm_C G A s) (hR : mm_R G s A M H locs) {a n : Nat} {f : Nat → Int32} (ha : M a = some (ia G n f)) {j : Nat} {x : Int32} (hj : j < n) (hn : n < 2 ^ 31) (hdg : decode cc pc = .ok (.iastore, 1))
    (kk : ∀ (H1 : Heap) (locs1 : List Loc), ∀ M1 : mm_M, M1 a = some (ia G n (upd f j x)) → mm_fr [a] M M1 → mm_R G s A M1 H1 locs1 → W p l e R s m args below meth c H1 locs1 cells slots Q (F0 m (pc + 1) ls rest)) : W p l e R s m args below meth c H locs cells slots Q (F0 m pc ls (.int x :: .int (nI j) :: .ref a :: rest)) := by
  obtain ⟨⟨ws, hP, hD, hw⟩, hS⟩ := hR
  obtain ⟨i, hi⟩ := List.getElem?_of_mem ((hw _ _).mp ha)
  refine va_iast S.1 S.2.1 hC.1 hP hD hS i 0 hi rfl (vp_in_nI hj hn) hdg (fun H1 locs1 hP1 hD1 hS1 => ?_)
  rw [nI_clamp (Nat.lt_trans hj hn)] at hP1 hD1
  exact kk H1 locs1 _ (va_up_self ..) mm_fru ⟨⟨_, hP1, hD1, mm_set hD hi hw⟩, hS1⟩
theorem mm_ilen (S : CallFix p m c cc nL s args Ts own) (hC : mm_C G A s) (hR : mm_R G s A M H locs) {a n : Nat} {f : Nat → Int32} (ha : M a = some (ia G n f)) (hdg : decode cc pc = .ok (.arraylength, 1))
    (kk : W p l e R s m args below meth c H locs cells slots Q (F0 m (pc + 1) ls (.int (nI n) :: rest))) : W p l e R s m args below meth c H locs cells slots Q (F0 m pc ls (.ref a :: rest)) := by
  obtain ⟨⟨ws, hP, hD, hw⟩, hS⟩ := hR
  obtain ⟨i, hi⟩ := List.getElem?_of_mem ((hw _ _).mp ha)
  exact va_alen S.1 S.2.1 hC.1 hP i 0 hi rfl rfl hdg kk
theorem mm_olen (S : CallFix p m c cc nL s args Ts own) (hC : mm_C G A s) (hR : mm_R G s A M H locs) {a n : Nat} {f : Nat → Option Nat} (ha : M a = some (oa G n f)) (hdg : decode cc pc = .ok (.arraylength, 1))
    (kk : W p l e R s m args below meth c H locs cells slots Q (F0 m (pc + 1) ls (.int (nI n) :: rest))) : W p l e R s m args below meth c H locs cells slots Q (F0 m pc ls (.ref a :: rest)) := by
  obtain ⟨⟨ws, hP, hD, hw⟩, hS⟩ := hR
  obtain ⟨i, hi⟩ := List.getElem?_of_mem ((hw _ _).mp ha)
  exact va_alen S.1 S.2.1 hC.1 hP i 2 hi rfl rfl hdg kk
theorem mm_sald (S : CallFix p m c cc nL s args Ts own) (hC : mm_C G A s) (hR : mm_R G s A M H locs) {a n : Nat} {f : Nat → Option Nat} (ha : M a = some (sa G n f)) {j : Nat} (hj : j < n) (hn : n < 2 ^ 31) {v : Value} (hv : va_rf (f j) = v) (hdg : decode cc pc = .ok (.aaload, 1))
    (kk : W p l e R s m args below meth c H locs cells slots Q (F0 m (pc + 1) ls (v :: rest))) : W p l e R s m args below meth c H locs cells slots Q (F0 m pc ls (.int (nI j) :: .ref a :: rest)) := by
  obtain ⟨⟨ws, hP, hD, hw⟩, hS⟩ := hR
  obtain ⟨i, hi⟩ := List.getElem?_of_mem ((hw _ _).mp ha)
  refine va_aldq S.1 S.2.1 hC.1 hP i 1 hi rfl (vp_in_nI hj hn) hdg ?_
  rw [nI_clamp (Nat.lt_trans hj hn), hv]
  exact kk
theorem mm_oald (S : CallFix p m c cc nL s args Ts own) (hC : mm_C G A s) (hR : mm_R G s A M H locs) {a n : Nat} {f : Nat → Option Nat} (ha : M a = some (oa G n f)) {j : Nat} (hj : j < n) (hn : n < 2 ^ 31) {v : Value} (hv : va_rf (f j) = v) (hdg : decode cc pc = .ok (.aaload, 1))
    (kk : W p l e R s m args below meth c H locs cells slots Q (F0 m (pc + 1) ls (v :: rest))) : W p l e R s m args below meth c H locs cells slots Q (F0 m pc ls (.int (nI j) :: .ref a :: rest)) := by
  obtain ⟨⟨ws, hP, hD, hw⟩, hS⟩ := hR
  obtain ⟨i, hi⟩ := List.getElem?_of_mem ((hw _ _).mp ha)
  refine va_aldq S.1 S.2.1 hC.1 hP i 2 hi rfl (vp_in_nI hj hn) hdg ?_
  rw [nI_clamp (Nat.lt_trans hj hn), hv]
  exact kk
/-- a Statement into an array of them -/
theorem mm_sast (S : CallFix p m c cc nL s args Ts own) (hC : mm_C G A s) (hR : mm_R G s A M H locs) {a n : Nat} {f : Nat → Option Nat} (ha : M a = some (sa G n f)) {v : Nat} {fs : List Value} (hv : M v = some (ob 6 fs)) {j : Nat} (hj : j < n) (hn : n < 2 ^ 31) (hdg : decode cc pc = .ok (.aastore, 1))
    (kk : ∀ (H1 : Heap) (locs1 : List Loc), ∀ M1 : mm_M, M1 a = some (sa G n (va_up f j (some v))) → mm_fr [a] M M1 → mm_R G s A M1 H1 locs1 → W p l e R s m args below meth c H1 locs1 cells slots Q (F0 m (pc + 1) ls rest)) : W p l e R s m args below meth c H locs cells slots Q (F0 m pc ls (.ref v :: .int (nI j) :: .ref a :: rest)) := by
  obtain ⟨⟨ws, hP, hD, hw⟩, hS⟩ := hR
  obtain ⟨i, hi⟩ := List.getElem?_of_mem ((hw _ _).mp ha)
  obtain ⟨i2, hi2⟩ := List.getElem?_of_mem ((hw _ _).mp hv)
  refine va_astq (r := (RX5, TX5, 1)) S.1 S.2.1 hC.1 hP hD hS i 1 i2 6 hi rfl hi2 rfl (vp_in_nI hj hn) hdg (fun H1 locs1 hP1 hD1 hS1 => ?_)
  rw [nI_clamp (Nat.lt_trans hj hn)] at hP1 hD1
  exact kk H1 locs1 _ (va_up_self ..) mm_fru ⟨⟨_, hP1, hD1, mm_set hD hi hw⟩, hS1⟩
theorem mm_newi (S : CallFix p m c cc nL s args Ts own) (hC : mm_C G A s) (hA : ∀ q, s.heap.size ≤ q → A q) (hR : mm_R G s A M H locs) (harr : Cond.arrayClass (newarray.typeOf .int) ∈ Ts) {n : Nat} (hn : n ≤ 134217728) (hcells : cells + 1 ≤ R.cells) (hslots : slots + n ≤ R.slots) (hdg : decode cc pc = .ok (.newarray .int, 2))
    (kk : ∀ (q : Nat) (H1 : Heap), ∀ M1 : mm_M, M q = none → M1 q = some (ia G n (fun _ => 0)) → mm_fr [] M M1 → mm_R G s A M1 H1 locs → W p l e R s m args below meth c H1 locs (cells + 1) (slots + n) Q (F0 m (pc + 2) ls (.ref q :: rest))) : W p l e R s m args below meth c H locs cells slots Q (F0 m pc ls (.int (nI n) :: rest)) := by
  obtain ⟨⟨ws, hP, hD, hw⟩, hS⟩ := hR
  refine va_newa (ty := .int) (a0 := (n, .inl (fun _ => 0))) S.1 S.2.1 (S.2.2.2.2 _ harr) rfl hC.1 hP hD hS hA (fun cA => rfl) (nI_pos (by omega)) (nI_clamp (by omega)) (by show n * 4 ≤ _; omega) hcells hslots hdg (fun q cA H1 hK1 hP1 hD1 hS1 => ?_)
  have h1 := (hK1.2 3 (cA, .int) rfl).2
  have h2 := (hC.1.2 0 (G.2.1.1, .int) rfl).2
  have e : cA = G.2.1.1 := Option.some.inj (h1.symm.trans h2)
  subst e
  exact kk q H1 _ (mm_push hD1 hw).2 (va_up_self ..) (mm_frn (mm_push hD1 hw).2) ⟨⟨_, hP1, hD1, (mm_push hD1 hw).1⟩, hS1⟩
theorem mm_new (S : CallFix p m c cc nL s args Ts own) (hC : mm_C G A s) (hA : ∀ q, s.heap.size ≤ q → A q) (hR : mm_R G s A M H locs) {ci N index : Nat} {C : String} {T : u_T} {fs : List Value} (hin : ∀ w ∈ u_ws C T N, w ∈ Ts) (hc : vwCl[ci]? = some (C, T, N)) {ty0 : Nat → FieldType} (hty : ∀ k, k < N → parseFieldDescriptor (T k).2.2.1 = some (ty0 k)) (hcl : Cond.classLink own index C ∈ Ts) (hinst : Cond.instantiable C N ∈ Ts) (hini : Cond.initialized C ∈ Ts) (hfs : ∀ j, j < N → defaultValue (ty0 j) = vp_V fs j) (hcells : cells + 1 ≤ R.cells) (hslots : slots + N ≤ R.slots) (hdg : decode cc pc = .ok (.new index, 3))
    (kk : ∀ (q : Nat) (H1 : Heap), ∀ M1 : mm_M, M q = none → M1 q = some (.inr (ci, fs)) → mm_fr [] M M1 → mm_R G s A M1 H1 locs → W p l e R s m args below meth c H1 locs (cells + 1) (slots + N) Q (F0 m (pc + 3) ls (.ref q :: rest))) : W p l e R s m args below meth c H locs cells slots Q (F0 m pc ls rest) := by
  obtain ⟨⟨ws, hP, hD, hw⟩, hS⟩ := hR
  exact va_new S.1 S.2.1 S.2.2.2.2 hin ty0 hty S.2.2.2.1 (S.2.2.2.2 _ hcl) (S.2.2.2.2 _ hinst) (S.2.2.2.2 _ hini) hC.1 hP hD hS hA hc hfs hcells hslots hdg (fun q H1 hP1 hD1 hS1 => kk q H1 _ (mm_push hD1 hw).2 (va_up_self ..) (mm_frn (mm_push hD1 hw).2) ⟨⟨_, hP1, hD1, (mm_push hD1 hw).1⟩, hS1⟩)
theorem mm_copy (S : CallFix p m c cc nL s args Ts own) (hC : mm_C G A s) (hR : mm_R G s A M H locs) (hls : ls.size = nL) {a0 a1 n0 n1 index : Nat} {f g : Nat → Int32} (ha0 : M a0 = some (ia G n0 f)) (ha1 : M a1 = some (ia G n1 g)) (hl : Cond.methodLink own index arraycopyName ∈ Ts) (hnat : Cond.native arraycopyName ∈ Ts) (hstat : Cond.static arraycopyName ∈ Ts) (hini : Cond.initialized "java/lang/System" ∈ Ts)
    {sp dp n : Nat} (h4 : sp + n ≤ n0) (h5 : dp + n ≤ n1) (hb0 : n0 < 2 ^ 31) (hb1 : n1 < 2 ^ 31) (hframes : 1 ≤ R.frames) (hlocals : (rest.map fun v => v.category).sum + (nativeFrameWords "java/lang/System" "arraycopy" 5 + 11) ≤ R.locals) (hdg : decode cc pc = .ok (.invokestatic index, 3))
    (kk : ∀ (H1 : Heap) (locs1 : List Loc), ∀ M1 : mm_M, M1 a1 = some (ia G n1 (va_cpy f g sp dp n)) → mm_fr [a1] M M1 → mm_R G s A M1 H1 locs1 → W p l e R s m args below meth c H1 locs1 cells slots Q (F0 m (pc + 3) ls rest)) : W p l e R s m args below meth c H locs cells slots Q (F0 m pc ls (.int (nI n) :: .int (nI dp) :: .ref a1 :: .int (nI sp) :: .ref a0 :: rest)) := by
  obtain ⟨⟨ws, hP, hD, hw⟩, hS⟩ := hR
  obtain ⟨i0, hi0⟩ := List.getElem?_of_mem ((hw _ _).mp ha0)
  obtain ⟨i1, hi1⟩ := List.getElem?_of_mem ((hw _ _).mp ha1)
  have e1 : (nI sp).toNatClampNeg = sp := nI_clamp (by omega)
  have e2 : (nI dp).toNatClampNeg = dp := nI_clamp (by omega)
  have e3 : (nI n).toNatClampNeg = n := nI_clamp (by omega)
  refine va_copyi S.1 S.2.1 (by rw [hls]; exact S.2.2.1) S.2.2.2.1 (S.2.2.2.2 _ hl) (S.2.2.2.2 _ hnat) (S.2.2.2.2 _ hstat) (S.2.2.2.2 _ hini) hC.1 hP hD hS i0 i1 0 0 hi0 hi1 rfl rfl rfl (nI_pos (by omega)) (nI_pos (by omega)) (nI_pos (by omega)) (by rw [e1, e3]; exact h4) (by rw [e2, e3]; exact h5) (fun _ _ => rfl) hframes hlocals hdg (fun H1 locs1 hP1 hD1 hS1 => ?_)
  rw [e1, e2, e3] at hP1 hD1
  exact kk H1 locs1 _ (va_up_self ..) mm_fru ⟨⟨_, hP1, hD1, mm_set hD hi1 hw⟩, hS1⟩
theorem mm_eqi {x y : Int32} (h : x = y) (kk : W p l e R s m args below meth c H locs cells slots Q (F0 m pc ls (.int y :: rest))) : W p l e R s m args below meth c H locs cells slots Q (F0 m pc ls (.int x :: rest)) := h ▸ kk
theorem mm_eql {x y : Int64} (h : x = y) (kk : W p l e R s m args below meth c H locs cells slots Q (F0 m pc ls (.long y :: rest))) : W p l e R s m args below meth c H locs cells slots Q (F0 m pc ls (.long x :: rest)) := h ▸ kk
theorem mm_preS (hC : mm_C G A s) (hA : ∀ q, s.heap.size ≤ q → A q) (hR : mm_R G s A M H locs) (As : List Value) : PreS s H (va_Pc As (mm_pre G M H.size)) As :=
  ⟨mm_blind As, fun U hU hW => ⟨rfl, by rw [hU], by rw [hU]; exact hR.1.weaken (fun _ _ => trivial), hC.move hR.2 hU hW (hR.sub hA)⟩⟩
theorem mm_preV (hC : mm_C G A s) (hA : ∀ q, s.heap.size ≤ q → A q) (hR : mm_R G s A M H locs) (As : List Value) {b ci : Nat} {q : vw_C} {fs : List Value} (hb : M b = some (.inr (ci, fs))) (hc : vwCl[ci]? = some q) : PreV s H q.1 b (va_Pc (.ref b :: As) (mm_pre G M H.size)) As := by
  refine ⟨mm_blind _, ?_, fun U hU hW => ⟨rfl, by rw [hU], by rw [hU]; exact hR.1.weaken (fun _ _ => trivial), hC.move hR.2 hU hW (hR.sub hA)⟩⟩
  obtain ⟨⟨ws, hP, hD, hw⟩, hS⟩ := hR
  obtain ⟨j, hj⟩ := List.getElem?_of_mem ((hw _ _).mp hb)
  exact va_recv hC.1 hP hc hj
variable {mc ms : Nat} {st0 : List Value} {a : Array Value}
theorem mm_callv {post : mm_M → Prop} (hA : ∀ q, s.heap.size ≤ q → A q) (hR : mm_R G s A M H locs) (hr : va_Run p l e R s m args below meth c H locs cells slots mc ms (F0 m pc ls st0) rest (va_Qv post (fun M' t => mm_H G (mm_A M H.size) M' t.heap) (mm_A M H.size) a) (mm_A M H.size))
    (kk : ∀ (M' : mm_M) (H1 : Heap) (locs1 : List Loc), post M' → mm_R G s A M' H1 locs1 → W p l e R s m args below meth c H1 locs1 (cells + mc) (slots + ms) Q (F0 m (pc + 3) ls rest)) : W p l e R s m args below meth c H locs cells slots Q (F0 m pc ls st0) :=
  va_callv hr hR.2 (fun q _ h => hR.sub hA q h) (hR.sub hA) (fun u t H1 locs1 ht _ hw hB _ _ hS => kk u H1 locs1 hw ⟨(ht ▸ hB).weaken (hR.sub hA), hS⟩)
theorem mm_calli {post : Int32 → mm_M → Prop} (hA : ∀ q, s.heap.size ≤ q → A q) (hR : mm_R G s A M H locs) (hr : va_Run p l e R s m args below meth c H locs cells slots mc ms (F0 m pc ls st0) rest (va_Qi post (fun M' t => mm_H G (mm_A M H.size) M' t.heap) (mm_A M H.size) a) (mm_A M H.size))
    (kk : ∀ (r : Int32) (M' : mm_M) (H1 : Heap) (locs1 : List Loc), post r M' → mm_R G s A M' H1 locs1 → W p l e R s m args below meth c H1 locs1 (cells + mc) (slots + ms) Q (F0 m (pc + 3) ls (.int r :: rest))) : W p l e R s m args below meth c H locs cells slots Q (F0 m pc ls st0) :=
  va_calli hr hR.2 (fun q _ h => hR.sub hA q h) (hR.sub hA) (fun r u t H1 locs1 ht _ hw hB _ _ hS => kk r u H1 locs1 hw ⟨(ht ▸ hB).weaken (hR.sub hA), hS⟩)
theorem mm_calll {post : Int64 → mm_M → Prop} (hA : ∀ q, s.heap.size ≤ q → A q) (hR : mm_R G s A M H locs) (hr : va_Run p l e R s m args below meth c H locs cells slots mc ms (F0 m pc ls st0) rest (va_Ql post (fun M' t => mm_H G (mm_A M H.size) M' t.heap) (mm_A M H.size) a) (mm_A M H.size))
    (kk : ∀ (r : Int64) (M' : mm_M) (H1 : Heap) (locs1 : List Loc), post r M' → mm_R G s A M' H1 locs1 → W p l e R s m args below meth c H1 locs1 (cells + mc) (slots + ms) Q (F0 m (pc + 3) ls (.long r :: rest))) : W p l e R s m args below meth c H locs cells slots Q (F0 m pc ls st0) :=
  va_calll hr hR.2 (fun q _ h => hR.sub hA q h) (hR.sub hA) (fun r u t H1 locs1 ht _ hw hB _ _ hS => kk r u H1 locs1 hw ⟨(ht ▸ hB).weaken (hR.sub hA), hS⟩)
theorem mm_callq {post : Option Nat → mm_M → Prop} (hA : ∀ q, s.heap.size ≤ q → A q) (hR : mm_R G s A M H locs) (hr : va_Run p l e R s m args below meth c H locs cells slots mc ms (F0 m pc ls st0) rest (va_Qq post (fun M' t => mm_H G (mm_A M H.size) M' t.heap) (mm_A M H.size) a) (mm_A M H.size))
    (kk : ∀ (r : Option Nat) (M' : mm_M) (H1 : Heap) (locs1 : List Loc), post r M' → mm_R G s A M' H1 locs1 → W p l e R s m args below meth c H1 locs1 (cells + mc) (slots + ms) Q (F0 m (pc + 3) ls (va_rf r :: rest))) : W p l e R s m args below meth c H locs cells slots Q (F0 m pc ls st0) :=
  va_callq hr hR.2 (fun q _ h => hR.sub hA q h) (hR.sub hA) (fun r u t H1 locs1 ht _ hw hB _ _ hS => kk r u H1 locs1 hw ⟨(ht ▸ hB).weaken (hR.sub hA), hS⟩)
theorem mm_vret {post : mm_M → Prop} (S : CallFix p m c cc nL s args Ts own) (hr : meth.sig.returnType = none) (hlocks : meth.locks = false) (hR : mm_R G s A M H locs) (hp : post M) (hdg : decode cc pc = .ok (.return_, 1)) : W p l e R s m args below meth c H locs cells slots (MQ below (va_Qv post (fun M' t => mm_H G A M' t.heap) A) args s cells slots A) (F0 m pc ls []) :=
  W.vret S.1 S.2.1 hr (fun t ht hW => ⟨⟨M, rfl, hp, by show mm_H G A M t.heap; rw [ht]; exact hR.1⟩, hR.2.F ht⟩) hR.2.2.2 hdg hlocks
theorem mm_iret {post : Int32 → mm_M → Prop} {v : Int32} (S : CallFix p m c cc nL s args Ts own) (hr : meth.sig.returnType = some .int) (hlocks : meth.locks = false) (hR : mm_R G s A M H locs) (hp : post v M) (hdg : decode cc pc = .ok (.ireturn, 1)) : W p l e R s m args below meth c H locs cells slots (MQ below (va_Qi post (fun M' t => mm_H G A M' t.heap) A) args s cells slots A) (F0 m pc ls [.int v]) :=
  W.iret S.1 S.2.1 hr (fun t ht hW => ⟨⟨v, M, rfl, hp, by show mm_H G A M t.heap; rw [ht]; exact hR.1⟩, hR.2.F ht⟩) hR.2.2.2 hdg hlocks
theorem mm_zret {post : Int32 → mm_M → Prop} {v : Int32} (S : CallFix p m c cc nL s args Ts own) (hr : meth.sig.returnType = some .boolean) (hlocks : meth.locks = false) (hv : narrow .boolean (.int v) = .int v) (hR : mm_R G s A M H locs) (hp : post v M) (hdg : decode cc pc = .ok (.ireturn, 1)) : W p l e R s m args below meth c H locs cells slots (MQ below (va_Qi post (fun M' t => mm_H G A M' t.heap) A) args s cells slots A) (F0 m pc ls [.int v]) :=
  W.zret S.1 S.2.1 hr hv (fun t ht hW => ⟨⟨v, M, rfl, hp, by show mm_H G A M t.heap; rw [ht]; exact hR.1⟩, hR.2.F ht⟩) hR.2.2.2 hdg hlocks
theorem mm_lret {post : Int64 → mm_M → Prop} {v : Int64} (S : CallFix p m c cc nL s args Ts own) (hr : meth.sig.returnType = some .long) (hlocks : meth.locks = false) (hR : mm_R G s A M H locs) (hp : post v M) (hdg : decode cc pc = .ok (.lreturn, 1)) : W p l e R s m args below meth c H locs cells slots (MQ below (va_Ql post (fun M' t => mm_H G A M' t.heap) A) args s cells slots A) (F0 m pc ls [.long v]) :=
  W.lret S.1 S.2.1 hr (fun t ht hW => ⟨⟨v, M, rfl, hp, by show mm_H G A M t.heap; rw [ht]; exact hR.1⟩, hR.2.F ht⟩) hR.2.2.2 hdg hlocks
theorem mm_aret {post : Option Nat → mm_M → Prop} {v : Option Nat} {rt : FieldType} (S : CallFix p m c cc nL s args Ts own) (hr : meth.sig.returnType = some rt) (hrt : (∃ n, rt = .object n) ∨ ∃ t, rt = .array t) (hlocks : meth.locks = false) (hR : mm_R G s A M H locs) (hp : post v M) (hdg : decode cc pc = .ok (.areturn, 1)) : W p l e R s m args below meth c H locs cells slots (MQ below (va_Qq post (fun M' t => mm_H G A M' t.heap) A) args s cells slots A) (F0 m pc ls [va_rf v]) :=
  W.aret S.1 S.2.1 hr hrt (va_rf_or v) (fun t ht hW => ⟨⟨v, M, rfl, hp, by show mm_H G A M t.heap; rw [ht]; exact hR.1⟩, hR.2.F ht⟩) hR.2.2.2 hdg hlocks
end MMR
/-- a contract, entered -/
theorem mm_enter {l : Launch} {y : MethodName} {ws ws' : List Cond} {rm : Room} {Qc : Array Value → State → Outcome → State → Prop} {mc ms : Nat} {cc : ByteArray} {maxL : Nat} {ret : Option FieldType} {G : mm_G} {M : mm_M} {sz : Nat} (av : List Value)
    (hy : plainFor y = true) (hw : ws = Cond.code y cc maxL ret :: ws') (hlen : (lg_sl av).length ≤ maxL)
    (body : ∀ (p : Program) (e : Env) (s : State) (m : MethodId) (below : List Frame) (meth : Method) (c : Code) (ls : Array Slot), CallFix p m c cc maxL s av.toArray ws y.cls → meth.sig.returnType = ret → meth.locks = false → meth.name = y.name → (∀ q, s.heap.size ≤ q → mm_A M sz q) → mm_C G (mm_A M sz) s → mm_R G s (mm_A M sz) M s.heap [] → lv_has ls maxL (lv_args 0 av) →
      W p l e rm s m av.toArray below meth c s.heap [] 0 0 (MQ below Qc av.toArray s mc ms (mm_A M sz)) (F0 m 0 ls [])) : Met l y ws rm (va_Pc av (mm_pre G M sz)) Qc mc ms (mm_A M sz) := by
  refine va_MetF (cc := cc) (maxL := maxL) (ret := ret) hy hw ?_
  intro p e s m args below meth c s₁ B hml hv
  obtain ⟨rfl, hsz, hH, hC⟩ := hv
  subst hsz
  rw [lg_entry_eq]
  refine body p e s m below meth c _ ⟨B.exec, B.bytes, hml, findClass_of_methodNamed B.named, atoms_spec (ws := ws) B.pre⟩ B.returns B.notSynchronized (name_of_methodNamed B.named B.method).1 (fun q h => Or.inr h) hC ⟨?_, va_S.rf⟩ (lv_entry av hlen)
  obtain ⟨ws', h1, h2, h3⟩ := hH
  exact ⟨ws', h1, ⟨h2.1, fun k q hk => Or.inl (by rw [(h3 q.1 q.2).mpr (List.mem_of_getElem? hk)]; exact fun h => by cases h)⟩, h3⟩
/-- contracts: what comes back, and the memory behind it -/
abbrev mm_v (l : Launch) (y : MethodName) (ws : List Cond) (rm : Room) (G : mm_G) (av : List Value) (M : mm_M) (sz : Nat) (post : mm_M → Prop) : Prop := Met l y ws rm (va_Pc av (mm_pre G M sz)) (va_Qv post (fun M' t => mm_H G (mm_A M sz) M' t.heap) (mm_A M sz)) rm.cells rm.slots (mm_A M sz)
abbrev mm_i (l : Launch) (y : MethodName) (ws : List Cond) (rm : Room) (G : mm_G) (av : List Value) (M : mm_M) (sz : Nat) (post : Int32 → mm_M → Prop) : Prop := Met l y ws rm (va_Pc av (mm_pre G M sz)) (va_Qi post (fun M' t => mm_H G (mm_A M sz) M' t.heap) (mm_A M sz)) rm.cells rm.slots (mm_A M sz)
abbrev mm_l (l : Launch) (y : MethodName) (ws : List Cond) (rm : Room) (G : mm_G) (av : List Value) (M : mm_M) (sz : Nat) (post : Int64 → mm_M → Prop) : Prop := Met l y ws rm (va_Pc av (mm_pre G M sz)) (va_Ql post (fun M' t => mm_H G (mm_A M sz) M' t.heap) (mm_A M sz)) rm.cells rm.slots (mm_A M sz)
abbrev mm_q (l : Launch) (y : MethodName) (ws : List Cond) (rm : Room) (G : mm_G) (av : List Value) (M : mm_M) (sz : Nat) (post : Option Nat → mm_M → Prop) : Prop := Met l y ws rm (va_Pc av (mm_pre G M sz)) (va_Qq post (fun M' t => mm_H G (mm_A M sz) M' t.heap) (mm_A M sz)) rm.cells rm.slots (mm_A M sz)
theorem mm_dec {a c : Nat} (h : c ≤ a) : nI a + -(nI c) = nI (a - c) := by rw [← Int32.sub_eq_add_neg]; exact pk_sub h
section MMT
variable {p : Program} {l : Launch} {e : Env} {R : Room} {s : State} {m : MethodId} {args : Array Value} {below : List Frame} {meth : Method} {c : Code} {H : Heap} {locs : List Loc} {cells slots : Nat} {Q : State → Prop}
variable {cc : ByteArray} {pc nL : Nat} {ls : Array Slot} {rest : List Value} {G : mm_G} {A : Nat → Prop} {M : mm_M} {Ts : List Cond} {own : String}
theorem mm_gstart (S : CallFix p m c cc nL s args Ts own) (hC : mm_C G A s) (hR : mm_R G s A M H locs) {index : Nat} (hl : Cond.fieldLink own index RX4 "START" "[I" ∈ Ts) (hdg : decode cc pc = .ok (.getstatic index, 3))
    (kk : W p l e R s m args below meth c H locs cells slots Q (F0 m (pc + 3) ls (.ref G.2.2.1 :: rest))) : W p l e R s m args below meth c H locs cells slots Q (F0 m pc ls rest) :=
  va_gets S.1 S.2.1 hC.2.1.1 hR.2 S.2.2.2.1 (S.2.2.2.2 _ hl) (fun _ h => h) hdg kk
theorem mm_ground (S : CallFix p m c cc nL s args Ts own) (hC : mm_C G A s) (hR : mm_R G s A M H locs) {index : Nat} (hl : Cond.fieldLink own index RX4 "ROUND" "[I" ∈ Ts) (hdg : decode cc pc = .ok (.getstatic index, 3))
    (kk : W p l e R s m args below meth c H locs cells slots Q (F0 m (pc + 3) ls (.ref G.2.2.2.1 :: rest))) : W p l e R s m args below meth c H locs cells slots Q (F0 m pc ls rest) :=
  va_gets S.1 S.2.1 hC.2.2.1.1 hR.2 S.2.2.2.1 (S.2.2.2.2 _ hl) (fun _ h => h) hdg kk
theorem mm_tround (S : CallFix p m c cc nL s args Ts own) (hC : mm_C G A s) (hR : mm_R G s A M H locs) {j : Nat} (hj : j < 64) (hdg : decode cc pc = .ok (.iaload, 1))
    (kk : W p l e R s m args below meth c H locs cells slots Q (F0 m (pc + 1) ls (.int (k_round j) :: rest))) : W p l e R s m args below meth c H locs cells slots Q (F0 m pc ls (.int (nI j) :: .ref G.2.2.2.1 :: rest)) :=
  va_ti S.1 S.2.1 hC.2.2.1.2 hR.2 (vp_in_nI hj (by decide)) (by show Value.int (k_round (nI j).toNatClampNeg) = _; rw [nI_clamp (by omega)]) hdg kk
theorem mm_lstart (S : CallFix p m c cc nL s args Ts own) (hC : mm_C G A s) (hR : mm_R G s A M H locs) (hdg : decode cc pc = .ok (.arraylength, 1))
    (kk : W p l e R s m args below meth c H locs cells slots Q (F0 m (pc + 1) ls (.int (nI 8) :: rest))) : W p l e R s m args below meth c H locs cells slots Q (F0 m pc ls (.ref G.2.2.1 :: rest)) :=
  va_tlen S.1 S.2.1 hC.2.1.2 hR.2 rfl hdg kk
end MMT
end
section
section MMS
variable {p : Program} {l : Launch} {e : Env} {R : Room} {s : State} {m : MethodId} {args : Array Value} {below : List Frame} {meth : Method} {c : Code} {H : Heap} {locs : List Loc} {cells slots : Nat} {Q : State → Prop}
variable {cc : ByteArray} {pc nL : Nat} {ls : Array Slot} {rest : List Value} {G : mm_G} {A : Nat → Prop} {M : mm_M} {Ts : List Cond} {own : String}
/-- the eight numbers that a digest begins with, out of their table -/
theorem mm_copyS (S : CallFix p m c cc nL s args Ts own) (hC : mm_C G A s) (hR : mm_R G s A M H locs) (hls : ls.size = nL) {a index : Nat} {g : Nat → Int32} (ha : M a = some (ia G 8 g)) (hl : Cond.methodLink own index arraycopyName ∈ Ts) (hnat : Cond.native arraycopyName ∈ Ts) (hstat : Cond.static arraycopyName ∈ Ts) (hini : Cond.initialized "java/lang/System" ∈ Ts)
    (hframes : 1 ≤ R.frames) (hlocals : (rest.map fun v => v.category).sum + (nativeFrameWords "java/lang/System" "arraycopy" 5 + 11) ≤ R.locals) (hdg : decode cc pc = .ok (.invokestatic index, 3))
    (kk : ∀ (H1 : Heap) (locs1 : List Loc) (M1 : mm_M), M1 a = some (ia G 8 (va_cpy k_begin g 0 0 8)) → mm_fr [a] M M1 → mm_R G s A M1 H1 locs1 → W p l e R s m args below meth c H1 locs1 cells slots Q (F0 m (pc + 3) ls rest)) : W p l e R s m args below meth c H locs cells slots Q (F0 m pc ls (.int (nI 8) :: .int (nI 0) :: .ref a :: .int (nI 0) :: .ref G.2.2.1 :: rest)) := by
  obtain ⟨⟨ws, hP, hD, hw⟩, hS⟩ := hR
  obtain ⟨i, hi⟩ := List.getElem?_of_mem ((hw _ _).mp ha)
  obtain ⟨tab, t1, ⟨t2, kS, hkS, cmS, hkkS⟩, t3, t4, t5, t6, t7⟩ := hC.2.1.2
  have c0 : H[G.2.2.1]? = some tab := by rw [hS.2.1 _ (Array.getElem?_eq_some_iff.mp t1).1 t7]; exact t1
  have c1 : H[a]? = some (vp_cell G.2.1.1 (8, .inl g)) := hP i _ hi
  obtain ⟨-, kD, hkD, cmD, hkkD⟩ := (hC.1.2 0 _ rfl).1 8 (fun j => .int (g j))
  have e0 : (nI 0).toNatClampNeg = 0 := by decide
  have e8 : (nI 8).toNatClampNeg = 8 := by decide
  have i0 : (nI 0).toInt = 0 := by decide
  have i8 : (nI 8).toInt = 8 := by decide
  have el : ∀ j, j < 8 → tab.slots.getD j .null = .int (k_begin j) := fun j hj => by rw [Array.getD_eq_getD_getElem?, t6 j hj]; rfl
  intro T hT X
  obtain ⟨vm', X', step⟩ := X.arraycopy S.1 S.2.2.2.1 (S.2.2.2.2 _ hl) (S.2.2.2.2 _ hnat) (S.2.2.2.2 _ hstat) (S.2.2.2.2 _ hini) (cs := tab) (cd := vp_cell G.2.1.1 (8, .inl g)) (srcPos := nI 0) (destPos := nI 0) (n := nI 8) (by rw [hT]; exact c0) (by rw [hT]; exact c1) t2 (fun _ h => by cases h) t3 (fun h => by cases h) hkS hkD hkkS hkkD (by simp [refKind]) (by decide) (by decide) (by decide)
    (by rw [i0, i8]; omega) (by rw [i0, i8]; show ¬ _ > ((arrV G.2.1.1 8 (fun j => .int (g j))).slots.size : Int); rw [arrV_size]; omega)
    (fun vm₁ _ j hj => by
      rw [e8] at hj
      rw [e0, Nat.zero_add, el j hj]
      exact ⟨rfl, trivial⟩)
    (g := F0 m pc ls _) rfl (by rw [S.2.2.1]; exact hls) (rest := rest) rfl (by rw [S.2.1]; exact hdg) hframes (by show 2 * 0 + _ + _ ≤ _; omega)
  have ec : copied tab (vp_cell G.2.1.1 (8, .inl g)) (nI 0) (nI 0) (nI 8) = vp_cell G.2.1.1 (8, .inl (va_cpy k_begin g 0 0 8)) := va_copiedX (fun z => .int z) tab G.2.1.1 k_begin g t6 (Nat.le_refl 8)
  rw [ec] at X' step
  have hlt : a < H.size := (Array.getElem?_eq_some_iff.mp c1).1
  generalize hH1 : H.setIfInBounds a (vp_cell G.2.1.1 (8, .inl (va_cpy k_begin g 0 0 8))) = H1
  have oq : ∀ q : Nat, q ≠ a → H1[q]? = H[q]? := fun q hq => by rw [← hH1, Array.getElem?_setIfInBounds_ne (Ne.symm hq)]
  have oa' : H1[a]? = some (vp_cell G.2.1.1 (8, .inl (va_cpy k_begin g 0 0 8))) := by rw [← hH1]; simp [Array.getElem?_setIfInBounds, hlt]
  have hz : H1.size = H.size := by rw [← hH1]; simp
  have hA1 : A a := hD.2 i _ hi
  obtain ⟨t, a1, b1⟩ := kk H1 _ _ (va_up_self ..) mm_fru ⟨⟨_, hP.set (e := ia G 8 (va_cpy k_begin g 0 0 8)) hD hi oa' oq, hD.set hi, mm_set hD hi hw⟩, ⟨by rw [hz]; exact hS.1, fun q g1 g2 => by
      rw [oq q (fun z => g2 (by rw [z]; exact hA1))]
      exact hS.2.1 q g1 g2, fun q hq => by
      rcases List.mem_append.mp hq with h | h
      · exact hS.2.2 q h
      · obtain ⟨z, -, hz⟩ := List.mem_map.mp h
        rw [← hz]
        exact hA1⟩⟩ _ (by rw [← hH1, ← hT]; rfl) X'
  exact ⟨t, step t a1, b1⟩
end MMS
end
section
/-! ===== ForkWatch$Statement ===== -/
/-- four bytes as a number: the machine's own form -/
def ct_go (f : Nat → Int32) (k : Nat) : Nat → Int64
  | 0 => 0
  | i + 1 => (ct_go f k i <<< ((nI 8).toInt64 &&& 63)) ||| (f (4 + 4 * k + i)).toInt64
def ct (f : Nat → Int32) (k : Nat) : Int64 := ct_go f k 4
/-- a number as four bytes -/
def sc_go (f : Nat → Int32) (k : Nat) (v : Int64) : Nat → Nat → Int32
  | 0 => f
  | i + 1 => upd (sc_go f k v i) (4 + 4 * k + i) ((v.toUInt64 >>> ((nI (24 - 8 * i)).toInt64.toUInt64 &&& Int64.toUInt64 63)).toInt64.toInt32 &&& nI 255)
def sc (f : Nat → Int32) (k : Nat) (v : Int64) : Nat → Int32 := sc_go f k v 4
/-- no count above the other's -/
def na (f g : Nat → Int32) : Prop := ∀ k, k < 4 → ct f k ≤ ct g k
/-- a truth as the machine has it -/
def bq (r : Int32) (P : Prop) : Prop := (r = 1 ∧ P) ∨ (r = 0 ∧ ¬ P)

set_option maxHeartbeats 4000000 in
set_option maxRecDepth 100000 in
/-- Statement(client) -/
theorem c_X5_init (l : Launch) (G : mm_G) (M : mm_M) (sz : Nat) (h : Nat) (x : Int32) (h1 : M h = some (ob 6 [.null]))  : mm_v l yX5_init wsX5_init ({ frames := 1, cells := 1, slots := 84, locals := 12 } : Room) G ([.ref h, .int x] : List Value) M sz (fun M' => ∃ b, M b = none ∧ M' h = some (ob 6 [.ref b]) ∧ M' b = some (ia G 84 (upd (fun _ => 0) 0 x)) ∧ mm_fr [h] M M') := by
  refine mm_enter (cc := cX5_init) (maxL := 2) (ret := none) _ (by decide) rfl (Nat.le_of_ble_eq_true rfl) ?_
  intro p e s m below meth c ls S hr hlocks hname hA hC hR hl
  have hx := S.1
  have hb := S.2.1
  have hl : lv_has ls 2 [(0, .ref h), (1, .int x)] := hl
  have hin : meth.name = "<init>" := hname
  have inRX5 : ∀ w ∈ wsX50, w ∈ wsX5_init := by decide +kernel
  have hF : mm_fr [h] M M := mm_fr.rf
  refine lv_aload_n hx hb dX5_init_0 rfl (lv_at hl 0 rfl) ?_
  refine W.objInit hx hb S.2.2.2.1 (S.2.2.2.2 (.methodLink RX5 3 objectInit) (by decide +kernel)) (S.2.2.2.2 (.instanceMethod objectInit) (by decide +kernel)) (S.2.2.2.2 (.code objectInit ⟨#[0xb1]⟩ 1 none) (by decide +kernel)) rfl (by rw [S.2.2.1]; exact hl.1) rfl dX5_init_1 (Nat.le_of_ble_eq_true rfl) (Nat.le_of_ble_eq_true rfl) ?_
  refine W.eq (g2 := F0 m 4 ls []) rfl ?_
  refine lv_aload_n hx hb dX5_init_4 rfl (lv_at hl 0 rfl) ?_
  refine lv_bipush (v := nI 84) hx hb dX5_init_5 (by decide) ?_
  refine mm_newi S hC hA hR (by decide +kernel) (n := 84) (by omega) (Nat.le_of_ble_eq_true rfl) (Nat.le_of_ble_eq_true rfl) dX5_init_7 (fun b H M1 z3 h2 f2 hR => ?_)
  have n_h_b : h ≠ b := mm_nenew h1 z3
  have nn_b : M b = none := hF.none z3 (mm_oc h1 mm_o0)
  have h1 := f2.at h1 mm_n0
  have h2 : M1 b = some (ia G 84 (fun _ => 0)) := h2
  have hF := hF.tr f2 mm_i0
  refine mm_putF S hC hR (C := RX5) (T := TX5) (N := 1) (ref := "ForkWatch$Statement") 0 h1 inRX5 rfl tyX5_ok nmX5 (by decide) (by decide +kernel) (fun _ h9 => h9) rfl hin rfl rfl rfl (Nat.le_of_ble_eq_true rfl) dX5_init_9 (fun H locs M4 g6 f5 hR => ?_)
  have h2 := f5.at h2 (mm_nc (Ne.symm n_h_b) mm_n0)
  have h1 : M4 h = some (ob 6 [.ref b]) := g6
  have hF := hF.tr f5 (mm_ic 0 rfl mm_i0)
  refine lv_aload_n hx hb dX5_init_12 rfl (lv_at hl 0 rfl) ?_
  refine mm_get S hC hR (C := RX5) (T := TX5) (N := 1) (ref := "ForkWatch$Statement") (v := .ref b) 0 h1 inRX5 rfl (by decide) (by decide +kernel) (fun _ h9 => h9) rfl dX5_init_13 ?_
  refine lv_iconst (v := nI 0) hx hb dX5_init_16 (by decide) ?_
  refine lv_iload_n hx hb dX5_init_17 rfl (lv_at hl 1 rfl) ?_
  refine mm_iast S hC hR h2 (j := 0) (by omega) (by omega) dX5_init_18 (fun H locs M7 g9 f8 hR => ?_)
  have h1 := f8.at h1 (mm_nc n_h_b mm_n0)
  have h2 : M7 b = some (ia G 84 (upd (fun _ => 0) 0 x)) := g9
  have hF := hF.tr f8 (mm_in nn_b mm_i0)
  exact mm_vret S hr hlocks hR ⟨b, nn_b, h1, h2, hF⟩ dX5_init_19

set_option maxHeartbeats 4000000 in
set_option maxRecDepth 100000 in
/-- become(other): the bytes are copied -/
theorem c_X5_become (l : Launch) (G : mm_G) (M : mm_M) (sz : Nat) (h b h' b' : Nat) (f f' : Nat → Int32) (h1 : M h = some (ob 6 [.ref b])) (h2 : M b = some (ia G 84 f)) (h3 : M h' = some (ob 6 [.ref b'])) (h4 : M b' = some (ia G 84 f'))  : mm_v l yX5_become wsX5_become ({ frames := 1, cells := 0, slots := 0, locals := 30 } : Room) G ([.ref h, .ref h'] : List Value) M sz (fun M' => M' b = some (ia G 84 (va_cpy f' f 0 0 84)) ∧ mm_fr [b] M M') := by
  refine mm_enter (cc := cX5_become) (maxL := 2) (ret := none) _ (by decide) rfl (Nat.le_of_ble_eq_true rfl) ?_
  intro p e s m below meth c ls S hr hlocks hname hA hC hR hl
  have hx := S.1
  have hb := S.2.1
  have hl : lv_has ls 2 [(0, .ref h), (1, .ref h')] := hl
  have inRX5 : ∀ w ∈ wsX50, w ∈ wsX5_become := by decide +kernel
  have hF : mm_fr [b] M M := mm_fr.rf
  refine lv_aload_n hx hb dX5_become_0 rfl (lv_at hl 1 rfl) ?_
  refine mm_get S hC hR (C := RX5) (T := TX5) (N := 1) (ref := "ForkWatch$Statement") (v := .ref b') 0 h3 inRX5 rfl (by decide) (by decide +kernel) (fun _ h9 => h9) rfl dX5_become_1 ?_
  refine lv_iconst (v := nI 0) hx hb dX5_become_4 (by decide) ?_
  refine lv_aload_n hx hb dX5_become_5 rfl (lv_at hl 0 rfl) ?_
  refine mm_get S hC hR (C := RX5) (T := TX5) (N := 1) (ref := "ForkWatch$Statement") (v := .ref b) 0 h1 inRX5 rfl (by decide) (by decide +kernel) (fun _ h9 => h9) rfl dX5_become_6 ?_
  refine lv_iconst (v := nI 0) hx hb dX5_become_9 (by decide) ?_
  refine lv_bipush (v := nI 84) hx hb dX5_become_10 (by decide) ?_
  refine mm_copy S hC hR hl.1 h4 h2 (by decide +kernel) (by decide +kernel) (by decide +kernel) (by decide +kernel) (sp := 0) (dp := 0) (n := 84) (by omega) (by omega) (by omega) (by omega) (Nat.le_of_ble_eq_true rfl) (Nat.le_of_ble_eq_true rfl) dX5_become_12 (fun H locs M10 g12 f11 hR => ?_)
  have h1 := f11.at h1 (mm_nc (mm_neoi h1 h2) mm_n0)
  have h3 := f11.at h3 (mm_nc (mm_neoi h3 h2) mm_n0)
  have h2 : M10 b = some (ia G 84 (va_cpy f' f 0 0 84)) := g12
  have hF := hF.tr f11 (mm_ic 0 rfl mm_i0)
  exact mm_vret S hr hlocks hR ⟨h2, hF⟩ dX5_become_15

set_option maxHeartbeats 4000000 in
set_option maxRecDepth 100000 in
/-- four bytes of a statement, as a number without a sign -/
theorem c_X5_countOf (l : Launch) (G : mm_G) (M : mm_M) (sz : Nat) (h b k : Nat) (f : Nat → Int32) (h1 : M h = some (ob 6 [.ref b])) (h2 : M b = some (ia G 84 f)) (hk : k < 4) : mm_l l yX5_countOf wsX5_countOf ({ frames := 0, cells := 0, slots := 0, locals := 0 } : Room) G ([.ref h, .int (nI k)] : List Value) M sz (fun r M' => r = ct f k ∧ mm_fr [] M M') := by
  refine mm_enter (cc := cX5_countOf) (maxL := 5) (ret := (some .long)) _ (by decide) rfl (Nat.le_of_ble_eq_true rfl) ?_
  intro p e s m below meth c ls S hr hlocks hname hA hC hR hl
  have hx := S.1
  have hb := S.2.1
  have hl : lv_has ls 5 [(0, .ref h), (1, .int (nI k))] := hl
  have inRX5 : ∀ w ∈ wsX50, w ∈ wsX5_countOf := by decide +kernel
  have hF : mm_fr [] M M := mm_fr.rf
  refine lv_lconst (v := 0) hx hb dX5_countOf_0 (by decide) ?_
  refine lv_lstore_n (lv' := [(2, .long 0), (0, .ref h), (1, .int (nI k))]) hx hb dX5_countOf_1 rfl hl (by decide) rfl (fun ls hl => ?_)
  refine lv_iconst (v := nI 0) hx hb dX5_countOf_2 (by decide) ?_
  refine lv_istore (lv' := [(4, .int (nI 0)), (2, .long 0), (0, .ref h), (1, .int (nI k))]) hx hb dX5_countOf_3 hl (by decide) rfl (fun ls hl => ?_)
  have loop : ∀ (n : Nat) (i : Nat) (ls : Array Slot), (4 < i + n) → (i ≤ 4) → lv_has ls 5 [(0, .ref h), (1, .int (nI k)), (2, .long (ct_go f k i)), (4, .int (nI i))] → W p l e ({ frames := 0, cells := 0, slots := 0, locals := 0 } : Room) s m ([.ref h, .int (nI k)] : List Value).toArray below meth c s.heap [] 0 0 (MQ below (va_Ql (fun r M' => r = ct f k ∧ mm_fr [] M M') (fun M' t => mm_H G (mm_A M sz) M' t.heap) (mm_A M sz)) ([.ref h, .int (nI k)] : List Value).toArray s 0 0 (mm_A M sz)) (F0 m 5 ls []) := by
    intro n
    induction n with
    | zero =>
      intro i ls hn hi hl
      omega
    | succ n ih =>
      intro i ls hn hi hl
      refine lv_iload hx hb dX5_countOf_5 (lv_at hl 3 rfl) ?_
      refine lv_iconst (v := nI 4) hx hb dX5_countOf_7 (by decide) ?_
      refine lv_icmp_ge (tgt := 37) hx hb dX5_countOf_8 (by decide) (fun c13 => ?_) (fun c13 => ?_)
      · have c13 : 4 ≤ i := (nI_leI (by omega) (by omega)).mp c13
        have e4 : i = 4 := by omega
        subst e4
        refine lv_lload_n hx hb dX5_countOf_37 rfl (lv_at hl 2 rfl) ?_
        exact mm_lret S hr hlocks hR ⟨rfl, hF⟩ dX5_countOf_38
      · have c13 : ¬ (4 ≤ i) := fun z => c13 ((nI_leI (by omega) (by omega)).mpr z)
        refine lv_lload_n hx hb dX5_countOf_11 rfl (lv_at hl 2 rfl) ?_
        refine lv_bipush (v := nI 8) hx hb dX5_countOf_12 (by decide) ?_
        refine lv_lshl hx hb dX5_countOf_14 rfl ?_
        refine lv_aload_n hx hb dX5_countOf_15 rfl (lv_at hl 0 rfl) ?_
        refine mm_get S hC hR (C := RX5) (T := TX5) (N := 1) (ref := "ForkWatch$Statement") (v := .ref b) 0 h1 inRX5 rfl (by decide) (by decide +kernel) (fun _ h9 => h9) rfl dX5_countOf_16 ?_
        refine lv_iconst (v := nI 4) hx hb dX5_countOf_19 (by decide) ?_
        refine lv_iconst (v := nI 4) hx hb dX5_countOf_20 (by decide) ?_
        refine lv_iload_n hx hb dX5_countOf_21 rfl (lv_at hl 1 rfl) ?_
        refine lv_imul hx hb dX5_countOf_22 ?_
        refine mm_eqi (pk_mul _ _) ?_
        refine lv_iadd hx hb dX5_countOf_23 ?_
        refine mm_eqi (nI_add _ _) ?_
        refine lv_iload hx hb dX5_countOf_24 (lv_at hl 3 rfl) ?_
        refine lv_iadd hx hb dX5_countOf_26 ?_
        refine mm_eqi (nI_add _ _) ?_
        refine mm_iald S hC hR h2 (j := (4 + (4 * k) + i)) (by omega) (by omega) dX5_countOf_27 ?_
        refine lv_i2l hx hb dX5_countOf_28 rfl ?_
        refine lv_lor hx hb dX5_countOf_29 ?_
        refine lv_lstore_n (lv' := [(2, .long (((ct_go f k i) <<< ((nI 8).toInt64 &&& 63)) ||| ((f (4 + (4 * k) + i)).toInt64))), (0, .ref h), (1, .int (nI k)), (4, .int (nI i))]) hx hb dX5_countOf_30 rfl hl (by decide) rfl (fun ls hl => ?_)
        refine lv_iinc (v := (nI (i + 1))) (lv' := [(4, .int (nI (i + 1))), (2, .long (((ct_go f k i) <<< ((nI 8).toInt64 &&& 63)) ||| ((f (4 + (4 * k) + i)).toInt64))), (0, .ref h), (1, .int (nI k))]) hx hb dX5_countOf_31 hl (k := 3) rfl (by rw [show Int32.ofInt 1 = nI 1 from by decide]; exact nI_add _ _) (by decide) rfl (fun ls hl => ?_)
        refine lv_goto (tgt := 5) hx hb dX5_countOf_34 (by decide) ?_
        exact ih (i + 1) ls (by omega) (by omega) (lv_sub hl [2, 3, 1, 0] rfl)
  exact loop 5 0 ls (by omega) (by omega) (lv_sub hl [2, 3, 1, 0] rfl)

set_option maxHeartbeats 4000000 in
set_option maxRecDepth 100000 in
/-- a number into four bytes of a statement -/
theorem c_X5_setCount (l : Launch) (G : mm_G) (M : mm_M) (sz : Nat) (h b k : Nat) (f : Nat → Int32) (v : Int64) (h1 : M h = some (ob 6 [.ref b])) (h2 : M b = some (ia G 84 f)) (hk : k < 4) : mm_v l yX5_setCount wsX5_setCount ({ frames := 0, cells := 0, slots := 0, locals := 0 } : Room) G ([.ref h, .int (nI k), .long v] : List Value) M sz (fun M' => M' b = some (ia G 84 (sc f k v)) ∧ mm_fr [b] M M') := by
  refine mm_enter (cc := cX5_setCount) (maxL := 5) (ret := none) _ (by decide) rfl (Nat.le_of_ble_eq_true rfl) ?_
  intro p e s m below meth c ls S hr hlocks hname hA hC hR hl
  have hx := S.1
  have hb := S.2.1
  have hl : lv_has ls 5 [(0, .ref h), (1, .int (nI k)), (2, .long v)] := hl
  have inRX5 : ∀ w ∈ wsX50, w ∈ wsX5_setCount := by decide +kernel
  have hF : mm_fr [b] M M := mm_fr.rf
  refine lv_iconst (v := nI 0) hx hb dX5_setCount_0 (by decide) ?_
  refine lv_istore (lv' := [(4, .int (nI 0)), (0, .ref h), (1, .int (nI k)), (2, .long v)]) hx hb dX5_setCount_1 hl (by decide) rfl (fun ls hl => ?_)
  have loop : ∀ (n : Nat) (i : Nat) (M1 : mm_M) (H : Heap) (locs : List Loc) (ls : Array Slot), 4 < i + n → i ≤ 4 → M1 h = some (ob 6 [.ref b]) → M1 b = some (ia G 84 (sc_go f k v i)) → mm_fr [b] M M1 → mm_R G s (mm_A M sz) M1 H locs → lv_has ls 5 [(0, .ref h), (1, .int (nI k)), (2, .long v), (4, .int (nI i))] → W p l e ({ frames := 0, cells := 0, slots := 0, locals := 0 } : Room) s m ([.ref h, .int (nI k), .long v] : List Value).toArray below meth c H locs 0 0 (MQ below (va_Qv (fun M' => M' b = some (ia G 84 (sc f k v)) ∧ mm_fr [b] M M') (fun M' t => mm_H G (mm_A M sz) M' t.heap) (mm_A M sz)) ([.ref h, .int (nI k), .long v] : List Value).toArray s 0 0 (mm_A M sz)) (F0 m 3 ls []) := by
    intro n
    induction n with
    | zero =>
      intro i M1 H locs ls hn hi h1 h2 hF hR hl
      omega
    | succ n ih =>
      intro i M1 H locs ls hn hi h1 h2 hF hR hl
      refine lv_iload hx hb dX5_setCount_3 (lv_at hl 3 rfl) ?_
      refine lv_iconst (v := nI 4) hx hb dX5_setCount_5 (by decide) ?_
      refine lv_icmp_ge (tgt := 43) hx hb dX5_setCount_6 (by decide) (fun c14 => ?_) (fun c14 => ?_)
      · have c14 : 4 ≤ i := (nI_leI (by omega) (by omega)).mp c14
        have e4 : i = 4 := by omega
        subst e4
        exact mm_vret S hr hlocks hR ⟨h2, hF⟩ dX5_setCount_43
      · have c14 : ¬ (4 ≤ i) := fun z => c14 ((nI_leI (by omega) (by omega)).mpr z)
        refine lv_aload_n hx hb dX5_setCount_9 rfl (lv_at hl 0 rfl) ?_
        refine mm_get S hC hR (C := RX5) (T := TX5) (N := 1) (ref := "ForkWatch$Statement") (v := .ref b) 0 h1 inRX5 rfl (by decide) (by decide +kernel) (fun _ h9 => h9) rfl dX5_setCount_10 ?_
        refine lv_iconst (v := nI 4) hx hb dX5_setCount_13 (by decide) ?_
        refine lv_iconst (v := nI 4) hx hb dX5_setCount_14 (by decide) ?_
        refine lv_iload_n hx hb dX5_setCount_15 rfl (lv_at hl 1 rfl) ?_
        refine lv_imul hx hb dX5_setCount_16 ?_
        refine mm_eqi (pk_mul _ _) ?_
        refine lv_iadd hx hb dX5_setCount_17 ?_
        refine mm_eqi (nI_add _ _) ?_
        refine lv_iload hx hb dX5_setCount_18 (lv_at hl 3 rfl) ?_
        refine lv_iadd hx hb dX5_setCount_20 ?_
        refine mm_eqi (nI_add _ _) ?_
        refine lv_lload_n hx hb dX5_setCount_21 rfl (lv_at hl 2 rfl) ?_
        refine lv_bipush (v := nI 24) hx hb dX5_setCount_22 (by decide) ?_
        refine lv_bipush (v := nI 8) hx hb dX5_setCount_24 (by decide) ?_
        refine lv_iload hx hb dX5_setCount_26 (lv_at hl 3 rfl) ?_
        refine lv_imul hx hb dX5_setCount_28 ?_
        refine mm_eqi (pk_mul _ _) ?_
        refine lv_isub hx hb dX5_setCount_29 ?_
        refine mm_eqi (pk_sub (by omega)) ?_
        refine lv_lushr hx hb dX5_setCount_30 rfl ?_
        refine lv_l2i hx hb dX5_setCount_31 rfl ?_
        refine lv_sipush (v := nI 255) hx hb dX5_setCount_32 (by decide) ?_
        refine lv_iand hx hb dX5_setCount_35 ?_
        refine mm_iast S hC hR h2 (j := (4 + (4 * k) + i)) (by omega) (by omega) dX5_setCount_36 (fun H locs M15 g17 f16 hR => ?_)
        have h1 := f16.at h1 (mm_nc (mm_neoi h1 h2) mm_n0)
        have h2 : M15 b = some (ia G 84 (upd (sc_go f k v i) (4 + (4 * k) + i) ((((v.toUInt64 >>> ((nI (24 - (8 * i))).toInt64.toUInt64 &&& Int64.toUInt64 63)).toInt64).toInt32) &&& (nI 255)))) := g17
        have hF := hF.tr f16 (mm_ic 0 rfl mm_i0)
        refine lv_iinc (v := (nI (i + 1))) (lv' := [(4, .int (nI (i + 1))), (0, .ref h), (1, .int (nI k)), (2, .long v)]) hx hb dX5_setCount_37 hl (k := 3) rfl (by rw [show Int32.ofInt 1 = nI 1 from by decide]; exact nI_add _ _) (by decide) rfl (fun ls hl => ?_)
        refine lv_goto (tgt := 3) hx hb dX5_setCount_40 (by decide) ?_
        exact ih (i + 1) _ H locs ls (by omega) (by omega) h1 h2 hF hR (lv_sub hl [1, 2, 3, 0] rfl)
  exact loop 5 0 _ _ _ ls (by omega) (by omega) h1 h2 hF hR (lv_sub hl [1, 2, 3, 0] rfl)

set_option maxHeartbeats 4000000 in
set_option maxRecDepth 100000 in
/-- no count above the other statement's -/
theorem c_X5_isNotAbove (l : Launch) (G : mm_G) (M : mm_M) (sz : Nat) (h b h' b' : Nat) (f f' : Nat → Int32) (h1 : M h = some (ob 6 [.ref b])) (h2 : M b = some (ia G 84 f)) (h3 : M h' = some (ob 6 [.ref b'])) (h4 : M b' = some (ia G 84 f'))  : mm_i l yX5_isNotAbove wsX5_isNotAbove ({ frames := 1, cells := 0, slots := 0, locals := 24 } : Room) G ([.ref h, .ref h'] : List Value) M sz (fun r M' => bq r (na f f') ∧ mm_fr [] M M') := by
  refine mm_enter (cc := cX5_isNotAbove) (maxL := 3) (ret := (some .boolean)) _ (by decide) rfl (Nat.le_of_ble_eq_true rfl) ?_
  intro p e s m below meth c ls S hr hlocks hname hA hC hR hl
  have hx := S.1
  have hb := S.2.1
  have hl : lv_has ls 3 [(0, .ref h), (1, .ref h')] := hl
  have inRX5 : ∀ w ∈ wsX50, w ∈ wsX5_isNotAbove := by decide +kernel
  have hF : mm_fr [] M M := mm_fr.rf
  refine lv_iconst (v := nI 0) hx hb dX5_isNotAbove_0 (by decide) ?_
  refine lv_istore_n (lv' := [(2, .int (nI 0)), (0, .ref h), (1, .ref h')]) hx hb dX5_isNotAbove_1 rfl hl (by decide) rfl (fun ls hl => ?_)
  have loop : ∀ (n : Nat) (k : Nat) (M1 : mm_M) (H : Heap) (locs : List Loc) (ls : Array Slot), 4 < k + n → k ≤ 4 → (∀ j, j < k → ct f j ≤ ct f' j) → M1 h = some (ob 6 [.ref b]) → M1 b = some (ia G 84 f) → M1 h' = some (ob 6 [.ref b']) → M1 b' = some (ia G 84 f') → mm_fr [] M M1 → mm_R G s (mm_A M sz) M1 H locs → lv_has ls 3 [(0, .ref h), (1, .ref h'), (2, .int (nI k))] → W p l e ({ frames := 1, cells := 0, slots := 0, locals := 24 } : Room) s m ([.ref h, .ref h'] : List Value).toArray below meth c H locs 0 0 (MQ below (va_Qi (fun r M' => bq r (na f f') ∧ mm_fr [] M M') (fun M' t => mm_H G (mm_A M sz) M' t.heap) (mm_A M sz)) ([.ref h, .ref h'] : List Value).toArray s 0 0 (mm_A M sz)) (F0 m 2 ls []) := by
    intro n
    induction n with
    | zero =>
      intro k M1 H locs ls hn hk hle h1 h2 h3 h4 hF hR hl
      omega
    | succ n ih =>
      intro k M1 H locs ls hn hk hle h1 h2 h3 h4 hF hR hl
      refine lv_iload_n hx hb dX5_isNotAbove_2 rfl (lv_at hl 2 rfl) ?_
      refine lv_iconst (v := nI 4) hx hb dX5_isNotAbove_3 (by decide) ?_
      refine lv_icmp_ge (tgt := 29) hx hb dX5_isNotAbove_4 (by decide) (fun c18 => ?_) (fun c18 => ?_)
      · have c18 : 4 ≤ k := (nI_leI (by omega) (by omega)).mp c18
        refine lv_iconst (v := nI 1) hx hb dX5_isNotAbove_29 (by decide) ?_
        exact mm_zret S hr hlocks (by decide) hR ⟨Or.inl ⟨rfl, fun j hj => hle j (by omega)⟩, hF⟩ dX5_isNotAbove_30
      · have c18 : ¬ (4 ≤ k) := fun z => c18 ((nI_leI (by omega) (by omega)).mpr z)
        refine lv_aload_n hx hb dX5_isNotAbove_7 rfl (lv_at hl 0 rfl) ?_
        refine lv_iload_n hx hb dX5_isNotAbove_8 rfl (lv_at hl 2 rfl) ?_
        refine mm_calll hA hR (va_runV (As := [.int (nI k)]) (rest := []) S (c_X5_countOf l G M1 H.size h b k f h1 h2 (by omega)) (cwV 1 S.2.2.2.2 gX5_isNotAbove_X5_countOf rfl rfl rfl (by decide +kernel) ⟨Nat.le_of_ble_eq_true rfl, Nat.le_of_ble_eq_true rfl⟩) (mm_preV hC hA hR _ h1 rfl) rfl rfl hl.1 rfl (lv_room (Nat.le_of_ble_eq_true rfl)) dX5_isNotAbove_9 ⟨Nat.le_of_ble_eq_true rfl, Nat.le_of_ble_eq_true rfl⟩) (fun r19 M20 H locs hp hR => ?_)
        obtain ⟨e1, f1⟩ := hp
        have h1 := f1.at h1 mm_n0
        have h2 := f1.at h2 mm_n0
        have h3 := f1.at h3 mm_n0
        have h4 := f1.at h4 mm_n0
        have hF := hF.tr f1 mm_i0
        refine lv_aload_n hx hb dX5_isNotAbove_12 rfl (lv_at hl 1 rfl) ?_
        refine lv_iload_n hx hb dX5_isNotAbove_13 rfl (lv_at hl 2 rfl) ?_
        refine mm_calll hA hR (va_runV (As := [.int (nI k)]) (rest := [.long r19]) S (c_X5_countOf l G M20 H.size h' b' k f' h3 h4 (by omega)) (cwV 1 S.2.2.2.2 gX5_isNotAbove_X5_countOf rfl rfl rfl (by decide +kernel) ⟨Nat.le_of_ble_eq_true rfl, Nat.le_of_ble_eq_true rfl⟩) (mm_preV hC hA hR _ h3 rfl) rfl rfl hl.1 rfl (lv_room (Nat.le_of_ble_eq_true rfl)) dX5_isNotAbove_14 ⟨Nat.le_of_ble_eq_true rfl, Nat.le_of_ble_eq_true rfl⟩) (fun r21 M22 H locs hp hR => ?_)
        obtain ⟨e2, f2⟩ := hp
        have h1 := f2.at h1 mm_n0
        have h2 := f2.at h2 mm_n0
        have h3 := f2.at h3 mm_n0
        have h4 := f2.at h4 mm_n0
        have hF := hF.tr f2 mm_i0
        refine W.lcmp hx hb dX5_isNotAbove_17 ?_
        refine lv_if_le (tgt := 23) hx hb dX5_isNotAbove_18 (by decide) (fun cc => ?_) (fun cc => ?_)
        · skip
          have cc := (lg_cmp_le _ _).mp cc
          rw [e1, e2] at cc
          refine lv_iinc (v := (nI (k + 1))) (lv' := [(2, .int (nI (k + 1))), (0, .ref h), (1, .ref h')]) hx hb dX5_isNotAbove_23 hl (k := 2) rfl (by rw [show Int32.ofInt 1 = nI 1 from by decide]; exact nI_add _ _) (by decide) rfl (fun ls hl => ?_)
          refine lv_goto (tgt := 2) hx hb dX5_isNotAbove_26 (by decide) ?_
          exact ih (k + 1) _ H locs ls (by omega) (by omega) (lt_s hle cc) h1 h2 h3 h4 hF hR (lv_sub hl [1, 2, 0] rfl)
        · skip
          have cc : ¬ ct f k ≤ ct f' k := fun z => cc ((lg_cmp_le _ _).mpr (by rw [e1, e2]; exact z))
          refine lv_iconst (v := nI 0) hx hb dX5_isNotAbove_21 (by decide) ?_
          exact mm_zret S hr hlocks (by decide) hR ⟨Or.inr ⟨rfl, fun z => cc (z k (by omega))⟩, hF⟩ dX5_isNotAbove_22
  exact loop 5 0 _ _ _ ls (by omega) (by omega) (fun j hj => absurd hj (Nat.not_lt_zero j)) h1 h2 h3 h4 hF hR (lv_sub hl [1, 2, 0] rfl)

set_option maxHeartbeats 4000000 in
set_option maxRecDepth 100000 in
/-- one of two statements is not above the other -/
theorem c_X5_isInLineWith (l : Launch) (G : mm_G) (M : mm_M) (sz : Nat) (h b h' b' : Nat) (f f' : Nat → Int32) (h1 : M h = some (ob 6 [.ref b])) (h2 : M b = some (ia G 84 f)) (h3 : M h' = some (ob 6 [.ref b'])) (h4 : M b' = some (ia G 84 f'))  : mm_i l yX5_isInLineWith wsX5_isInLineWith ({ frames := 2, cells := 0, slots := 0, locals := 48 } : Room) G ([.ref h, .ref h'] : List Value) M sz (fun r M' => bq r (na f f' ∨ na f' f) ∧ mm_fr [] M M') := by
  refine mm_enter (cc := cX5_isInLineWith) (maxL := 2) (ret := (some .boolean)) _ (by decide) rfl (Nat.le_of_ble_eq_true rfl) ?_
  intro p e s m below meth c ls S hr hlocks hname hA hC hR hl
  have hx := S.1
  have hb := S.2.1
  have hl : lv_has ls 2 [(0, .ref h), (1, .ref h')] := hl
  have inRX5 : ∀ w ∈ wsX50, w ∈ wsX5_isInLineWith := by decide +kernel
  have hF : mm_fr [] M M := mm_fr.rf
  refine lv_aload_n hx hb dX5_isInLineWith_0 rfl (lv_at hl 0 rfl) ?_
  refine lv_aload_n hx hb dX5_isInLineWith_1 rfl (lv_at hl 1 rfl) ?_
  refine mm_calli hA hR (va_runV (As := [.ref h']) (rest := []) S (c_X5_isNotAbove l G M _ h b h' b' f f' h1 h2 h3 h4) (cwV 1 S.2.2.2.2 gX5_isInLineWith_X5_isNotAbove rfl rfl rfl (by decide +kernel) ⟨Nat.le_of_ble_eq_true rfl, Nat.le_of_ble_eq_true rfl⟩) (mm_preV hC hA hR _ h1 rfl) rfl rfl hl.1 rfl (lv_room (Nat.le_of_ble_eq_true rfl)) dX5_isInLineWith_2 ⟨Nat.le_of_ble_eq_true rfl, Nat.le_of_ble_eq_true rfl⟩) (fun r23 M24 H locs hp hR => ?_)
  obtain ⟨q1, f1⟩ := hp
  have h1 := f1.at h1 mm_n0
  have h2 := f1.at h2 mm_n0
  have h3 := f1.at h3 mm_n0
  have h4 := f1.at h4 mm_n0
  have hF := hF.tr f1 mm_i0
  rcases q1 with ⟨e1, q1⟩ | ⟨e1, q1⟩ <;> subst e1
  · skip
    refine lv_if_ne (tgt := 16) hx hb dX5_isInLineWith_5 (by decide) (fun _ => ?_) (fun z => by first | exact absurd z (by decide) | exact absurd (by decide) z)
    refine lv_iconst (v := nI 1) hx hb dX5_isInLineWith_16 (by decide) ?_
    refine lv_goto (tgt := 21) hx hb dX5_isInLineWith_17 (by decide) ?_
    exact mm_zret S hr hlocks (by decide) hR ⟨Or.inl ⟨rfl, Or.inl q1⟩, hF⟩ dX5_isInLineWith_21
  · skip
    refine lv_if_ne (tgt := 16) hx hb dX5_isInLineWith_5 (by decide) (fun z => by first | exact absurd z (by decide) | exact absurd (by decide) z) (fun _ => ?_)
    refine lv_aload_n hx hb dX5_isInLineWith_8 rfl (lv_at hl 1 rfl) ?_
    refine lv_aload_n hx hb dX5_isInLineWith_9 rfl (lv_at hl 0 rfl) ?_
    refine mm_calli hA hR (va_runV (As := [.ref h]) (rest := []) S (c_X5_isNotAbove l G M24 _ h' b' h b f' f h3 h4 h1 h2) (cwV 1 S.2.2.2.2 gX5_isInLineWith_X5_isNotAbove rfl rfl rfl (by decide +kernel) ⟨Nat.le_of_ble_eq_true rfl, Nat.le_of_ble_eq_true rfl⟩) (mm_preV hC hA hR _ h3 rfl) rfl rfl hl.1 rfl (lv_room (Nat.le_of_ble_eq_true rfl)) dX5_isInLineWith_10 ⟨Nat.le_of_ble_eq_true rfl, Nat.le_of_ble_eq_true rfl⟩) (fun r25 M26 H locs hp hR => ?_)
    obtain ⟨q2, f2⟩ := hp
    have h1 := f2.at h1 mm_n0
    have h2 := f2.at h2 mm_n0
    have h3 := f2.at h3 mm_n0
    have h4 := f2.at h4 mm_n0
    have hF := hF.tr f2 mm_i0
    rcases q2 with ⟨e2, q2⟩ | ⟨e2, q2⟩ <;> subst e2
    · skip
      refine lv_if_eq (tgt := 20) hx hb dX5_isInLineWith_13 (by decide) (fun z => by first | exact absurd z (by decide) | exact absurd (by decide) z) (fun _ => ?_)
      refine lv_iconst (v := nI 1) hx hb dX5_isInLineWith_16 (by decide) ?_
      refine lv_goto (tgt := 21) hx hb dX5_isInLineWith_17 (by decide) ?_
      exact mm_zret S hr hlocks (by decide) hR ⟨Or.inl ⟨rfl, Or.inr q2⟩, hF⟩ dX5_isInLineWith_21
    · skip
      refine lv_if_eq (tgt := 20) hx hb dX5_isInLineWith_13 (by decide) (fun _ => ?_) (fun z => by first | exact absurd z (by decide) | exact absurd (by decide) z)
      refine lv_iconst (v := nI 0) hx hb dX5_isInLineWith_20 (by decide) ?_
      exact mm_zret S hr hlocks (by decide) hR ⟨Or.inr ⟨rfl, fun z => z.elim q1 q2⟩, hF⟩ dX5_isInLineWith_21
end
section
/-! ===== ForkWatch$Sha256 ===== -/
def ru (x : Int32) (n : Nat) : Int32 := (x.toUInt32 >>> ((nI n).toUInt32 &&& Int32.toUInt32 31)).toInt32
def rr (x : Int32) (n : Nat) : Int32 := ru x n ||| (x <<< (nI (32 - n) &&& 31))
def sg0 (x : Int32) : Int32 := (rr x 7 ^^^ rr x 18) ^^^ ru x 3
def sg1 (x : Int32) : Int32 := (rr x 17 ^^^ rr x 19) ^^^ ru x 10
/-- the words of a block, spread out: n of the 48 that come behind the sixteen -/
def sp_go (w : Nat → Int32) : Nat → Nat → Int32
  | 0 => w
  | n + 1 => upd (sp_go w n) (16 + n) (((sp_go w n n + sg0 (sp_go w n (n + 1))) + sp_go w n (n + 9)) + sg1 (sp_go w n (n + 14)))
def sp (w : Nat → Int32) : Nat → Int32 := sp_go w 48
def mx_t (e f g h k w : Int32) : Int32 := (((h + ((rr e 6 ^^^ rr e 11) ^^^ rr e 25)) + ((e &&& f) ^^^ ((e ^^^ (-1)) &&& g))) + k) + w
def mx_b (a b c : Int32) : Int32 := (rr a 2 ^^^ rr a 13) ^^^ rr a 22
def mx_m (a b c : Int32) : Int32 := ((a &&& b) ^^^ (a &&& c)) ^^^ (b &&& c)
/-- the eight registers behind i of the 64 turns -/
def mx_go (f w : Nat → Int32) : Nat → Nat → Int32
  | 0 => f
  | i + 1 => fun j => match j with
    | 0 => (mx_t (mx_go f w i 4) (mx_go f w i 5) (mx_go f w i 6) (mx_go f w i 7) (k_round i) (w i) + mx_b (mx_go f w i 0) (mx_go f w i 1) (mx_go f w i 2)) + mx_m (mx_go f w i 0) (mx_go f w i 1) (mx_go f w i 2)
    | 1 => mx_go f w i 0
    | 2 => mx_go f w i 1
    | 3 => mx_go f w i 2
    | 4 => mx_go f w i 3 + mx_t (mx_go f w i 4) (mx_go f w i 5) (mx_go f w i 6) (mx_go f w i 7) (k_round i) (w i)
    | 5 => mx_go f w i 4
    | 6 => mx_go f w i 5
    | _ => mx_go f w i 6
def ad_go (f r : Nat → Int32) : Nat → Nat → Int32
  | 0 => f
  | n + 1 => upd (ad_go f r n) n (ad_go f r n n + r n)
def mx (f w : Nat → Int32) : Nat → Int32 := ad_go f (mx_go f w 64) 8
/-- state, words, how many bytes of the block are filled -/
abbrev ShS : Type := (Nat → Int32) × (Nat → Int32) × Nat
def sh_w (g : Nat → Int32) (n : Nat) (b : Int32) : Nat → Int32 := upd g (n / 4) ((g (n / 4) <<< (nI 8 &&& 31)) ||| b)
def sh_take (q : ShS) (b : Int32) : ShS := if q.2.2 + 1 = 64 then (mx q.1 (sp (sh_w q.2.1 q.2.2 b)), sp (sh_w q.2.1 q.2.2 b), 0) else (q.1, sh_w q.2.1 q.2.2 b, q.2.2 + 1)
def sh_takes (q : ShS) (r : Nat → Int32) : Nat → ShS
  | 0 => q
  | n + 1 => sh_take (sh_takes q r n) (r n)
def shA (G : mm_G) (M : mm_M) (h st w : Nat) (q : ShS) (t : Nat) : Prop := M h = some (ob 5 [.ref st, .ref w, .int (nI q.2.2), .int (nI t)]) ∧ M st = some (ia G 8 q.1) ∧ M w = some (ia G 64 q.2.1) ∧ q.2.2 < 64
/-- whatever it holds -/
def shJ (G : mm_G) (M : mm_M) (h st w : Nat) : Prop := ∃ (f g : Nat → Int32) (a b : Int32), M h = some (ob 5 [.ref st, .ref w, .int a, .int b]) ∧ M st = some (ia G 8 f) ∧ M w = some (ia G 64 g)
theorem shA.J {G : mm_G} {M : mm_M} {h st w : Nat} {q : ShS} {t : Nat} (H : shA G M h st w q t) : shJ G M h st w := ⟨_, _, _, _, H.1, H.2.1, H.2.2.1⟩
theorem sh_take_lt {q : ShS} {b : Int32} (h : q.2.2 < 64) : (sh_take q b).2.2 < 64 := by
  unfold sh_take
  split
  · exact Nat.succ_pos _
  · show q.2.2 + 1 < 64
    omega

set_option maxHeartbeats 4000000 in
set_option maxRecDepth 100000 in
/-- spread(): 48 words behind the sixteen -/
theorem c_X4_spread (l : Launch) (G : mm_G) (M : mm_M) (sz : Nat) (h st w : Nat) (a b : Int32) (f g : Nat → Int32) (h1 : M h = some (ob 5 [.ref st, .ref w, .int a, .int b])) (h2 : M st = some (ia G 8 f)) (h3 : M w = some (ia G 64 g))  : mm_v l yX4_spread wsX4_spread ({ frames := 0, cells := 0, slots := 0, locals := 0 } : Room) G ([.ref h] : List Value) M sz (fun M' => M' w = some (ia G 64 (sp g)) ∧ mm_fr [w] M M') := by
  refine mm_enter (cc := cX4_spread) (maxL := 6) (ret := none) _ (by decide) rfl (Nat.le_of_ble_eq_true rfl) ?_
  intro p e s m below meth c ls S hr hlocks hname hA hC hR hl
  have hx := S.1
  have hb := S.2.1
  have hl : lv_has ls 6 [(0, .ref h)] := hl
  have inRX4 : ∀ w ∈ wsX40, w ∈ wsX4_spread := by decide +kernel
  have hF : mm_fr [w] M M := mm_fr.rf
  refine lv_bipush (v := nI 16) hx hb dX4_spread_0 (by decide) ?_
  refine lv_istore_n (lv' := [(1, .int (nI 16)), (0, .ref h)]) hx hb dX4_spread_2 rfl hl (by decide) rfl (fun ls hl => ?_)
  have loop : ∀ (k n : Nat) (M1 : mm_M) (H : Heap) (locs : List Loc) (ls : Array Slot), 48 < n + k → n ≤ 48 → M1 h = some (ob 5 [.ref st, .ref w, .int a, .int b]) → M1 st = some (ia G 8 f) → M1 w = some (ia G 64 (sp_go g n)) → mm_fr [w] M M1 → mm_R G s (mm_A M sz) M1 H locs → lv_has ls 6 [(0, .ref h), (1, .int (nI (16 + n)))] → W p l e ({ frames := 0, cells := 0, slots := 0, locals := 0 } : Room) s m ([.ref h] : List Value).toArray below meth c H locs 0 0 (MQ below (va_Qv (fun M' => M' w = some (ia G 64 (sp g)) ∧ mm_fr [w] M M') (fun M' t => mm_H G (mm_A M sz) M' t.heap) (mm_A M sz)) ([.ref h] : List Value).toArray s 0 0 (mm_A M sz)) (F0 m 3 ls []) := by
    intro k
    induction k with
    | zero =>
      intro n M1 H locs ls hn hi h1 h2 h3 hF hR hl
      omega
    | succ k ih =>
      intro n M1 H locs ls hn hi h1 h2 h3 hF hR hl
      obtain ⟨gg, egg⟩ : ∃ z : Nat → Int32, z = sp_go g n := ⟨_, rfl⟩
      rw [← egg] at h3
      refine lv_iload_n hx hb dX4_spread_3 rfl (lv_at hl 1 rfl) ?_
      refine lv_bipush (v := nI 64) hx hb dX4_spread_4 (by decide) ?_
      refine lv_icmp_ge (tgt := 116) hx hb dX4_spread_6 (by decide) (fun c1 => ?_) (fun c1 => ?_)
      · have c1 : 64 ≤ 16 + n := (nI_leI (by omega) (by omega)).mp c1
        have e4 : n = 48 := by omega
        subst e4
        exact mm_vret S hr hlocks hR ⟨by rw [egg] at h3; exact h3, hF⟩ dX4_spread_116
      · have c1 : ¬ (64 ≤ 16 + n) := fun z => c1 ((nI_leI (by omega) (by omega)).mpr z)
        refine lv_aload_n hx hb dX4_spread_9 rfl (lv_at hl 0 rfl) ?_
        refine mm_get S hC hR (C := RX4) (T := TX4) (N := 4) (ref := "ForkWatch$Sha256") (v := .ref w) 1 h1 inRX4 rfl (by decide) (by decide +kernel) (fun _ h9 => h9) rfl dX4_spread_10 ?_
        refine lv_iload_n hx hb dX4_spread_13 rfl (lv_at hl 1 rfl) ?_
        refine lv_bipush (v := nI 15) hx hb dX4_spread_14 (by decide) ?_
        refine lv_isub hx hb dX4_spread_16 ?_
        refine mm_eqi (pk_sub (by omega)) ?_
        refine mm_eqi (congrArg nI (show (16 + n) - 15 = n + 1 by omega)) ?_
        refine mm_iald S hC hR h3 (j := (n + 1)) (by omega) (by omega) dX4_spread_17 ?_
        refine lv_topi (fun x2 ex2 => ?_)
        refine lv_istore_n (lv' := [(2, .int x2), (0, .ref h), (1, .int (nI (16 + n)))]) hx hb dX4_spread_18 rfl hl (by decide) rfl (fun ls hl => ?_)
        refine lv_aload_n hx hb dX4_spread_19 rfl (lv_at hl 1 rfl) ?_
        refine mm_get S hC hR (C := RX4) (T := TX4) (N := 4) (ref := "ForkWatch$Sha256") (v := .ref w) 1 h1 inRX4 rfl (by decide) (by decide +kernel) (fun _ h9 => h9) rfl dX4_spread_20 ?_
        refine lv_iload_n hx hb dX4_spread_23 rfl (lv_at hl 2 rfl) ?_
        refine lv_iconst (v := nI 2) hx hb dX4_spread_24 (by decide) ?_
        refine lv_isub hx hb dX4_spread_25 ?_
        refine mm_eqi (pk_sub (by omega)) ?_
        refine mm_eqi (congrArg nI (show (16 + n) - 2 = n + 14 by omega)) ?_
        refine mm_iald S hC hR h3 (j := (n + 14)) (by omega) (by omega) dX4_spread_26 ?_
        refine lv_topi (fun x3 ex3 => ?_)
        refine lv_istore_n (lv' := [(3, .int x3), (2, .int x2), (0, .ref h), (1, .int (nI (16 + n)))]) hx hb dX4_spread_27 rfl hl (by decide) rfl (fun ls hl => ?_)
        refine lv_iload_n hx hb dX4_spread_28 rfl (lv_at hl 1 rfl) ?_
        refine lv_bipush (v := nI 7) hx hb dX4_spread_29 (by decide) ?_
        refine lv_iushr hx hb dX4_spread_31 rfl ?_
        refine lv_iload_n hx hb dX4_spread_32 rfl (lv_at hl 1 rfl) ?_
        refine lv_bipush (v := nI 25) hx hb dX4_spread_33 (by decide) ?_
        refine lv_ishl hx hb dX4_spread_35 ?_
        refine lv_ior hx hb dX4_spread_36 ?_
        refine lv_iload_n hx hb dX4_spread_37 rfl (lv_at hl 1 rfl) ?_
        refine lv_bipush (v := nI 18) hx hb dX4_spread_38 (by decide) ?_
        refine lv_iushr hx hb dX4_spread_40 rfl ?_
        refine lv_iload_n hx hb dX4_spread_41 rfl (lv_at hl 1 rfl) ?_
        refine lv_bipush (v := nI 14) hx hb dX4_spread_42 (by decide) ?_
        refine lv_ishl hx hb dX4_spread_44 ?_
        refine lv_ior hx hb dX4_spread_45 ?_
        refine lv_ixor hx hb dX4_spread_46 ?_
        refine lv_iload_n hx hb dX4_spread_47 rfl (lv_at hl 1 rfl) ?_
        refine lv_iconst (v := nI 3) hx hb dX4_spread_48 (by decide) ?_
        refine lv_iushr hx hb dX4_spread_49 rfl ?_
        refine lv_ixor hx hb dX4_spread_50 ?_
        refine lv_topi (fun x4 ex4 => ?_)
        refine lv_istore (lv' := [(4, .int x4), (3, .int x3), (2, .int x2), (0, .ref h), (1, .int (nI (16 + n)))]) hx hb dX4_spread_51 hl (by decide) rfl (fun ls hl => ?_)
        refine lv_iload_n hx hb dX4_spread_53 rfl (lv_at hl 1 rfl) ?_
        refine lv_bipush (v := nI 17) hx hb dX4_spread_54 (by decide) ?_
        refine lv_iushr hx hb dX4_spread_56 rfl ?_
        refine lv_iload_n hx hb dX4_spread_57 rfl (lv_at hl 1 rfl) ?_
        refine lv_bipush (v := nI 15) hx hb dX4_spread_58 (by decide) ?_
        refine lv_ishl hx hb dX4_spread_60 ?_
        refine lv_ior hx hb dX4_spread_61 ?_
        refine lv_iload_n hx hb dX4_spread_62 rfl (lv_at hl 1 rfl) ?_
        refine lv_bipush (v := nI 19) hx hb dX4_spread_63 (by decide) ?_
        refine lv_iushr hx hb dX4_spread_65 rfl ?_
        refine lv_iload_n hx hb dX4_spread_66 rfl (lv_at hl 1 rfl) ?_
        refine lv_bipush (v := nI 13) hx hb dX4_spread_67 (by decide) ?_
        refine lv_ishl hx hb dX4_spread_69 ?_
        refine lv_ior hx hb dX4_spread_70 ?_
        refine lv_ixor hx hb dX4_spread_71 ?_
        refine lv_iload_n hx hb dX4_spread_72 rfl (lv_at hl 1 rfl) ?_
        refine lv_bipush (v := nI 10) hx hb dX4_spread_73 (by decide) ?_
        refine lv_iushr hx hb dX4_spread_75 rfl ?_
        refine lv_ixor hx hb dX4_spread_76 ?_
        refine lv_topi (fun x5 ex5 => ?_)
        refine lv_istore (lv' := [(5, .int x5), (4, .int x4), (3, .int x3), (2, .int x2), (0, .ref h), (1, .int (nI (16 + n)))]) hx hb dX4_spread_77 hl (by decide) rfl (fun ls hl => ?_)
        refine lv_aload_n hx hb dX4_spread_79 rfl (lv_at hl 4 rfl) ?_
        refine mm_get S hC hR (C := RX4) (T := TX4) (N := 4) (ref := "ForkWatch$Sha256") (v := .ref w) 1 h1 inRX4 rfl (by decide) (by decide +kernel) (fun _ h9 => h9) rfl dX4_spread_80 ?_
        refine lv_iload_n hx hb dX4_spread_83 rfl (lv_at hl 5 rfl) ?_
        refine lv_aload_n hx hb dX4_spread_84 rfl (lv_at hl 4 rfl) ?_
        refine mm_get S hC hR (C := RX4) (T := TX4) (N := 4) (ref := "ForkWatch$Sha256") (v := .ref w) 1 h1 inRX4 rfl (by decide) (by decide +kernel) (fun _ h9 => h9) rfl dX4_spread_85 ?_
        refine lv_iload_n hx hb dX4_spread_88 rfl (lv_at hl 5 rfl) ?_
        refine lv_bipush (v := nI 16) hx hb dX4_spread_89 (by decide) ?_
        refine lv_isub hx hb dX4_spread_91 ?_
        refine mm_eqi (pk_sub (by omega)) ?_
        refine mm_eqi (congrArg nI (show (16 + n) - 16 = n by omega)) ?_
        refine mm_iald S hC hR h3 (j := n) (by omega) (by omega) dX4_spread_92 ?_
        refine lv_iload hx hb dX4_spread_93 (lv_at hl 1 rfl) ?_
        refine lv_iadd hx hb dX4_spread_95 ?_
        refine lv_aload_n hx hb dX4_spread_96 rfl (lv_at hl 4 rfl) ?_
        refine mm_get S hC hR (C := RX4) (T := TX4) (N := 4) (ref := "ForkWatch$Sha256") (v := .ref w) 1 h1 inRX4 rfl (by decide) (by decide +kernel) (fun _ h9 => h9) rfl dX4_spread_97 ?_
        refine lv_iload_n hx hb dX4_spread_100 rfl (lv_at hl 5 rfl) ?_
        refine lv_bipush (v := nI 7) hx hb dX4_spread_101 (by decide) ?_
        refine lv_isub hx hb dX4_spread_103 ?_
        refine mm_eqi (pk_sub (by omega)) ?_
        refine mm_eqi (congrArg nI (show (16 + n) - 7 = n + 9 by omega)) ?_
        refine mm_iald S hC hR h3 (j := (n + 9)) (by omega) (by omega) dX4_spread_104 ?_
        refine lv_iadd hx hb dX4_spread_105 ?_
        refine lv_iload hx hb dX4_spread_106 (lv_at hl 0 rfl) ?_
        refine lv_iadd hx hb dX4_spread_108 ?_
        refine lv_topi (fun x6 ex6 => ?_)
        refine mm_iast S hC hR h3 (j := (16 + n)) (by omega) (by omega) dX4_spread_109 (fun H locs M7 g9 f8 hR => ?_)
        have h1 := f8.at h1 (mm_nc (mm_neoi h1 h3) mm_n0)
        have h2 := f8.at h2 (mm_nc (mm_nelen h2 h3 (by decide)) mm_n0)
        have h3 : M7 w = some (ia G 64 (upd gg (16 + n) x6)) := g9
        have hF := hF.tr f8 (mm_ic 0 rfl mm_i0)
        refine lv_iinc (v := (nI (16 + n + 1))) (lv' := [(1, .int (nI (16 + n + 1))), (5, .int x5), (4, .int x4), (3, .int x3), (2, .int x2), (0, .ref h)]) hx hb dX4_spread_110 hl (k := 5) rfl (by rw [show Int32.ofInt 1 = nI 1 from by decide]; exact nI_add _ _) (by decide) rfl (fun ls hl => ?_)
        refine lv_goto (tgt := 3) hx hb dX4_spread_113 (by decide) ?_
        have e9 : upd gg (16 + n) x6 = sp_go g (n + 1) := by rw [ex6, ex5, ex4, ex3, ex2, egg]; rfl
        exact ih (n + 1) _ H locs ls (by omega) (by omega) h1 h2 (by rw [e9] at h3; exact h3) hF hR (lv_sub hl [5, 0] (by rw [Nat.add_assoc 16 n 1]; rfl))
  exact loop 49 0 _ _ _ ls (by omega) (by omega) h1 h2 h3 hF hR (lv_sub hl [1, 0] rfl)
end
section
set_option maxHeartbeats 4000000 in
set_option maxRecDepth 100000 in
/-- mix(): 64 turns over the state -/
theorem c_X4_mix (l : Launch) (G : mm_G) (M : mm_M) (sz : Nat) (h st w : Nat) (a b : Int32) (f g : Nat → Int32) (h1 : M h = some (ob 5 [.ref st, .ref w, .int a, .int b])) (h2 : M st = some (ia G 8 f)) (h3 : M w = some (ia G 64 g))  : mm_v l yX4_mix wsX4_mix ({ frames := 0, cells := 0, slots := 0, locals := 0 } : Room) G ([.ref h] : List Value) M sz (fun M' => M' st = some (ia G 8 (mx f g)) ∧ mm_fr [st] M M') := by
  refine mm_enter (cc := cX4_mix) (maxL := 15) (ret := none) _ (by decide) rfl (Nat.le_of_ble_eq_true rfl) ?_
  intro p e s m below meth c ls S hr hlocks hname hA hC hR hl
  have hx := S.1
  have hb := S.2.1
  have hl : lv_has ls 15 [(0, .ref h)] := hl
  have inRX4 : ∀ w ∈ wsX40, w ∈ wsX4_mix := by decide +kernel
  have hF : mm_fr [st] M M := mm_fr.rf
  refine lv_aload_n hx hb dX4_mix_0 rfl (lv_at hl 0 rfl) ?_
  refine mm_get S hC hR (C := RX4) (T := TX4) (N := 4) (ref := "ForkWatch$Sha256") (v := .ref st) 0 h1 inRX4 rfl (by decide) (by decide +kernel) (fun _ h9 => h9) rfl dX4_mix_1 ?_
  refine lv_iconst (v := nI 0) hx hb dX4_mix_4 (by decide) ?_
  refine mm_iald S hC hR h2 (j := 0) (by omega) (by omega) dX4_mix_5 ?_
  refine lv_topi (fun x1 ex1 => ?_)
  refine lv_istore_n (lv' := [(1, .int x1), (0, .ref h)]) hx hb dX4_mix_6 rfl hl (by decide) rfl (fun ls hl => ?_)
  refine lv_aload_n hx hb dX4_mix_7 rfl (lv_at hl 1 rfl) ?_
  refine mm_get S hC hR (C := RX4) (T := TX4) (N := 4) (ref := "ForkWatch$Sha256") (v := .ref st) 0 h1 inRX4 rfl (by decide) (by decide +kernel) (fun _ h9 => h9) rfl dX4_mix_8 ?_
  refine lv_iconst (v := nI 1) hx hb dX4_mix_11 (by decide) ?_
  refine mm_iald S hC hR h2 (j := 1) (by omega) (by omega) dX4_mix_12 ?_
  refine lv_topi (fun x2 ex2 => ?_)
  refine lv_istore_n (lv' := [(2, .int x2), (1, .int x1), (0, .ref h)]) hx hb dX4_mix_13 rfl hl (by decide) rfl (fun ls hl => ?_)
  refine lv_aload_n hx hb dX4_mix_14 rfl (lv_at hl 2 rfl) ?_
  refine mm_get S hC hR (C := RX4) (T := TX4) (N := 4) (ref := "ForkWatch$Sha256") (v := .ref st) 0 h1 inRX4 rfl (by decide) (by decide +kernel) (fun _ h9 => h9) rfl dX4_mix_15 ?_
  refine lv_iconst (v := nI 2) hx hb dX4_mix_18 (by decide) ?_
  refine mm_iald S hC hR h2 (j := 2) (by omega) (by omega) dX4_mix_19 ?_
  refine lv_topi (fun x3 ex3 => ?_)
  refine lv_istore_n (lv' := [(3, .int x3), (2, .int x2), (1, .int x1), (0, .ref h)]) hx hb dX4_mix_20 rfl hl (by decide) rfl (fun ls hl => ?_)
  refine lv_aload_n hx hb dX4_mix_21 rfl (lv_at hl 3 rfl) ?_
  refine mm_get S hC hR (C := RX4) (T := TX4) (N := 4) (ref := "ForkWatch$Sha256") (v := .ref st) 0 h1 inRX4 rfl (by decide) (by decide +kernel) (fun _ h9 => h9) rfl dX4_mix_22 ?_
  refine lv_iconst (v := nI 3) hx hb dX4_mix_25 (by decide) ?_
  refine mm_iald S hC hR h2 (j := 3) (by omega) (by omega) dX4_mix_26 ?_
  refine lv_topi (fun x4 ex4 => ?_)
  refine lv_istore (lv' := [(4, .int x4), (3, .int x3), (2, .int x2), (1, .int x1), (0, .ref h)]) hx hb dX4_mix_27 hl (by decide) rfl (fun ls hl => ?_)
  refine lv_aload_n hx hb dX4_mix_29 rfl (lv_at hl 4 rfl) ?_
  refine mm_get S hC hR (C := RX4) (T := TX4) (N := 4) (ref := "ForkWatch$Sha256") (v := .ref st) 0 h1 inRX4 rfl (by decide) (by decide +kernel) (fun _ h9 => h9) rfl dX4_mix_30 ?_
  refine lv_iconst (v := nI 4) hx hb dX4_mix_33 (by decide) ?_
  refine mm_iald S hC hR h2 (j := 4) (by omega) (by omega) dX4_mix_34 ?_
  refine lv_topi (fun x5 ex5 => ?_)
  refine lv_istore (lv' := [(5, .int x5), (4, .int x4), (3, .int x3), (2, .int x2), (1, .int x1), (0, .ref h)]) hx hb dX4_mix_35 hl (by decide) rfl (fun ls hl => ?_)
  refine lv_aload_n hx hb dX4_mix_37 rfl (lv_at hl 5 rfl) ?_
  refine mm_get S hC hR (C := RX4) (T := TX4) (N := 4) (ref := "ForkWatch$Sha256") (v := .ref st) 0 h1 inRX4 rfl (by decide) (by decide +kernel) (fun _ h9 => h9) rfl dX4_mix_38 ?_
  refine lv_iconst (v := nI 5) hx hb dX4_mix_41 (by decide) ?_
  refine mm_iald S hC hR h2 (j := 5) (by omega) (by omega) dX4_mix_42 ?_
  refine lv_topi (fun x6 ex6 => ?_)
  refine lv_istore (lv' := [(6, .int x6), (5, .int x5), (4, .int x4), (3, .int x3), (2, .int x2), (1, .int x1), (0, .ref h)]) hx hb dX4_mix_43 hl (by decide) rfl (fun ls hl => ?_)
  refine lv_aload_n hx hb dX4_mix_45 rfl (lv_at hl 6 rfl) ?_
  refine mm_get S hC hR (C := RX4) (T := TX4) (N := 4) (ref := "ForkWatch$Sha256") (v := .ref st) 0 h1 inRX4 rfl (by decide) (by decide +kernel) (fun _ h9 => h9) rfl dX4_mix_46 ?_
  refine lv_bipush (v := nI 6) hx hb dX4_mix_49 (by decide) ?_
  refine mm_iald S hC hR h2 (j := 6) (by omega) (by omega) dX4_mix_51 ?_
  refine lv_topi (fun x7 ex7 => ?_)
  refine lv_istore (lv' := [(7, .int x7), (6, .int x6), (5, .int x5), (4, .int x4), (3, .int x3), (2, .int x2), (1, .int x1), (0, .ref h)]) hx hb dX4_mix_52 hl (by decide) rfl (fun ls hl => ?_)
  refine lv_aload_n hx hb dX4_mix_54 rfl (lv_at hl 7 rfl) ?_
  refine mm_get S hC hR (C := RX4) (T := TX4) (N := 4) (ref := "ForkWatch$Sha256") (v := .ref st) 0 h1 inRX4 rfl (by decide) (by decide +kernel) (fun _ h9 => h9) rfl dX4_mix_55 ?_
  refine lv_bipush (v := nI 7) hx hb dX4_mix_58 (by decide) ?_
  refine mm_iald S hC hR h2 (j := 7) (by omega) (by omega) dX4_mix_60 ?_
  refine lv_topi (fun x8 ex8 => ?_)
  refine lv_istore (lv' := [(8, .int x8), (7, .int x7), (6, .int x6), (5, .int x5), (4, .int x4), (3, .int x3), (2, .int x2), (1, .int x1), (0, .ref h)]) hx hb dX4_mix_61 hl (by decide) rfl (fun ls hl => ?_)
  refine lv_iconst (v := nI 0) hx hb dX4_mix_63 (by decide) ?_
  refine lv_istore (lv' := [(9, .int (nI 0)), (8, .int x8), (7, .int x7), (6, .int x6), (5, .int x5), (4, .int x4), (3, .int x3), (2, .int x2), (1, .int x1), (0, .ref h)]) hx hb dX4_mix_64 hl (by decide) rfl (fun ls hl => ?_)
  have loop : ∀ (n i : Nat) (ra rb rc rd re rf rg rh : Int32) (ls : Array Slot), 64 < i + n → i ≤ 64 → ra = mx_go f g i 0 → rb = mx_go f g i 1 → rc = mx_go f g i 2 → rd = mx_go f g i 3 → re = mx_go f g i 4 → rf = mx_go f g i 5 → rg = mx_go f g i 6 → rh = mx_go f g i 7 → lv_has ls 15 [(0, .ref h), (1, .int ra), (2, .int rb), (3, .int rc), (4, .int rd), (5, .int re), (6, .int rf), (7, .int rg), (8, .int rh), (9, .int (nI i))] → W p l e ({ frames := 0, cells := 0, slots := 0, locals := 0 } : Room) s m ([.ref h] : List Value).toArray below meth c s.heap [] 0 0 (MQ below (va_Qv (fun M' => M' st = some (ia G 8 (mx f g)) ∧ mm_fr [st] M M') (fun M' t => mm_H G (mm_A M sz) M' t.heap) (mm_A M sz)) ([.ref h] : List Value).toArray s 0 0 (mm_A M sz)) (F0 m 66 ls []) := by
    intro n
    induction n with
    | zero =>
      intro i ra rb rc rd re rf rg rh ls hn hi
      omega
    | succ n ih =>
      intro i ra rb rc rd re rf rg rh ls hn hi Era Erb Erc Erd Ere Erf Erg Erh hl
      refine lv_iload hx hb dX4_mix_66 (lv_at hl 9 rfl) ?_
      refine lv_bipush (v := nI 64) hx hb dX4_mix_68 (by decide) ?_
      refine lv_icmp_ge (tgt := 234) hx hb dX4_mix_70 (by decide) (fun c9 => ?_) (fun c9 => ?_)
      · have c9 : 64 ≤ i := (nI_leI (by omega) (by omega)).mp c9
        have e4 : i = 64 := by omega
        subst e4
        refine lv_aload_n hx hb dX4_mix_234 rfl (lv_at hl 0 rfl) ?_
        refine mm_get S hC hR (C := RX4) (T := TX4) (N := 4) (ref := "ForkWatch$Sha256") (v := .ref st) 0 h1 inRX4 rfl (by decide) (by decide +kernel) (fun _ h9 => h9) rfl dX4_mix_235 ?_
        refine lv_iconst (v := nI 0) hx hb dX4_mix_238 (by decide) ?_
        refine lv_dup2_11 hx hb dX4_mix_239 rfl rfl ?_
        refine mm_iald S hC hR h2 (j := 0) (by omega) (by omega) dX4_mix_240 ?_
        refine lv_iload_n hx hb dX4_mix_241 rfl (lv_at hl 1 rfl) ?_
        refine lv_iadd hx hb dX4_mix_242 ?_
        refine mm_iast S hC hR h2 (j := 0) (by omega) (by omega) dX4_mix_243 (fun H locs M10 g12 f11 hR => ?_)
        have h1 := f11.at h1 (mm_nc (mm_neoi h1 h2) mm_n0)
        have h3 := f11.at h3 (mm_nc (mm_nelen h3 h2 (by decide)) mm_n0)
        have h2 : M10 st = some (ia G 8 (upd f 0 ((f 0) + ra))) := g12
        have hF := hF.tr f11 (mm_ic 0 rfl mm_i0)
        obtain ⟨fn13, efn13⟩ : ∃ z : Nat → Int32, z = upd f 0 ((f 0) + ra) := ⟨_, rfl⟩
        rw [← efn13] at h2
        refine lv_aload_n hx hb dX4_mix_244 rfl (lv_at hl 0 rfl) ?_
        refine mm_get S hC hR (C := RX4) (T := TX4) (N := 4) (ref := "ForkWatch$Sha256") (v := .ref st) 0 h1 inRX4 rfl (by decide) (by decide +kernel) (fun _ h9 => h9) rfl dX4_mix_245 ?_
        refine lv_iconst (v := nI 1) hx hb dX4_mix_248 (by decide) ?_
        refine lv_dup2_11 hx hb dX4_mix_249 rfl rfl ?_
        refine mm_iald S hC hR h2 (j := 1) (by omega) (by omega) dX4_mix_250 ?_
        refine lv_iload_n hx hb dX4_mix_251 rfl (lv_at hl 2 rfl) ?_
        refine lv_iadd hx hb dX4_mix_252 ?_
        refine mm_iast S hC hR h2 (j := 1) (by omega) (by omega) dX4_mix_253 (fun H locs M14 g16 f15 hR => ?_)
        have h1 := f15.at h1 (mm_nc (mm_neoi h1 h2) mm_n0)
        have h3 := f15.at h3 (mm_nc (mm_nelen h3 h2 (by decide)) mm_n0)
        have h2 : M14 st = some (ia G 8 (upd fn13 1 ((fn13 1) + rb))) := g16
        have hF := hF.tr f15 (mm_ic 0 rfl mm_i0)
        obtain ⟨fn17, efn17⟩ : ∃ z : Nat → Int32, z = upd fn13 1 ((fn13 1) + rb) := ⟨_, rfl⟩
        rw [← efn17] at h2
        refine lv_aload_n hx hb dX4_mix_254 rfl (lv_at hl 0 rfl) ?_
        refine mm_get S hC hR (C := RX4) (T := TX4) (N := 4) (ref := "ForkWatch$Sha256") (v := .ref st) 0 h1 inRX4 rfl (by decide) (by decide +kernel) (fun _ h9 => h9) rfl dX4_mix_255 ?_
        refine lv_iconst (v := nI 2) hx hb dX4_mix_258 (by decide) ?_
        refine lv_dup2_11 hx hb dX4_mix_259 rfl rfl ?_
        refine mm_iald S hC hR h2 (j := 2) (by omega) (by omega) dX4_mix_260 ?_
        refine lv_iload_n hx hb dX4_mix_261 rfl (lv_at hl 3 rfl) ?_
        refine lv_iadd hx hb dX4_mix_262 ?_
        refine mm_iast S hC hR h2 (j := 2) (by omega) (by omega) dX4_mix_263 (fun H locs M18 g20 f19 hR => ?_)
        have h1 := f19.at h1 (mm_nc (mm_neoi h1 h2) mm_n0)
        have h3 := f19.at h3 (mm_nc (mm_nelen h3 h2 (by decide)) mm_n0)
        have h2 : M18 st = some (ia G 8 (upd fn17 2 ((fn17 2) + rc))) := g20
        have hF := hF.tr f19 (mm_ic 0 rfl mm_i0)
        obtain ⟨fn21, efn21⟩ : ∃ z : Nat → Int32, z = upd fn17 2 ((fn17 2) + rc) := ⟨_, rfl⟩
        rw [← efn21] at h2
        refine lv_aload_n hx hb dX4_mix_264 rfl (lv_at hl 0 rfl) ?_
        refine mm_get S hC hR (C := RX4) (T := TX4) (N := 4) (ref := "ForkWatch$Sha256") (v := .ref st) 0 h1 inRX4 rfl (by decide) (by decide +kernel) (fun _ h9 => h9) rfl dX4_mix_265 ?_
        refine lv_iconst (v := nI 3) hx hb dX4_mix_268 (by decide) ?_
        refine lv_dup2_11 hx hb dX4_mix_269 rfl rfl ?_
        refine mm_iald S hC hR h2 (j := 3) (by omega) (by omega) dX4_mix_270 ?_
        refine lv_iload hx hb dX4_mix_271 (lv_at hl 4 rfl) ?_
        refine lv_iadd hx hb dX4_mix_273 ?_
        refine mm_iast S hC hR h2 (j := 3) (by omega) (by omega) dX4_mix_274 (fun H locs M22 g24 f23 hR => ?_)
        have h1 := f23.at h1 (mm_nc (mm_neoi h1 h2) mm_n0)
        have h3 := f23.at h3 (mm_nc (mm_nelen h3 h2 (by decide)) mm_n0)
        have h2 : M22 st = some (ia G 8 (upd fn21 3 ((fn21 3) + rd))) := g24
        have hF := hF.tr f23 (mm_ic 0 rfl mm_i0)
        obtain ⟨fn25, efn25⟩ : ∃ z : Nat → Int32, z = upd fn21 3 ((fn21 3) + rd) := ⟨_, rfl⟩
        rw [← efn25] at h2
        refine lv_aload_n hx hb dX4_mix_275 rfl (lv_at hl 0 rfl) ?_
        refine mm_get S hC hR (C := RX4) (T := TX4) (N := 4) (ref := "ForkWatch$Sha256") (v := .ref st) 0 h1 inRX4 rfl (by decide) (by decide +kernel) (fun _ h9 => h9) rfl dX4_mix_276 ?_
        refine lv_iconst (v := nI 4) hx hb dX4_mix_279 (by decide) ?_
        refine lv_dup2_11 hx hb dX4_mix_280 rfl rfl ?_
        refine mm_iald S hC hR h2 (j := 4) (by omega) (by omega) dX4_mix_281 ?_
        refine lv_iload hx hb dX4_mix_282 (lv_at hl 5 rfl) ?_
        refine lv_iadd hx hb dX4_mix_284 ?_
        refine mm_iast S hC hR h2 (j := 4) (by omega) (by omega) dX4_mix_285 (fun H locs M26 g28 f27 hR => ?_)
        have h1 := f27.at h1 (mm_nc (mm_neoi h1 h2) mm_n0)
        have h3 := f27.at h3 (mm_nc (mm_nelen h3 h2 (by decide)) mm_n0)
        have h2 : M26 st = some (ia G 8 (upd fn25 4 ((fn25 4) + re))) := g28
        have hF := hF.tr f27 (mm_ic 0 rfl mm_i0)
        obtain ⟨fn29, efn29⟩ : ∃ z : Nat → Int32, z = upd fn25 4 ((fn25 4) + re) := ⟨_, rfl⟩
        rw [← efn29] at h2
        refine lv_aload_n hx hb dX4_mix_286 rfl (lv_at hl 0 rfl) ?_
        refine mm_get S hC hR (C := RX4) (T := TX4) (N := 4) (ref := "ForkWatch$Sha256") (v := .ref st) 0 h1 inRX4 rfl (by decide) (by decide +kernel) (fun _ h9 => h9) rfl dX4_mix_287 ?_
        refine lv_iconst (v := nI 5) hx hb dX4_mix_290 (by decide) ?_
        refine lv_dup2_11 hx hb dX4_mix_291 rfl rfl ?_
        refine mm_iald S hC hR h2 (j := 5) (by omega) (by omega) dX4_mix_292 ?_
        refine lv_iload hx hb dX4_mix_293 (lv_at hl 6 rfl) ?_
        refine lv_iadd hx hb dX4_mix_295 ?_
        refine mm_iast S hC hR h2 (j := 5) (by omega) (by omega) dX4_mix_296 (fun H locs M30 g32 f31 hR => ?_)
        have h1 := f31.at h1 (mm_nc (mm_neoi h1 h2) mm_n0)
        have h3 := f31.at h3 (mm_nc (mm_nelen h3 h2 (by decide)) mm_n0)
        have h2 : M30 st = some (ia G 8 (upd fn29 5 ((fn29 5) + rf))) := g32
        have hF := hF.tr f31 (mm_ic 0 rfl mm_i0)
        obtain ⟨fn33, efn33⟩ : ∃ z : Nat → Int32, z = upd fn29 5 ((fn29 5) + rf) := ⟨_, rfl⟩
        rw [← efn33] at h2
        refine lv_aload_n hx hb dX4_mix_297 rfl (lv_at hl 0 rfl) ?_
        refine mm_get S hC hR (C := RX4) (T := TX4) (N := 4) (ref := "ForkWatch$Sha256") (v := .ref st) 0 h1 inRX4 rfl (by decide) (by decide +kernel) (fun _ h9 => h9) rfl dX4_mix_298 ?_
        refine lv_bipush (v := nI 6) hx hb dX4_mix_301 (by decide) ?_
        refine lv_dup2_11 hx hb dX4_mix_303 rfl rfl ?_
        refine mm_iald S hC hR h2 (j := 6) (by omega) (by omega) dX4_mix_304 ?_
        refine lv_iload hx hb dX4_mix_305 (lv_at hl 7 rfl) ?_
        refine lv_iadd hx hb dX4_mix_307 ?_
        refine mm_iast S hC hR h2 (j := 6) (by omega) (by omega) dX4_mix_308 (fun H locs M34 g36 f35 hR => ?_)
        have h1 := f35.at h1 (mm_nc (mm_neoi h1 h2) mm_n0)
        have h3 := f35.at h3 (mm_nc (mm_nelen h3 h2 (by decide)) mm_n0)
        have h2 : M34 st = some (ia G 8 (upd fn33 6 ((fn33 6) + rg))) := g36
        have hF := hF.tr f35 (mm_ic 0 rfl mm_i0)
        obtain ⟨fn37, efn37⟩ : ∃ z : Nat → Int32, z = upd fn33 6 ((fn33 6) + rg) := ⟨_, rfl⟩
        rw [← efn37] at h2
        refine lv_aload_n hx hb dX4_mix_309 rfl (lv_at hl 0 rfl) ?_
        refine mm_get S hC hR (C := RX4) (T := TX4) (N := 4) (ref := "ForkWatch$Sha256") (v := .ref st) 0 h1 inRX4 rfl (by decide) (by decide +kernel) (fun _ h9 => h9) rfl dX4_mix_310 ?_
        refine lv_bipush (v := nI 7) hx hb dX4_mix_313 (by decide) ?_
        refine lv_dup2_11 hx hb dX4_mix_315 rfl rfl ?_
        refine mm_iald S hC hR h2 (j := 7) (by omega) (by omega) dX4_mix_316 ?_
        refine lv_iload hx hb dX4_mix_317 (lv_at hl 8 rfl) ?_
        refine lv_iadd hx hb dX4_mix_319 ?_
        refine mm_iast S hC hR h2 (j := 7) (by omega) (by omega) dX4_mix_320 (fun H locs M38 g40 f39 hR => ?_)
        have h1 := f39.at h1 (mm_nc (mm_neoi h1 h2) mm_n0)
        have h3 := f39.at h3 (mm_nc (mm_nelen h3 h2 (by decide)) mm_n0)
        have h2 : M38 st = some (ia G 8 (upd fn37 7 ((fn37 7) + rh))) := g40
        have hF := hF.tr f39 (mm_ic 0 rfl mm_i0)
        obtain ⟨fn41, efn41⟩ : ∃ z : Nat → Int32, z = upd fn37 7 ((fn37 7) + rh) := ⟨_, rfl⟩
        rw [← efn41] at h2
        have e9 : fn41 = mx f g := by subst efn13 efn17 efn21 efn25 efn29 efn33 efn37 efn41 Era Erb Erc Erd Ere Erf Erg Erh; rfl
        exact mm_vret S hr hlocks hR ⟨by rw [e9] at h2; exact h2, hF⟩ dX4_mix_321
      · have c9 : ¬ (64 ≤ i) := fun z => c9 ((nI_leI (by omega) (by omega)).mpr z)
        refine lv_iload hx hb dX4_mix_73 (lv_at hl 5 rfl) ?_
        refine lv_bipush (v := nI 6) hx hb dX4_mix_75 (by decide) ?_
        refine lv_iushr hx hb dX4_mix_77 rfl ?_
        refine lv_iload hx hb dX4_mix_78 (lv_at hl 5 rfl) ?_
        refine lv_bipush (v := nI 26) hx hb dX4_mix_80 (by decide) ?_
        refine lv_ishl hx hb dX4_mix_82 ?_
        refine lv_ior hx hb dX4_mix_83 ?_
        refine lv_iload hx hb dX4_mix_84 (lv_at hl 5 rfl) ?_
        refine lv_bipush (v := nI 11) hx hb dX4_mix_86 (by decide) ?_
        refine lv_iushr hx hb dX4_mix_88 rfl ?_
        refine lv_iload hx hb dX4_mix_89 (lv_at hl 5 rfl) ?_
        refine lv_bipush (v := nI 21) hx hb dX4_mix_91 (by decide) ?_
        refine lv_ishl hx hb dX4_mix_93 ?_
        refine lv_ior hx hb dX4_mix_94 ?_
        refine lv_ixor hx hb dX4_mix_95 ?_
        refine lv_iload hx hb dX4_mix_96 (lv_at hl 5 rfl) ?_
        refine lv_bipush (v := nI 25) hx hb dX4_mix_98 (by decide) ?_
        refine lv_iushr hx hb dX4_mix_100 rfl ?_
        refine lv_iload hx hb dX4_mix_101 (lv_at hl 5 rfl) ?_
        refine lv_bipush (v := nI 7) hx hb dX4_mix_103 (by decide) ?_
        refine lv_ishl hx hb dX4_mix_105 ?_
        refine lv_ior hx hb dX4_mix_106 ?_
        refine lv_ixor hx hb dX4_mix_107 ?_
        refine lv_topi (fun x42 ex42 => ?_)
        refine lv_istore (lv' := [(10, .int x42), (0, .ref h), (1, .int ra), (2, .int rb), (3, .int rc), (4, .int rd), (5, .int re), (6, .int rf), (7, .int rg), (8, .int rh), (9, .int (nI i))]) hx hb dX4_mix_108 hl (by decide) rfl (fun ls hl => ?_)
        refine lv_iload_n hx hb dX4_mix_110 rfl (lv_at hl 2 rfl) ?_
        refine lv_iconst (v := nI 2) hx hb dX4_mix_111 (by decide) ?_
        refine lv_iushr hx hb dX4_mix_112 rfl ?_
        refine lv_iload_n hx hb dX4_mix_113 rfl (lv_at hl 2 rfl) ?_
        refine lv_bipush (v := nI 30) hx hb dX4_mix_114 (by decide) ?_
        refine lv_ishl hx hb dX4_mix_116 ?_
        refine lv_ior hx hb dX4_mix_117 ?_
        refine lv_iload_n hx hb dX4_mix_118 rfl (lv_at hl 2 rfl) ?_
        refine lv_bipush (v := nI 13) hx hb dX4_mix_119 (by decide) ?_
        refine lv_iushr hx hb dX4_mix_121 rfl ?_
        refine lv_iload_n hx hb dX4_mix_122 rfl (lv_at hl 2 rfl) ?_
        refine lv_bipush (v := nI 19) hx hb dX4_mix_123 (by decide) ?_
        refine lv_ishl hx hb dX4_mix_125 ?_
        refine lv_ior hx hb dX4_mix_126 ?_
        refine lv_ixor hx hb dX4_mix_127 ?_
        refine lv_iload_n hx hb dX4_mix_128 rfl (lv_at hl 2 rfl) ?_
        refine lv_bipush (v := nI 22) hx hb dX4_mix_129 (by decide) ?_
        refine lv_iushr hx hb dX4_mix_131 rfl ?_
        refine lv_iload_n hx hb dX4_mix_132 rfl (lv_at hl 2 rfl) ?_
        refine lv_bipush (v := nI 10) hx hb dX4_mix_133 (by decide) ?_
        refine lv_ishl hx hb dX4_mix_135 ?_
        refine lv_ior hx hb dX4_mix_136 ?_
        refine lv_ixor hx hb dX4_mix_137 ?_
        refine lv_topi (fun x43 ex43 => ?_)
        refine lv_istore (lv' := [(11, .int x43), (10, .int x42), (0, .ref h), (1, .int ra), (2, .int rb), (3, .int rc), (4, .int rd), (5, .int re), (6, .int rf), (7, .int rg), (8, .int rh), (9, .int (nI i))]) hx hb dX4_mix_138 hl (by decide) rfl (fun ls hl => ?_)
        refine lv_iload hx hb dX4_mix_140 (lv_at hl 7 rfl) ?_
        refine lv_iload hx hb dX4_mix_142 (lv_at hl 8 rfl) ?_
        refine lv_iand hx hb dX4_mix_144 ?_
        refine lv_iload hx hb dX4_mix_145 (lv_at hl 7 rfl) ?_
        refine lv_iconst (v := -1) hx hb dX4_mix_147 (by decide) ?_
        refine lv_ixor hx hb dX4_mix_148 ?_
        refine lv_iload hx hb dX4_mix_149 (lv_at hl 9 rfl) ?_
        refine lv_iand hx hb dX4_mix_151 ?_
        refine lv_ixor hx hb dX4_mix_152 ?_
        refine lv_topi (fun x44 ex44 => ?_)
        refine lv_istore (lv' := [(12, .int x44), (11, .int x43), (10, .int x42), (0, .ref h), (1, .int ra), (2, .int rb), (3, .int rc), (4, .int rd), (5, .int re), (6, .int rf), (7, .int rg), (8, .int rh), (9, .int (nI i))]) hx hb dX4_mix_153 hl (by decide) rfl (fun ls hl => ?_)
        refine lv_iload_n hx hb dX4_mix_155 rfl (lv_at hl 4 rfl) ?_
        refine lv_iload_n hx hb dX4_mix_156 rfl (lv_at hl 5 rfl) ?_
        refine lv_iand hx hb dX4_mix_157 ?_
        refine lv_iload_n hx hb dX4_mix_158 rfl (lv_at hl 4 rfl) ?_
        refine lv_iload_n hx hb dX4_mix_159 rfl (lv_at hl 6 rfl) ?_
        refine lv_iand hx hb dX4_mix_160 ?_
        refine lv_ixor hx hb dX4_mix_161 ?_
        refine lv_iload_n hx hb dX4_mix_162 rfl (lv_at hl 5 rfl) ?_
        refine lv_iload_n hx hb dX4_mix_163 rfl (lv_at hl 6 rfl) ?_
        refine lv_iand hx hb dX4_mix_164 ?_
        refine lv_ixor hx hb dX4_mix_165 ?_
        refine lv_topi (fun x45 ex45 => ?_)
        refine lv_istore (lv' := [(13, .int x45), (12, .int x44), (11, .int x43), (10, .int x42), (0, .ref h), (1, .int ra), (2, .int rb), (3, .int rc), (4, .int rd), (5, .int re), (6, .int rf), (7, .int rg), (8, .int rh), (9, .int (nI i))]) hx hb dX4_mix_166 hl (by decide) rfl (fun ls hl => ?_)
        refine lv_iload hx hb dX4_mix_168 (lv_at hl 12 rfl) ?_
        refine lv_iload hx hb dX4_mix_170 (lv_at hl 3 rfl) ?_
        refine lv_iadd hx hb dX4_mix_172 ?_
        refine lv_iload hx hb dX4_mix_173 (lv_at hl 1 rfl) ?_
        refine lv_iadd hx hb dX4_mix_175 ?_
        refine mm_ground S hC hR (by decide +kernel) dX4_mix_176 ?_
        refine lv_iload hx hb dX4_mix_179 (lv_at hl 13 rfl) ?_
        refine mm_tround S hC hR (j := i) (by omega) dX4_mix_181 ?_
        refine lv_iadd hx hb dX4_mix_182 ?_
        refine lv_aload_n hx hb dX4_mix_183 rfl (lv_at hl 4 rfl) ?_
        refine mm_get S hC hR (C := RX4) (T := TX4) (N := 4) (ref := "ForkWatch$Sha256") (v := .ref w) 1 h1 inRX4 rfl (by decide) (by decide +kernel) (fun _ h9 => h9) rfl dX4_mix_184 ?_
        refine lv_iload hx hb dX4_mix_187 (lv_at hl 13 rfl) ?_
        refine mm_iald S hC hR h3 (j := i) (by omega) (by omega) dX4_mix_189 ?_
        refine lv_iadd hx hb dX4_mix_190 ?_
        refine lv_topi (fun x46 ex46 => ?_)
        refine lv_istore (lv' := [(14, .int x46), (13, .int x45), (12, .int x44), (11, .int x43), (10, .int x42), (0, .ref h), (1, .int ra), (2, .int rb), (3, .int rc), (4, .int rd), (5, .int re), (6, .int rf), (7, .int rg), (8, .int rh), (9, .int (nI i))]) hx hb dX4_mix_191 hl (by decide) rfl (fun ls hl => ?_)
        refine lv_iload hx hb dX4_mix_193 (lv_at hl 12 rfl) ?_
        refine lv_istore (lv' := [(8, .int rg), (14, .int x46), (13, .int x45), (12, .int x44), (11, .int x43), (10, .int x42), (0, .ref h), (1, .int ra), (2, .int rb), (3, .int rc), (4, .int rd), (5, .int re), (6, .int rf), (7, .int rg), (9, .int (nI i))]) hx hb dX4_mix_195 hl (by decide) rfl (fun ls hl => ?_)
        refine lv_iload hx hb dX4_mix_197 (lv_at hl 12 rfl) ?_
        refine lv_istore (lv' := [(7, .int rf), (8, .int rg), (14, .int x46), (13, .int x45), (12, .int x44), (11, .int x43), (10, .int x42), (0, .ref h), (1, .int ra), (2, .int rb), (3, .int rc), (4, .int rd), (5, .int re), (6, .int rf), (9, .int (nI i))]) hx hb dX4_mix_199 hl (by decide) rfl (fun ls hl => ?_)
        refine lv_iload hx hb dX4_mix_201 (lv_at hl 12 rfl) ?_
        refine lv_istore (lv' := [(6, .int re), (7, .int rf), (8, .int rg), (14, .int x46), (13, .int x45), (12, .int x44), (11, .int x43), (10, .int x42), (0, .ref h), (1, .int ra), (2, .int rb), (3, .int rc), (4, .int rd), (5, .int re), (9, .int (nI i))]) hx hb dX4_mix_203 hl (by decide) rfl (fun ls hl => ?_)
        refine lv_iload hx hb dX4_mix_205 (lv_at hl 12 rfl) ?_
        refine lv_iload hx hb dX4_mix_207 (lv_at hl 3 rfl) ?_
        refine lv_iadd hx hb dX4_mix_209 ?_
        refine lv_istore (lv' := [(5, .int (rd + x46)), (6, .int re), (7, .int rf), (8, .int rg), (14, .int x46), (13, .int x45), (12, .int x44), (11, .int x43), (10, .int x42), (0, .ref h), (1, .int ra), (2, .int rb), (3, .int rc), (4, .int rd), (9, .int (nI i))]) hx hb dX4_mix_210 hl (by decide) rfl (fun ls hl => ?_)
        refine lv_iload_n hx hb dX4_mix_212 rfl (lv_at hl 12 rfl) ?_
        refine lv_istore (lv' := [(4, .int rc), (5, .int (rd + x46)), (6, .int re), (7, .int rf), (8, .int rg), (14, .int x46), (13, .int x45), (12, .int x44), (11, .int x43), (10, .int x42), (0, .ref h), (1, .int ra), (2, .int rb), (3, .int rc), (9, .int (nI i))]) hx hb dX4_mix_213 hl (by decide) rfl (fun ls hl => ?_)
        refine lv_iload_n hx hb dX4_mix_215 rfl (lv_at hl 12 rfl) ?_
        refine lv_istore_n (lv' := [(3, .int rb), (4, .int rc), (5, .int (rd + x46)), (6, .int re), (7, .int rf), (8, .int rg), (14, .int x46), (13, .int x45), (12, .int x44), (11, .int x43), (10, .int x42), (0, .ref h), (1, .int ra), (2, .int rb), (9, .int (nI i))]) hx hb dX4_mix_216 rfl hl (by decide) rfl (fun ls hl => ?_)
        refine lv_iload_n hx hb dX4_mix_217 rfl (lv_at hl 12 rfl) ?_
        refine lv_istore_n (lv' := [(2, .int ra), (3, .int rb), (4, .int rc), (5, .int (rd + x46)), (6, .int re), (7, .int rf), (8, .int rg), (14, .int x46), (13, .int x45), (12, .int x44), (11, .int x43), (10, .int x42), (0, .ref h), (1, .int ra), (9, .int (nI i))]) hx hb dX4_mix_218 rfl hl (by decide) rfl (fun ls hl => ?_)
        refine lv_iload hx hb dX4_mix_219 (lv_at hl 7 rfl) ?_
        refine lv_iload hx hb dX4_mix_221 (lv_at hl 10 rfl) ?_
        refine lv_iadd hx hb dX4_mix_223 ?_
        refine lv_iload hx hb dX4_mix_224 (lv_at hl 8 rfl) ?_
        refine lv_iadd hx hb dX4_mix_226 ?_
        refine lv_topi (fun x47 ex47 => ?_)
        refine lv_istore_n (lv' := [(1, .int x47), (2, .int ra), (3, .int rb), (4, .int rc), (5, .int (rd + x46)), (6, .int re), (7, .int rf), (8, .int rg), (14, .int x46), (13, .int x45), (12, .int x44), (11, .int x43), (10, .int x42), (0, .ref h), (9, .int (nI i))]) hx hb dX4_mix_227 rfl hl (by decide) rfl (fun ls hl => ?_)
        refine lv_iinc (v := (nI (i + 1))) (lv' := [(9, .int (nI (i + 1))), (1, .int x47), (2, .int ra), (3, .int rb), (4, .int rc), (5, .int (rd + x46)), (6, .int re), (7, .int rf), (8, .int rg), (14, .int x46), (13, .int x45), (12, .int x44), (11, .int x43), (10, .int x42), (0, .ref h)]) hx hb dX4_mix_228 hl (k := 14) rfl (by rw [show Int32.ofInt 1 = nI 1 from by decide]; exact nI_add _ _) (by decide) rfl (fun ls hl => ?_)
        refine lv_goto (tgt := 66) hx hb dX4_mix_231 (by decide) ?_
        have q : ∀ j, j < 8 → True := fun _ _ => trivial
        exact ih (i + 1) x47 ra rb rc (rd + x46) re rf rg ls (by omega) (by omega) (by subst ex42 ex43 ex44 ex45 ex46 ex47 Era Erb Erc Erd Ere Erf Erg Erh; rfl) (by subst ex42 ex43 ex44 ex45 ex46 ex47 Era Erb Erc Erd Ere Erf Erg Erh; rfl) (by subst ex42 ex43 ex44 ex45 ex46 ex47 Era Erb Erc Erd Ere Erf Erg Erh; rfl) (by subst ex42 ex43 ex44 ex45 ex46 ex47 Era Erb Erc Erd Ere Erf Erg Erh; rfl) (by subst ex42 ex43 ex44 ex45 ex46 ex47 Era Erb Erc Erd Ere Erf Erg Erh; rfl) (by subst ex42 ex43 ex44 ex45 ex46 ex47 Era Erb Erc Erd Ere Erf Erg Erh; rfl) (by subst ex42 ex43 ex44 ex45 ex46 ex47 Era Erb Erc Erd Ere Erf Erg Erh; rfl) (by subst ex42 ex43 ex44 ex45 ex46 ex47 Era Erb Erc Erd Ere Erf Erg Erh; rfl) (lv_sub hl [14, 1, 2, 3, 4, 5, 6, 7, 8, 0] rfl)
  exact loop 65 0 x1 x2 x3 x4 x5 x6 x7 x8 ls (by omega) (by omega) ex1 ex2 ex3 ex4 ex5 ex6 ex7 ex8 (lv_sub hl [9, 8, 7, 6, 5, 4, 3, 2, 1, 0] rfl)
end
section
theorem sh_lo {f g : Nat → Int32} {n : Nat} {b : Int32} (h : n + 1 ≠ 64) : sh_take (f, g, n) b = (f, sh_w g n b, n + 1) := if_neg h
theorem sh_hi {f g : Nat → Int32} {n : Nat} {b : Int32} (h : n + 1 = 64) : sh_take (f, g, n) b = (mx f (sp (sh_w g n b)), sp (sh_w g n b), 0) := if_pos h
theorem sh_n {q : ShS} (b : Int32) (h : q.2.2 < 64) : (sh_take q b).2.2 = (q.2.2 + 1) % 64 := by
  unfold sh_take
  split
  · rename_i e
    rw [e]
  · show q.2.2 + 1 = _
    rw [Nat.mod_eq_of_lt (by omega)]
theorem sh_ns {q : ShS} (r : Nat → Int32) (h : q.2.2 < 64) : ∀ i, (sh_takes q r i).2.2 = (q.2.2 + i) % 64
  | 0 => by rw [Nat.add_zero, Nat.mod_eq_of_lt h]; rfl
  | i + 1 => by
    show (sh_take (sh_takes q r i) (r i)).2.2 = _
    rw [sh_n _ (by rw [sh_ns r h i]; exact Nat.mod_lt _ (by decide)), sh_ns r h i]
    omega
/-- zeros until 56 of the block are filled -/
def sh_fill (q : ShS) : ShS := sh_takes q (fun _ => nI 0) ((120 - q.2.2) % 64)
def sf : Nat → Int32
  | 0 => nI 56
  | j + 1 => sf j + Int32.ofInt (-8)
theorem sf_ge : ∀ j, j < 8 → ¬ sf j < 0 := by decide
theorem sf_8 : sf 8 < 0 := by decide
/-- the eight bytes of the length -/
def lb (b : Int64) (j : Nat) : Int32 := (b.toUInt64 >>> ((sf j).toInt64.toUInt64 &&& Int64.toUInt64 63)).toInt64.toInt32 &&& nI 255
def sh_end (q : ShS) (t : Nat) : Nat → Int32 := (sh_takes (sh_fill (sh_take q (nI 128))) (lb (8 * (nI t).toInt64)) 8).1
/-- the digest's bytes, into a row -/
def dg_go (f o : Nat → Int32) (at_ : Nat) : Nat → Nat → Int32
  | 0 => o
  | i + 1 => upd (dg_go f o at_ i) (at_ + i) (ru (f (i / 4)) (24 - 8 * (i % 4)) &&& nI 255)

set_option maxHeartbeats 4000000 in
set_option maxRecDepth 100000 in
/-- take(b) -/
theorem c_X4_take (l : Launch) (G : mm_G) (M : mm_M) (sz : Nat) (h st w : Nat) (q : ShS) (t : Nat) (b : Int32) (h1 : M h = some (ob 5 [.ref st, .ref w, .int (nI q.2.2), .int (nI t)])) (h2 : M st = some (ia G 8 q.1)) (h3 : M w = some (ia G 64 q.2.1)) (hn : q.2.2 < 64) : mm_v l yX4_take wsX4_take ({ frames := 1, cells := 0, slots := 0, locals := 50 } : Room) G ([.ref h, .int b] : List Value) M sz (fun M' => shA G M' h st w (sh_take q b) (t + 1) ∧ mm_fr [h, st, w] M M') := by
  refine mm_enter (cc := cX4_take) (maxL := 2) (ret := none) _ (by decide) rfl (Nat.le_of_ble_eq_true rfl) ?_
  intro p e s m below meth c ls S hr hlocks hname hA hC hR hl
  have hx := S.1
  have hb := S.2.1
  have hl : lv_has ls 2 [(0, .ref h), (1, .int b)] := hl
  have inRX4 : ∀ w ∈ wsX40, w ∈ wsX4_take := by decide +kernel
  have hF : mm_fr [h, st, w] M M := mm_fr.rf
  obtain ⟨f, g, n⟩ := q
  dsimp only at hn h1 h2 h3
  refine lv_aload_n hx hb dX4_take_0 rfl (lv_at hl 0 rfl) ?_
  refine mm_get S hC hR (C := RX4) (T := TX4) (N := 4) (ref := "ForkWatch$Sha256") (v := .ref w) 1 h1 inRX4 rfl (by decide) (by decide +kernel) (fun _ h9 => h9) rfl dX4_take_1 ?_
  refine lv_aload_n hx hb dX4_take_4 rfl (lv_at hl 0 rfl) ?_
  refine mm_get S hC hR (C := RX4) (T := TX4) (N := 4) (ref := "ForkWatch$Sha256") (v := .int (nI n)) 2 h1 inRX4 rfl (by decide) (by decide +kernel) (fun _ h9 => h9) rfl dX4_take_5 ?_
  refine lv_iconst (v := nI 2) hx hb dX4_take_8 (by decide) ?_
  refine lv_ishr hx hb dX4_take_9 ?_
  refine mm_eqi (pk_shrN (by omega) _ 2 (by decide)) ?_
  refine mm_eqi (congrArg nI (show n / 2 ^ 2 = n / 4 by omega)) ?_
  refine lv_aload_n hx hb dX4_take_10 rfl (lv_at hl 0 rfl) ?_
  refine mm_get S hC hR (C := RX4) (T := TX4) (N := 4) (ref := "ForkWatch$Sha256") (v := .ref w) 1 h1 inRX4 rfl (by decide) (by decide +kernel) (fun _ h9 => h9) rfl dX4_take_11 ?_
  refine lv_aload_n hx hb dX4_take_14 rfl (lv_at hl 0 rfl) ?_
  refine mm_get S hC hR (C := RX4) (T := TX4) (N := 4) (ref := "ForkWatch$Sha256") (v := .int (nI n)) 2 h1 inRX4 rfl (by decide) (by decide +kernel) (fun _ h9 => h9) rfl dX4_take_15 ?_
  refine lv_iconst (v := nI 2) hx hb dX4_take_18 (by decide) ?_
  refine lv_ishr hx hb dX4_take_19 ?_
  refine mm_eqi (pk_shrN (by omega) _ 2 (by decide)) ?_
  refine mm_eqi (congrArg nI (show n / 2 ^ 2 = n / 4 by omega)) ?_
  refine mm_iald S hC hR h3 (j := (n / 4)) (by omega) (by omega) dX4_take_20 ?_
  refine lv_bipush (v := nI 8) hx hb dX4_take_21 (by decide) ?_
  refine lv_ishl hx hb dX4_take_23 ?_
  refine lv_iload_n hx hb dX4_take_24 rfl (lv_at hl 1 rfl) ?_
  refine lv_ior hx hb dX4_take_25 ?_
  refine mm_iast S hC hR h3 (j := (n / 4)) (by omega) (by omega) dX4_take_26 (fun H locs M1 g3 f2 hR => ?_)
  have h1 := f2.at h1 (mm_nc (mm_neoi h1 h3) mm_n0)
  have h2 := f2.at h2 (mm_nc (mm_nelen h2 h3 (by decide)) mm_n0)
  have h3 : M1 w = some (ia G 64 (upd g (n / 4) (((g (n / 4)) <<< ((nI 8) &&& 31)) ||| b))) := g3
  have hF := hF.tr f2 (mm_ic 2 rfl mm_i0)
  have h3 : M1 w = some (ia G 64 (sh_w g n b)) := h3
  refine lv_aload_n hx hb dX4_take_27 rfl (lv_at hl 0 rfl) ?_
  refine lv_dup hx hb dX4_take_28 rfl ?_
  refine mm_get S hC hR (C := RX4) (T := TX4) (N := 4) (ref := "ForkWatch$Sha256") (v := .int (nI n)) 2 h1 inRX4 rfl (by decide) (by decide +kernel) (fun _ h9 => h9) rfl dX4_take_29 ?_
  refine lv_iconst (v := nI 1) hx hb dX4_take_32 (by decide) ?_
  refine lv_iadd hx hb dX4_take_33 ?_
  refine mm_eqi (nI_add _ _) ?_
  refine mm_put S hC hR (C := RX4) (T := TX4) (N := 4) (ref := "ForkWatch$Sha256") 2 h1 inRX4 rfl tyX4_ok nmX4 (by decide) (by decide +kernel) (fun _ h9 => h9) rfl rfl rfl (Nat.le_of_ble_eq_true rfl) dX4_take_34 (fun H locs M4 g6 f5 hR => ?_)
  have h2 := f5.at h2 (mm_nc (Ne.symm (mm_neoi h1 h2)) mm_n0)
  have h3 := f5.at h3 (mm_nc (Ne.symm (mm_neoi h1 h3)) mm_n0)
  have h1 : M4 h = some (ob 5 [.ref st, .ref w, .int (nI (n + 1)), .int (nI t)]) := g6
  have hF := hF.tr f5 (mm_ic 0 rfl mm_i0)
  refine lv_aload_n hx hb dX4_take_37 rfl (lv_at hl 0 rfl) ?_
  refine lv_dup hx hb dX4_take_38 rfl ?_
  refine mm_get S hC hR (C := RX4) (T := TX4) (N := 4) (ref := "ForkWatch$Sha256") (v := .int (nI t)) 3 h1 inRX4 rfl (by decide) (by decide +kernel) (fun _ h9 => h9) rfl dX4_take_39 ?_
  refine lv_iconst (v := nI 1) hx hb dX4_take_42 (by decide) ?_
  refine lv_iadd hx hb dX4_take_43 ?_
  refine mm_eqi (nI_add _ _) ?_
  refine mm_put S hC hR (C := RX4) (T := TX4) (N := 4) (ref := "ForkWatch$Sha256") 3 h1 inRX4 rfl tyX4_ok nmX4 (by decide) (by decide +kernel) (fun _ h9 => h9) rfl rfl rfl (Nat.le_of_ble_eq_true rfl) dX4_take_44 (fun H locs M7 g9 f8 hR => ?_)
  have h2 := f8.at h2 (mm_nc (Ne.symm (mm_neoi h1 h2)) mm_n0)
  have h3 := f8.at h3 (mm_nc (Ne.symm (mm_neoi h1 h3)) mm_n0)
  have h1 : M7 h = some (ob 5 [.ref st, .ref w, .int (nI (n + 1)), .int (nI (t + 1))]) := g9
  have hF := hF.tr f8 (mm_ic 0 rfl mm_i0)
  refine lv_aload_n hx hb dX4_take_47 rfl (lv_at hl 0 rfl) ?_
  refine mm_get S hC hR (C := RX4) (T := TX4) (N := 4) (ref := "ForkWatch$Sha256") (v := .int (nI (n + 1))) 2 h1 inRX4 rfl (by decide) (by decide +kernel) (fun _ h9 => h9) rfl dX4_take_48 ?_
  refine lv_bipush (v := nI 64) hx hb dX4_take_51 (by decide) ?_
  refine lv_icmp_ne (tgt := 69) hx hb dX4_take_53 (by decide) (fun cc => ?_) (fun cc => ?_)
  · have cc : n + 1 ≠ 64 := fun z => cc (congrArg nI z)
    exact mm_vret S hr hlocks hR ⟨by rw [sh_lo cc]; exact ⟨h1, h2, h3, by show n + 1 < 64; omega⟩, hF⟩ dX4_take_69
  · have cc : n + 1 = 64 := (nI_eq (by omega) (by omega)).mp cc
    refine lv_aload_n hx hb dX4_take_56 rfl (lv_at hl 0 rfl) ?_
    refine mm_callv hA hR (va_runV (As := []) (rest := []) S (c_X4_spread l G M7 H.size h st w _ _ f (sh_w g n b) h1 h2 h3) (cwV 0 S.2.2.2.2 gX4_take_X4_spread rfl rfl rfl (by decide +kernel) ⟨Nat.le_of_ble_eq_true rfl, Nat.le_of_ble_eq_true rfl⟩) (mm_preV hC hA hR _ h1 rfl) rfl rfl hl.1 rfl (lv_room (Nat.le_of_ble_eq_true rfl)) dX4_take_57 ⟨Nat.le_of_ble_eq_true rfl, Nat.le_of_ble_eq_true rfl⟩) (fun M11 H locs hp hR => ?_)
    obtain ⟨b3, ff⟩ := hp
    have h1 := ff.at h1 (mm_nc (mm_neoi h1 h3) mm_n0)
    have h2 := ff.at h2 (mm_nc (mm_nelen h2 h3 (by decide)) mm_n0)
    have h3 : M11 w = some (ia G 64 (sp (sh_w g n b))) := b3
    have hF := hF.tr ff (mm_ic 2 rfl mm_i0)
    refine lv_aload_n hx hb dX4_take_60 rfl (lv_at hl 0 rfl) ?_
    refine mm_callv hA hR (va_runV (As := []) (rest := []) S (c_X4_mix l G M11 H.size h st w _ _ f (sp (sh_w g n b)) h1 h2 h3) (cwV 0 S.2.2.2.2 gX4_take_X4_mix rfl rfl rfl (by decide +kernel) ⟨Nat.le_of_ble_eq_true rfl, Nat.le_of_ble_eq_true rfl⟩) (mm_preV hC hA hR _ h1 rfl) rfl rfl hl.1 rfl (lv_room (Nat.le_of_ble_eq_true rfl)) dX4_take_61 ⟨Nat.le_of_ble_eq_true rfl, Nat.le_of_ble_eq_true rfl⟩) (fun M13 H locs hp hR => ?_)
    obtain ⟨b2, ff⟩ := hp
    have h1 := ff.at h1 (mm_nc (mm_neoi h1 h2) mm_n0)
    have h3 := ff.at h3 (mm_nc (mm_nelen h3 h2 (by decide)) mm_n0)
    have h2 : M13 st = some (ia G 8 (mx f (sp (sh_w g n b)))) := b2
    have hF := hF.tr ff (mm_ic 1 rfl mm_i0)
    refine lv_aload_n hx hb dX4_take_64 rfl (lv_at hl 0 rfl) ?_
    refine lv_iconst (v := nI 0) hx hb dX4_take_65 (by decide) ?_
    refine mm_put S hC hR (C := RX4) (T := TX4) (N := 4) (ref := "ForkWatch$Sha256") 2 h1 inRX4 rfl tyX4_ok nmX4 (by decide) (by decide +kernel) (fun _ h9 => h9) rfl rfl rfl (Nat.le_of_ble_eq_true rfl) dX4_take_66 (fun H locs M14 g16 f15 hR => ?_)
    have h2 := f15.at h2 (mm_nc (Ne.symm (mm_neoi h1 h2)) mm_n0)
    have h3 := f15.at h3 (mm_nc (Ne.symm (mm_neoi h1 h3)) mm_n0)
    have h1 : M14 h = some (ob 5 [.ref st, .ref w, .int (nI 0), .int (nI (t + 1))]) := g16
    have hF := hF.tr f15 (mm_ic 0 rfl mm_i0)
    exact mm_vret S hr hlocks hR ⟨by rw [sh_hi cc]; exact ⟨h1, h2, h3, Nat.succ_pos _⟩, hF⟩ dX4_take_69

set_option maxHeartbeats 4000000 in
set_option maxRecDepth 100000 in
/-- takeRow(row, from, length) -/
theorem c_X4_takeRow (l : Launch) (G : mm_G) (M : mm_M) (sz : Nat) (h st w a k : Nat) (q : ShS) (t o len : Nat) (r : Nat → Int32) (h1 : M h = some (ob 5 [.ref st, .ref w, .int (nI q.2.2), .int (nI t)])) (h2 : M st = some (ia G 8 q.1)) (h3 : M w = some (ia G 64 q.2.1)) (h4 : M a = some (ia G k r)) (hn : q.2.2 < 64) (ho : o + len ≤ k) (hk : k < 2 ^ 31) (n1 : a ≠ st) (n2 : a ≠ w) : mm_v l yX4_takeRow wsX4_takeRow ({ frames := 2, cells := 0, slots := 0, locals := 80 } : Room) G ([.ref h, .ref a, .int (nI o), .int (nI len)] : List Value) M sz (fun M' => shA G M' h st w (sh_takes q (fun j => r (o + j)) len) (t + len) ∧ mm_fr [h, st, w] M M') := by
  refine mm_enter (cc := cX4_takeRow) (maxL := 5) (ret := none) _ (by decide) rfl (Nat.le_of_ble_eq_true rfl) ?_
  intro p e s m below meth c ls S hr hlocks hname hA hC hR hl
  have hx := S.1
  have hb := S.2.1
  have hl : lv_has ls 5 [(0, .ref h), (1, .ref a), (2, .int (nI o)), (3, .int (nI len))] := hl
  have inRX4 : ∀ w ∈ wsX40, w ∈ wsX4_takeRow := by decide +kernel
  have hF : mm_fr [h, st, w] M M := mm_fr.rf
  refine lv_iconst (v := nI 0) hx hb dX4_takeRow_0 (by decide) ?_
  refine lv_istore (lv' := [(4, .int (nI 0)), (0, .ref h), (1, .ref a), (2, .int (nI o)), (3, .int (nI len))]) hx hb dX4_takeRow_1 hl (by decide) rfl (fun ls hl => ?_)
  have loop : ∀ (n i : Nat) (M1 : mm_M) (H : Heap) (locs : List Loc) (ls : Array Slot), len < i + n → i ≤ len → shA G M1 h st w (sh_takes q (fun j => r (o + j)) i) (t + i) → M1 a = some (ia G k r) → mm_fr [h, st, w] M M1 → mm_R G s (mm_A M sz) M1 H locs → lv_has ls 5 [(0, .ref h), (1, .ref a), (2, .int (nI o)), (3, .int (nI len)), (4, .int (nI i))] → W p l e ({ frames := 2, cells := 0, slots := 0, locals := 80 } : Room) s m ([.ref h, .ref a, .int (nI o), .int (nI len)] : List Value).toArray below meth c H locs 0 0 (MQ below (va_Qv (fun M' => shA G M' h st w (sh_takes q (fun j => r (o + j)) len) (t + len) ∧ mm_fr [h, st, w] M M') (fun M' t => mm_H G (mm_A M sz) M' t.heap) (mm_A M sz)) ([.ref h, .ref a, .int (nI o), .int (nI len)] : List Value).toArray s 0 0 (mm_A M sz)) (F0 m 3 ls []) := by
    intro n
    induction n with
    | zero =>
      intro i M1 H locs ls hn hi hs h4 hF hR hl
      omega
    | succ n ih =>
      intro i M1 H locs ls hn hi hs h4 hF hR hl
      refine lv_iload hx hb dX4_takeRow_3 (lv_at hl 4 rfl) ?_
      refine lv_iload_n hx hb dX4_takeRow_5 rfl (lv_at hl 3 rfl) ?_
      refine lv_icmp_ge (tgt := 25) hx hb dX4_takeRow_6 (by decide) (fun c17 => ?_) (fun c17 => ?_)
      · have c17 : len ≤ i := (nI_leI (by omega) (by omega)).mp c17
        have e4 : i = len := by omega
        subst e4
        exact mm_vret S hr hlocks hR ⟨hs, hF⟩ dX4_takeRow_25
      · have c17 : ¬ (len ≤ i) := fun z => c17 ((nI_leI (by omega) (by omega)).mpr z)
        obtain ⟨qi, eqi⟩ : ∃ z : ShS, z = sh_takes q (fun j => r (o + j)) i := ⟨_, rfl⟩
        rw [← eqi] at hs
        obtain ⟨h1, h2, h3, hq⟩ := hs
        refine lv_aload_n hx hb dX4_takeRow_9 rfl (lv_at hl 0 rfl) ?_
        refine lv_aload_n hx hb dX4_takeRow_10 rfl (lv_at hl 1 rfl) ?_
        refine lv_iload_n hx hb dX4_takeRow_11 rfl (lv_at hl 2 rfl) ?_
        refine lv_iload hx hb dX4_takeRow_12 (lv_at hl 4 rfl) ?_
        refine lv_iadd hx hb dX4_takeRow_14 ?_
        refine mm_eqi (nI_add _ _) ?_
        refine mm_iald S hC hR h4 (j := (o + i)) (by omega) (by omega) dX4_takeRow_15 ?_
        refine mm_callv hA hR (va_runV (As := [.int (r (o + i))]) (rest := []) S (c_X4_take l G M1 H.size h st w qi (t + i) (r (o + i)) h1 h2 h3 hq) (cwV 1 S.2.2.2.2 gX4_takeRow_X4_take rfl rfl rfl (by decide +kernel) ⟨Nat.le_of_ble_eq_true rfl, Nat.le_of_ble_eq_true rfl⟩) (mm_preV hC hA hR _ h1 rfl) rfl rfl hl.1 rfl (lv_room (Nat.le_of_ble_eq_true rfl)) dX4_takeRow_16 ⟨Nat.le_of_ble_eq_true rfl, Nat.le_of_ble_eq_true rfl⟩) (fun M19 H locs hp hR => ?_)
        obtain ⟨⟨a1, a2, a3, a4⟩, ff⟩ := hp
        have h4 := ff.at h4 (mm_nc (Ne.symm (mm_neoi h1 h4)) (mm_nc n1 (mm_nc n2 mm_n0)))
        have h1 : M19 h = some (ob 5 [.ref st, .ref w, .int (nI ((sh_take qi (r (o + i))).2.2)), .int (nI (t + i + 1))]) := a1
        have h2 : M19 st = some (ia G 8 ((sh_take qi (r (o + i))).1)) := a2
        have h3 : M19 w = some (ia G 64 ((sh_take qi (r (o + i))).2.1)) := a3
        have hF := hF.tr ff (mm_ic 0 rfl (mm_ic 1 rfl (mm_ic 2 rfl mm_i0)))
        refine lv_iinc (v := (nI (i + 1))) (lv' := [(4, .int (nI (i + 1))), (0, .ref h), (1, .ref a), (2, .int (nI o)), (3, .int (nI len))]) hx hb dX4_takeRow_19 hl (k := 4) rfl (by rw [show Int32.ofInt 1 = nI 1 from by decide]; exact nI_add _ _) (by decide) rfl (fun ls hl => ?_)
        refine lv_goto (tgt := 3) hx hb dX4_takeRow_22 (by decide) ?_
        exact ih (i + 1) _ H locs ls (by omega) (by omega) (by show shA G _ h st w (sh_take (sh_takes q (fun j => r (o + j)) i) (r (o + i))) (t + (i + 1)); rw [← eqi]; exact ⟨h1, h2, h3, a4⟩) h4 hF hR (lv_sub hl [1, 2, 3, 4, 0] rfl)
  exact loop (len + 1) 0 _ _ _ ls (by omega) (by omega) ⟨h1, h2, h3, hn⟩ h4 hF hR (lv_sub hl [1, 2, 3, 4, 0] rfl)

set_option maxHeartbeats 4000000 in
set_option maxRecDepth 100000 in
/-- start() -/
theorem c_X4_start (l : Launch) (G : mm_G) (M : mm_M) (sz : Nat) (h st w : Nat) (f g : Nat → Int32) (a b : Int32) (h1 : M h = some (ob 5 [.ref st, .ref w, .int a, .int b])) (h2 : M st = some (ia G 8 f)) (h3 : M w = some (ia G 64 g))  : mm_v l yX4_start wsX4_start ({ frames := 1, cells := 0, slots := 0, locals := 30 } : Room) G ([.ref h] : List Value) M sz (fun M' => shA G M' h st w (va_cpy k_begin f 0 0 8, g, 0) 0 ∧ mm_fr [h, st, w] M M') := by
  refine mm_enter (cc := cX4_start) (maxL := 1) (ret := none) _ (by decide) rfl (Nat.le_of_ble_eq_true rfl) ?_
  intro p e s m below meth c ls S hr hlocks hname hA hC hR hl
  have hx := S.1
  have hb := S.2.1
  have hl : lv_has ls 1 [(0, .ref h)] := hl
  have inRX4 : ∀ w ∈ wsX40, w ∈ wsX4_start := by decide +kernel
  have hF : mm_fr [h, st, w] M M := mm_fr.rf
  refine mm_gstart S hC hR (by decide +kernel) dX4_start_0 ?_
  refine lv_iconst (v := nI 0) hx hb dX4_start_3 (by decide) ?_
  refine lv_aload_n hx hb dX4_start_4 rfl (lv_at hl 0 rfl) ?_
  refine mm_get S hC hR (C := RX4) (T := TX4) (N := 4) (ref := "ForkWatch$Sha256") (v := .ref st) 0 h1 inRX4 rfl (by decide) (by decide +kernel) (fun _ h9 => h9) rfl dX4_start_5 ?_
  refine lv_iconst (v := nI 0) hx hb dX4_start_8 (by decide) ?_
  refine mm_gstart S hC hR (by decide +kernel) dX4_start_9 ?_
  refine mm_lstart S hC hR dX4_start_12 ?_
  refine mm_copyS S hC hR hl.1 h2 (by decide +kernel) (by decide +kernel) (by decide +kernel) (by decide +kernel) (Nat.le_of_ble_eq_true rfl) (Nat.le_of_ble_eq_true rfl) dX4_start_13 (fun H locs M1 g1 f1 hR => ?_)
  have h1 := f1.at h1 (mm_nc (mm_neoi h1 h2) mm_n0)
  have h3 := f1.at h3 (mm_nc (mm_nelen h3 h2 (by decide)) mm_n0)
  have h2 : M1 st = some (ia G 8 (va_cpy k_begin f 0 0 8)) := g1
  have hF := hF.tr f1 (mm_ic 1 rfl mm_i0)
  refine lv_aload_n hx hb dX4_start_16 rfl (lv_at hl 0 rfl) ?_
  refine lv_iconst (v := nI 0) hx hb dX4_start_17 (by decide) ?_
  refine mm_put S hC hR (C := RX4) (T := TX4) (N := 4) (ref := "ForkWatch$Sha256") 2 h1 inRX4 rfl tyX4_ok nmX4 (by decide) (by decide +kernel) (fun _ h9 => h9) rfl rfl rfl (Nat.le_of_ble_eq_true rfl) dX4_start_18 (fun H locs M20 g22 f21 hR => ?_)
  have h2 := f21.at h2 (mm_nc (Ne.symm (mm_neoi h1 h2)) mm_n0)
  have h3 := f21.at h3 (mm_nc (Ne.symm (mm_neoi h1 h3)) mm_n0)
  have h1 : M20 h = some (ob 5 [.ref st, .ref w, .int (nI 0), .int b]) := g22
  have hF := hF.tr f21 (mm_ic 0 rfl mm_i0)
  refine lv_aload_n hx hb dX4_start_21 rfl (lv_at hl 0 rfl) ?_
  refine lv_iconst (v := nI 0) hx hb dX4_start_22 (by decide) ?_
  refine mm_put S hC hR (C := RX4) (T := TX4) (N := 4) (ref := "ForkWatch$Sha256") 3 h1 inRX4 rfl tyX4_ok nmX4 (by decide) (by decide +kernel) (fun _ h9 => h9) rfl rfl rfl (Nat.le_of_ble_eq_true rfl) dX4_start_23 (fun H locs M23 g25 f24 hR => ?_)
  have h2 := f24.at h2 (mm_nc (Ne.symm (mm_neoi h1 h2)) mm_n0)
  have h3 := f24.at h3 (mm_nc (Ne.symm (mm_neoi h1 h3)) mm_n0)
  have h1 : M23 h = some (ob 5 [.ref st, .ref w, .int (nI 0), .int (nI 0)]) := g25
  have hF := hF.tr f24 (mm_ic 0 rfl mm_i0)
  exact mm_vret S hr hlocks hR ⟨⟨h1, h2, h3, Nat.succ_pos _⟩, hF⟩ dX4_start_26

set_option maxHeartbeats 4000000 in
set_option maxRecDepth 100000 in
/-- finish(out, at) -/
theorem c_X4_finish (l : Launch) (G : mm_G) (M : mm_M) (sz : Nat) (h st w o k : Nat) (q : ShS) (t at_ : Nat) (r : Nat → Int32) (h1 : M h = some (ob 5 [.ref st, .ref w, .int (nI q.2.2), .int (nI t)])) (h2 : M st = some (ia G 8 q.1)) (h3 : M w = some (ia G 64 q.2.1)) (h4 : M o = some (ia G k r)) (hn : q.2.2 < 64) (ho : at_ + 32 ≤ k) (hk : k < 2 ^ 31) (n1 : o ≠ st) (n2 : o ≠ w) : mm_v l yX4_finish wsX4_finish ({ frames := 2, cells := 0, slots := 0, locals := 80 } : Room) G ([.ref h, .ref o, .int (nI at_)] : List Value) M sz (fun M' => M' o = some (ia G k (dg_go (sh_end q t) r at_ 32)) ∧ shJ G M' h st w ∧ mm_fr [h, st, w, o] M M') := by
  refine mm_enter (cc := cX4_finish) (maxL := 6) (ret := none) _ (by decide) rfl (Nat.le_of_ble_eq_true rfl) ?_
  intro p e s m below meth c ls S hr hlocks hname hA hC hR hl
  have hx := S.1
  have hb := S.2.1
  have hl : lv_has ls 6 [(0, .ref h), (1, .ref o), (2, .int (nI at_))] := hl
  have inRX4 : ∀ w ∈ wsX40, w ∈ wsX4_finish := by decide +kernel
  have hF : mm_fr [h, st, w, o] M M := mm_fr.rf
  have n3 : h ≠ o := mm_neoi h1 h4
  refine lv_ldc2 (v := 8) hx hb S.2.2.2.1 (S.2.2.2.2 (.constantLong RX4 44 (8)) (by decide +kernel)) dX4_finish_0 ?_
  refine lv_aload_n hx hb dX4_finish_3 rfl (lv_at hl 0 rfl) ?_
  refine mm_get S hC hR (C := RX4) (T := TX4) (N := 4) (ref := "ForkWatch$Sha256") (v := .int (nI t)) 3 h1 inRX4 rfl (by decide) (by decide +kernel) (fun _ h9 => h9) rfl dX4_finish_4 ?_
  refine lv_i2l hx hb dX4_finish_7 rfl ?_
  refine lv_lmul hx hb dX4_finish_8 ?_
  refine lv_topl (fun bits ebits => ?_)
  refine lv_lstore_n (lv' := [(3, .long bits), (0, .ref h), (1, .ref o), (2, .int (nI at_))]) hx hb dX4_finish_9 rfl hl (by decide) rfl (fun ls hl => ?_)
  refine lv_aload_n hx hb dX4_finish_10 rfl (lv_at hl 1 rfl) ?_
  refine lv_sipush (v := nI 128) hx hb dX4_finish_11 (by decide) ?_
  refine mm_callv hA hR (va_runV (As := [.int (nI 128)]) (rest := []) S (c_X4_take l G M _ h st w q t (nI 128) h1 h2 h3 hn) (cwV 1 S.2.2.2.2 gX4_finish_X4_take rfl rfl rfl (by decide +kernel) ⟨Nat.le_of_ble_eq_true rfl, Nat.le_of_ble_eq_true rfl⟩) (mm_preV hC hA hR _ h1 rfl) rfl rfl hl.1 rfl (lv_room (Nat.le_of_ble_eq_true rfl)) dX4_finish_14 ⟨Nat.le_of_ble_eq_true rfl, Nat.le_of_ble_eq_true rfl⟩) (fun M27 H locs hp hR => ?_)
  obtain ⟨q1, eq1⟩ : ∃ z : ShS, z = sh_take q (nI 128) := ⟨_, rfl⟩
  rw [← eq1] at hp
  obtain ⟨⟨a1, a2, a3, a4⟩, ff⟩ := hp
  have h4 := ff.at h4 (mm_nc (Ne.symm n3) (mm_nc n1 (mm_nc n2 mm_n0)))
  have h1 : M27 h = some (ob 5 [.ref st, .ref w, .int (nI q1.2.2), .int (nI (t + 1))]) := a1
  have h2 : M27 st = some (ia G 8 q1.1) := a2
  have h3 : M27 w = some (ia G 64 q1.2.1) := a3
  have hF := hF.tr ff (mm_ic 0 rfl (mm_ic 1 rfl (mm_ic 2 rfl mm_i0)))
  refine lv_iconst (v := nI 0) hx hb dX4_finish_17 (by decide) ?_
  refine lv_istore (lv' := [(5, .int (nI 0)), (3, .long bits), (0, .ref h), (1, .ref o), (2, .int (nI at_))]) hx hb dX4_finish_18 hl (by decide) rfl (fun ls hl => ?_)
  have loopA : ∀ (n i : Nat) (M1 : mm_M) (H : Heap) (locs : List Loc) (ls : Array Slot), (120 - q1.2.2) % 64 < i + n → i ≤ (120 - q1.2.2) % 64 → shA G M1 h st w (sh_takes q1 (fun _ => nI 0) i) (t + 1 + i) → M1 o = some (ia G k r) → mm_fr [h, st, w, o] M M1 → mm_R G s (mm_A M sz) M1 H locs → lv_has ls 6 [(0, .ref h), (1, .ref o), (2, .int (nI at_)), (3, .long bits), (5, .int (nI i))] → W p l e ({ frames := 2, cells := 0, slots := 0, locals := 80 } : Room) s m ([.ref h, .ref o, .int (nI at_)] : List Value).toArray below meth c H locs 0 0 (MQ below (va_Qv (fun M' => M' o = some (ia G k (dg_go (sh_end q t) r at_ 32)) ∧ shJ G M' h st w ∧ mm_fr [h, st, w, o] M M') (fun M' t => mm_H G (mm_A M sz) M' t.heap) (mm_A M sz)) ([.ref h, .ref o, .int (nI at_)] : List Value).toArray s 0 0 (mm_A M sz)) (F0 m 20 ls []) := by
    intro n
    induction n with
    | zero =>
      intro i M1 H locs ls hn hi hs h4 hF hR hl
      omega
    | succ n ih =>
      intro i M1 H locs ls hn hi hs h4 hF hR hl
      have hfl := sh_ns (fun _ => nI 0) a4 i
      obtain ⟨qi, eqi⟩ : ∃ z : ShS, z = sh_takes q1 (fun _ => nI 0) i := ⟨_, rfl⟩
      rw [← eqi] at hs hfl
      obtain ⟨h1, h2, h3, hq⟩ := hs
      refine lv_iload hx hb dX4_finish_20 (lv_at hl 4 rfl) ?_
      refine lv_bipush (v := nI 64) hx hb dX4_finish_22 (by decide) ?_
      refine lv_icmp_ge (tgt := 47) hx hb dX4_finish_24 (by decide) (fun c1 => ?_) (fun c1 => ?_)
      · have c1 : 64 ≤ i := (nI_leI (by omega) (by omega)).mp c1
        omega
      · have c1 : ¬ (64 ≤ i) := fun z => c1 ((nI_leI (by omega) (by omega)).mpr z)
        refine lv_aload_n hx hb dX4_finish_27 rfl (lv_at hl 0 rfl) ?_
        refine mm_get S hC hR (C := RX4) (T := TX4) (N := 4) (ref := "ForkWatch$Sha256") (v := .int (nI qi.2.2)) 2 h1 inRX4 rfl (by decide) (by decide +kernel) (fun _ h9 => h9) rfl dX4_finish_28 ?_
        refine lv_bipush (v := nI 56) hx hb dX4_finish_31 (by decide) ?_
        refine lv_icmp_eq (tgt := 47) hx hb dX4_finish_33 (by decide) (fun c2 => ?_) (fun c2 => ?_)
        · have c2 : qi.2.2 = 56 := (nI_eq (by omega) (by omega)).mp c2
          have e4 : i = (120 - q1.2.2) % 64 := by omega
          subst e4
          have e5 : qi = sh_fill q1 := eqi
          refine lv_bipush (v := nI 56) hx hb dX4_finish_47 (by decide) ?_
          refine lv_istore (lv' := [(5, .int (nI 56)), (0, .ref h), (1, .ref o), (2, .int (nI at_)), (3, .long bits)]) hx hb dX4_finish_49 hl (by decide) rfl (fun ls hl => ?_)
          have loopB : ∀ (n j : Nat) (M1 : mm_M) (H : Heap) (locs : List Loc) (ls : Array Slot), 8 < j + n → j ≤ 8 → shA G M1 h st w (sh_takes qi (lb bits) j) (t + 1 + (120 - q1.2.2) % 64 + j) → M1 o = some (ia G k r) → mm_fr [h, st, w, o] M M1 → mm_R G s (mm_A M sz) M1 H locs → lv_has ls 6 [(0, .ref h), (1, .ref o), (2, .int (nI at_)), (3, .long bits), (5, .int (sf j))] → W p l e ({ frames := 2, cells := 0, slots := 0, locals := 80 } : Room) s m ([.ref h, .ref o, .int (nI at_)] : List Value).toArray below meth c H locs 0 0 (MQ below (va_Qv (fun M' => M' o = some (ia G k (dg_go (sh_end q t) r at_ 32)) ∧ shJ G M' h st w ∧ mm_fr [h, st, w, o] M M') (fun M' t => mm_H G (mm_A M sz) M' t.heap) (mm_A M sz)) ([.ref h, .ref o, .int (nI at_)] : List Value).toArray s 0 0 (mm_A M sz)) (F0 m 51 ls []) := by
            intro n
            induction n with
            | zero =>
              intro j M1 H locs ls hn hi hs h4 hF hR hl
              omega
            | succ n ih =>
              intro j M1 H locs ls hn hi hs h4 hF hR hl
              obtain ⟨qj, eqj⟩ : ∃ z : ShS, z = sh_takes qi (lb bits) j := ⟨_, rfl⟩
              rw [← eqj] at hs
              obtain ⟨h1, h2, h3, hq⟩ := hs
              refine lv_iload hx hb dX4_finish_51 (lv_at hl 4 rfl) ?_
              refine lv_if_lt (tgt := 75) hx hb dX4_finish_53 (by decide) (fun c3 => ?_) (fun c3 => ?_)
              · skip
                have e8 : j = 8 := Classical.byContradiction (fun z => sf_ge j (by omega) c3)
                subst e8
                have e9 : qj.1 = sh_end q t := by rw [eqj, e5, eq1, ebits]; rfl
                refine lv_iconst (v := nI 0) hx hb dX4_finish_75 (by decide) ?_
                refine lv_istore (lv' := [(5, .int (nI 0)), (0, .ref h), (1, .ref o), (2, .int (nI at_)), (3, .long bits)]) hx hb dX4_finish_76 hl (by decide) rfl (fun ls hl => ?_)
                have loopC : ∀ (n i : Nat) (M1 : mm_M) (H : Heap) (locs : List Loc) (ls : Array Slot), 32 < i + n → i ≤ 32 → M1 h = some (ob 5 [.ref st, .ref w, .int (nI qj.2.2), .int (nI (t + 1 + (120 - q1.2.2) % 64 + 8))]) → M1 st = some (ia G 8 qj.1) → M1 w = some (ia G 64 qj.2.1) → M1 o = some (ia G k (dg_go qj.1 r at_ i)) → mm_fr [h, st, w, o] M M1 → mm_R G s (mm_A M sz) M1 H locs → lv_has ls 6 [(0, .ref h), (1, .ref o), (2, .int (nI at_)), (5, .int (nI i))] → W p l e ({ frames := 2, cells := 0, slots := 0, locals := 80 } : Room) s m ([.ref h, .ref o, .int (nI at_)] : List Value).toArray below meth c H locs 0 0 (MQ below (va_Qv (fun M' => M' o = some (ia G k (dg_go (sh_end q t) r at_ 32)) ∧ shJ G M' h st w ∧ mm_fr [h, st, w, o] M M') (fun M' t => mm_H G (mm_A M sz) M' t.heap) (mm_A M sz)) ([.ref h, .ref o, .int (nI at_)] : List Value).toArray s 0 0 (mm_A M sz)) (F0 m 78 ls []) := by
                  intro n
                  induction n with
                  | zero =>
                    intro i M1 H locs ls hn hi h1 h2 h3 h4 hF hR hl
                    omega
                  | succ n ih =>
                    intro i M1 H locs ls hn hi h1 h2 h3 h4 hF hR hl
                    refine lv_iload hx hb dX4_finish_78 (lv_at hl 3 rfl) ?_
                    refine lv_bipush (v := nI 32) hx hb dX4_finish_80 (by decide) ?_
                    refine lv_icmp_ge (tgt := 121) hx hb dX4_finish_82 (by decide) (fun c28 => ?_) (fun c28 => ?_)
                    · have c28 : 32 ≤ i := (nI_leI (by omega) (by omega)).mp c28
                      have e4 : i = 32 := by omega
                      subst e4
                      exact mm_vret S hr hlocks hR ⟨by rw [e9] at h4; exact h4, ⟨_, _, _, _, h1, h2, h3⟩, hF⟩ dX4_finish_121
                    · have c28 : ¬ (32 ≤ i) := fun z => c28 ((nI_leI (by omega) (by omega)).mpr z)
                      refine lv_aload_n hx hb dX4_finish_85 rfl (lv_at hl 1 rfl) ?_
                      refine lv_iload_n hx hb dX4_finish_86 rfl (lv_at hl 2 rfl) ?_
                      refine lv_iload hx hb dX4_finish_87 (lv_at hl 3 rfl) ?_
                      refine lv_iadd hx hb dX4_finish_89 ?_
                      refine mm_eqi (nI_add _ _) ?_
                      refine lv_aload_n hx hb dX4_finish_90 rfl (lv_at hl 0 rfl) ?_
                      refine mm_get S hC hR (C := RX4) (T := TX4) (N := 4) (ref := "ForkWatch$Sha256") (v := .ref st) 0 h1 inRX4 rfl (by decide) (by decide +kernel) (fun _ h9 => h9) rfl dX4_finish_91 ?_
                      refine lv_iload hx hb dX4_finish_94 (lv_at hl 3 rfl) ?_
                      refine lv_iconst (v := nI 2) hx hb dX4_finish_96 (by decide) ?_
                      refine lv_ishr hx hb dX4_finish_97 ?_
                      refine mm_eqi (pk_shrN (by omega) _ 2 (by decide)) ?_
                      refine mm_eqi (congrArg nI (show i / 2 ^ 2 = i / 4 by omega)) ?_
                      refine mm_iald S hC hR h2 (j := (i / 4)) (by omega) (by omega) dX4_finish_98 ?_
                      refine lv_bipush (v := nI 24) hx hb dX4_finish_99 (by decide) ?_
                      refine lv_bipush (v := nI 8) hx hb dX4_finish_101 (by decide) ?_
                      refine lv_iload hx hb dX4_finish_103 (lv_at hl 3 rfl) ?_
                      refine lv_iconst (v := nI 3) hx hb dX4_finish_105 (by decide) ?_
                      refine lv_iand hx hb dX4_finish_106 ?_
                      refine mm_eqi (pk_andN (by omega) 2 (by decide)) ?_
                      refine mm_eqi (congrArg nI (show i % 2 ^ 2 = i % 4 by omega)) ?_
                      refine lv_imul hx hb dX4_finish_107 ?_
                      refine mm_eqi (pk_mul _ _) ?_
                      refine lv_isub hx hb dX4_finish_108 ?_
                      refine mm_eqi (pk_sub (by omega)) ?_
                      refine lv_iushr hx hb dX4_finish_109 rfl ?_
                      refine lv_sipush (v := nI 255) hx hb dX4_finish_110 (by decide) ?_
                      refine lv_iand hx hb dX4_finish_113 ?_
                      refine mm_iast S hC hR h4 (j := (at_ + i)) (by omega) (by omega) dX4_finish_114 (fun H locs M29 g31 f30 hR => ?_)
                      have h1 := f30.at h1 (mm_nc n3 mm_n0)
                      have h2 := f30.at h2 (mm_nc (Ne.symm n1) mm_n0)
                      have h3 := f30.at h3 (mm_nc (Ne.symm n2) mm_n0)
                      have h4 : M29 o = some (ia G k (upd (dg_go qj.1 r at_ i) (at_ + i) ((((qj.1 (i / 4)).toUInt32 >>> ((nI (24 - (8 * (i % 4)))).toUInt32 &&& Int32.toUInt32 31)).toInt32) &&& (nI 255)))) := g31
                      have hF := hF.tr f30 (mm_ic 3 rfl mm_i0)
                      refine lv_iinc (v := (nI (i + 1))) (lv' := [(5, .int (nI (i + 1))), (0, .ref h), (1, .ref o), (2, .int (nI at_))]) hx hb dX4_finish_115 hl (k := 3) rfl (by rw [show Int32.ofInt 1 = nI 1 from by decide]; exact nI_add _ _) (by decide) rfl (fun ls hl => ?_)
                      refine lv_goto (tgt := 78) hx hb dX4_finish_118 (by decide) ?_
                      exact ih (i + 1) _ H locs ls (by omega) (by omega) h1 h2 h3 h4 hF hR (lv_sub hl [1, 2, 3, 0] rfl)
                exact loopC 33 0 _ _ _ ls (by omega) (by omega) h1 h2 h3 h4 hF hR (lv_sub hl [1, 2, 3, 0] rfl)
              · skip
                have hj8 : j < 8 := Classical.byContradiction (fun z => c3 (by rw [show j = 8 by omega]; exact sf_8))
                refine lv_aload_n hx hb dX4_finish_56 rfl (lv_at hl 0 rfl) ?_
                refine lv_lload_n hx hb dX4_finish_57 rfl (lv_at hl 3 rfl) ?_
                refine lv_iload hx hb dX4_finish_58 (lv_at hl 4 rfl) ?_
                refine lv_lushr hx hb dX4_finish_60 rfl ?_
                refine lv_l2i hx hb dX4_finish_61 rfl ?_
                refine lv_sipush (v := nI 255) hx hb dX4_finish_62 (by decide) ?_
                refine lv_iand hx hb dX4_finish_65 ?_
                refine mm_callv hA hR (va_runV (As := [.int ((((bits.toUInt64 >>> ((sf j).toInt64.toUInt64 &&& Int64.toUInt64 63)).toInt64).toInt32) &&& (nI 255))]) (rest := []) S (c_X4_take l G M1 H.size h st w qj (t + 1 + (120 - q1.2.2) % 64 + j) (lb bits j) h1 h2 h3 hq) (cwV 1 S.2.2.2.2 gX4_finish_X4_take rfl rfl rfl (by decide +kernel) ⟨Nat.le_of_ble_eq_true rfl, Nat.le_of_ble_eq_true rfl⟩) (mm_preV hC hA hR _ h1 rfl) rfl rfl hl.1 rfl (lv_room (Nat.le_of_ble_eq_true rfl)) dX4_finish_66 ⟨Nat.le_of_ble_eq_true rfl, Nat.le_of_ble_eq_true rfl⟩) (fun M33 H locs hp hR => ?_)
                obtain ⟨⟨a1, a2, a3, a4⟩, ff⟩ := hp
                have h4 := ff.at h4 (mm_nc (Ne.symm n3) (mm_nc n1 (mm_nc n2 mm_n0)))
                have h1 : M33 h = some (ob 5 [.ref st, .ref w, .int (nI ((sh_take qj (lb bits j)).2.2)), .int (nI (t + 1 + (120 - q1.2.2) % 64 + j + 1))]) := a1
                have h2 : M33 st = some (ia G 8 ((sh_take qj (lb bits j)).1)) := a2
                have h3 : M33 w = some (ia G 64 ((sh_take qj (lb bits j)).2.1)) := a3
                have hF := hF.tr ff (mm_ic 0 rfl (mm_ic 1 rfl (mm_ic 2 rfl mm_i0)))
                refine lv_iinc (v := ((sf j) + Int32.ofInt (-8))) (lv' := [(5, .int ((sf j) + Int32.ofInt (-8))), (0, .ref h), (1, .ref o), (2, .int (nI at_)), (3, .long bits)]) hx hb dX4_finish_69 hl (k := 4) rfl rfl (by decide) rfl (fun ls hl => ?_)
                refine lv_goto (tgt := 51) hx hb dX4_finish_72 (by decide) ?_
                exact ih (j + 1) _ H locs ls (by omega) (by omega) (by show shA G _ h st w (sh_take (sh_takes qi (lb bits) j) (lb bits j)) (t + 1 + (120 - q1.2.2) % 64 + j + 1); rw [← eqj]; exact ⟨h1, h2, h3, a4⟩) h4 hF hR (lv_sub hl [1, 2, 3, 4, 0] rfl)
          exact loopB 9 0 _ _ _ ls (by omega) (by omega) ⟨h1, h2, h3, hq⟩ h4 hF hR (lv_sub hl [1, 2, 3, 4, 0] rfl)
        · have c2 : ¬ (qi.2.2 = 56) := fun z => c2 ((nI_eq (by omega) (by omega)).mpr z)
          refine lv_aload_n hx hb dX4_finish_36 rfl (lv_at hl 0 rfl) ?_
          refine lv_iconst (v := nI 0) hx hb dX4_finish_37 (by decide) ?_
          refine mm_callv hA hR (va_runV (As := [.int (nI 0)]) (rest := []) S (c_X4_take l G M1 H.size h st w qi (t + 1 + i) (nI 0) h1 h2 h3 hq) (cwV 1 S.2.2.2.2 gX4_finish_X4_take rfl rfl rfl (by decide +kernel) ⟨Nat.le_of_ble_eq_true rfl, Nat.le_of_ble_eq_true rfl⟩) (mm_preV hC hA hR _ h1 rfl) rfl rfl hl.1 rfl (lv_room (Nat.le_of_ble_eq_true rfl)) dX4_finish_38 ⟨Nat.le_of_ble_eq_true rfl, Nat.le_of_ble_eq_true rfl⟩) (fun M35 H locs hp hR => ?_)
          obtain ⟨⟨b1, b2, b3, b4⟩, ff⟩ := hp
          have h4 := ff.at h4 (mm_nc (Ne.symm n3) (mm_nc n1 (mm_nc n2 mm_n0)))
          have h1 : M35 h = some (ob 5 [.ref st, .ref w, .int (nI ((sh_take qi (nI 0)).2.2)), .int (nI (t + 1 + i + 1))]) := b1
          have h2 : M35 st = some (ia G 8 ((sh_take qi (nI 0)).1)) := b2
          have h3 : M35 w = some (ia G 64 ((sh_take qi (nI 0)).2.1)) := b3
          have hF := hF.tr ff (mm_ic 0 rfl (mm_ic 1 rfl (mm_ic 2 rfl mm_i0)))
          refine lv_iinc (v := (nI (i + 1))) (lv' := [(5, .int (nI (i + 1))), (0, .ref h), (1, .ref o), (2, .int (nI at_)), (3, .long bits)]) hx hb dX4_finish_41 hl (k := 4) rfl (by rw [show Int32.ofInt 1 = nI 1 from by decide]; exact nI_add _ _) (by decide) rfl (fun ls hl => ?_)
          refine lv_goto (tgt := 20) hx hb dX4_finish_44 (by decide) ?_
          exact ih (i + 1) _ H locs ls (by omega) (by omega) (by show shA G _ h st w (sh_take (sh_takes q1 (fun _ => nI 0) i) (nI 0)) (t + 1 + i + 1); rw [← eqi]; exact ⟨h1, h2, h3, b4⟩) h4 hF hR (lv_sub hl [1, 2, 3, 4, 0] rfl)
  exact loopA ((120 - q1.2.2) % 64 + 1) 0 _ _ _ ls (by omega) (by omega) ⟨h1, h2, h3, a4⟩ h4 hF hR (lv_sub hl [2, 3, 4, 1, 0] rfl)

set_option maxHeartbeats 4000000 in
set_option maxRecDepth 100000 in
/-- Sha256() -/
theorem c_X4_init (l : Launch) (G : mm_G) (M : mm_M) (sz : Nat) (h : Nat) (h1 : M h = some (ob 5 [.null, .null, .int (nI 0), .int (nI 0)]))  : mm_v l yX4_init wsX4_init ({ frames := 1, cells := 2, slots := 72, locals := 12 } : Room) G ([.ref h] : List Value) M sz (fun M' => ∃ st w, M st = none ∧ M w = none ∧ shA G M' h st w (fun _ => 0, fun _ => 0, 0) 0 ∧ mm_fr [h] M M') := by
  refine mm_enter (cc := cX4_init) (maxL := 1) (ret := none) _ (by decide) rfl (Nat.le_of_ble_eq_true rfl) ?_
  intro p e s m below meth c ls S hr hlocks hname hA hC hR hl
  have hx := S.1
  have hb := S.2.1
  have hl : lv_has ls 1 [(0, .ref h)] := hl
  have hin : meth.name = "<init>" := hname
  have inRX4 : ∀ w ∈ wsX40, w ∈ wsX4_init := by decide +kernel
  have hF : mm_fr [h] M M := mm_fr.rf
  refine lv_aload_n hx hb dX4_init_0 rfl (lv_at hl 0 rfl) ?_
  refine W.objInit hx hb S.2.2.2.1 (S.2.2.2.2 (.methodLink RX4 3 objectInit) (by decide +kernel)) (S.2.2.2.2 (.instanceMethod objectInit) (by decide +kernel)) (S.2.2.2.2 (.code objectInit ⟨#[0xb1]⟩ 1 none) (by decide +kernel)) rfl (by rw [S.2.2.1]; exact hl.1) rfl dX4_init_1 (Nat.le_of_ble_eq_true rfl) (Nat.le_of_ble_eq_true rfl) ?_
  refine W.eq (g2 := F0 m 4 ls []) rfl ?_
  refine lv_aload_n hx hb dX4_init_4 rfl (lv_at hl 0 rfl) ?_
  refine lv_bipush (v := nI 8) hx hb dX4_init_5 (by decide) ?_
  refine mm_newi S hC hA hR (by decide +kernel) (n := 8) (by omega) (Nat.le_of_ble_eq_true rfl) (Nat.le_of_ble_eq_true rfl) dX4_init_7 (fun st H M36 z38 h2 f37 hR => ?_)
  have n_h_st : h ≠ st := mm_nenew h1 z38
  have nn_st : M st = none := hF.none z38 (mm_oc h1 mm_o0)
  have h1 := f37.at h1 mm_n0
  have h2 : M36 st = some (ia G 8 (fun _ => 0)) := h2
  have hF := hF.tr f37 mm_i0
  refine mm_putF S hC hR (C := RX4) (T := TX4) (N := 4) (ref := "ForkWatch$Sha256") 0 h1 inRX4 rfl tyX4_ok nmX4 (by decide) (by decide +kernel) (fun _ h9 => h9) rfl hin rfl rfl rfl (Nat.le_of_ble_eq_true rfl) dX4_init_9 (fun H locs M39 g41 f40 hR => ?_)
  have h2 := f40.at h2 (mm_nc (Ne.symm n_h_st) mm_n0)
  have h1 : M39 h = some (ob 5 [.ref st, .null, .int (nI 0), .int (nI 0)]) := g41
  have hF := hF.tr f40 (mm_ic 0 rfl mm_i0)
  refine lv_aload_n hx hb dX4_init_12 rfl (lv_at hl 0 rfl) ?_
  refine lv_bipush (v := nI 64) hx hb dX4_init_13 (by decide) ?_
  refine mm_newi S hC hA hR (by decide +kernel) (n := 64) (by omega) (Nat.le_of_ble_eq_true rfl) (Nat.le_of_ble_eq_true rfl) dX4_init_15 (fun w H M42 z44 h3 f43 hR => ?_)
  have n_h_w : h ≠ w := mm_nenew h1 z44
  have n_st_w : st ≠ w := mm_nenew h2 z44
  have nn_w : M w = none := hF.none z44 (mm_oc h1 mm_o0)
  have h1 := f43.at h1 mm_n0
  have h2 := f43.at h2 mm_n0
  have h3 : M42 w = some (ia G 64 (fun _ => 0)) := h3
  have hF := hF.tr f43 mm_i0
  refine mm_putF S hC hR (C := RX4) (T := TX4) (N := 4) (ref := "ForkWatch$Sha256") 1 h1 inRX4 rfl tyX4_ok nmX4 (by decide) (by decide +kernel) (fun _ h9 => h9) rfl hin rfl rfl rfl (Nat.le_of_ble_eq_true rfl) dX4_init_17 (fun H locs M45 g47 f46 hR => ?_)
  have h2 := f46.at h2 (mm_nc (Ne.symm n_h_st) mm_n0)
  have h3 := f46.at h3 (mm_nc (Ne.symm n_h_w) mm_n0)
  have h1 : M45 h = some (ob 5 [.ref st, .ref w, .int (nI 0), .int (nI 0)]) := g47
  have hF := hF.tr f46 (mm_ic 0 rfl mm_i0)
  refine lv_aload_n hx hb dX4_init_20 rfl (lv_at hl 0 rfl) ?_
  refine lv_iconst (v := nI 0) hx hb dX4_init_21 (by decide) ?_
  refine mm_put S hC hR (C := RX4) (T := TX4) (N := 4) (ref := "ForkWatch$Sha256") 2 h1 inRX4 rfl tyX4_ok nmX4 (by decide) (by decide +kernel) (fun _ h9 => h9) rfl rfl rfl (Nat.le_of_ble_eq_true rfl) dX4_init_22 (fun H locs M48 g50 f49 hR => ?_)
  have h2 := f49.at h2 (mm_nc (Ne.symm n_h_st) mm_n0)
  have h3 := f49.at h3 (mm_nc (Ne.symm n_h_w) mm_n0)
  have h1 : M48 h = some (ob 5 [.ref st, .ref w, .int (nI 0), .int (nI 0)]) := g50
  have hF := hF.tr f49 (mm_ic 0 rfl mm_i0)
  refine lv_aload_n hx hb dX4_init_25 rfl (lv_at hl 0 rfl) ?_
  refine lv_iconst (v := nI 0) hx hb dX4_init_26 (by decide) ?_
  refine mm_put S hC hR (C := RX4) (T := TX4) (N := 4) (ref := "ForkWatch$Sha256") 3 h1 inRX4 rfl tyX4_ok nmX4 (by decide) (by decide +kernel) (fun _ h9 => h9) rfl rfl rfl (Nat.le_of_ble_eq_true rfl) dX4_init_27 (fun H locs M51 g53 f52 hR => ?_)
  have h2 := f52.at h2 (mm_nc (Ne.symm n_h_st) mm_n0)
  have h3 := f52.at h3 (mm_nc (Ne.symm n_h_w) mm_n0)
  have h1 : M51 h = some (ob 5 [.ref st, .ref w, .int (nI 0), .int (nI 0)]) := g53
  have hF := hF.tr f52 (mm_ic 0 rfl mm_i0)
  exact mm_vret S hr hlocks hR ⟨st, w, nn_st, nn_w, ⟨h1, h2, h3, by decide⟩, hF⟩ dX4_init_30
end
section
/-! ===== bits (pasted from kit/laws/BITS.to-paste) ===== -/
def bt (x : Int32) (i : Nat) : Bool := x.toBitVec.getLsbD i
theorem b_ext {x y : Int32} (h : ∀ i, i < 32 → bt x i = bt y i) : x = y := Int32.toBitVec_inj.mp (BitVec.eq_of_getLsbD_eq (fun i hi => h i hi))
theorem b_or (x y : Int32) (i : Nat) : bt (x ||| y) i = (bt x i || bt y i) := by unfold bt; rw [Int32.toBitVec_or, BitVec.getLsbD_or]
theorem s_l : ∀ n, n < 32 → ((nI n &&& 31).toBitVec.smod 32).toNat = n := by decide +kernel
theorem b_shl (n : Nat) (hn : n < 32) (x : Int32) {i : Nat} (hi : i < 32) : bt (x <<< (nI n &&& 31)) i = (decide (n ≤ i) && bt x (i - n)) := by
  unfold bt
  rw [Int32.toBitVec_shiftLeft]
  show (x.toBitVec <<< ((nI n &&& 31).toBitVec.smod 32).toNat).getLsbD i = _
  rw [s_l n hn, BitVec.getLsbD_shiftLeft]
  rcases Nat.lt_or_ge i n with h | h
  · simp [h, Nat.not_le.mpr h]
  · simp [hi, h, Nat.not_lt.mpr h]
/-! ===== what the bytes that were taken come to: blocks, whatever lay in the words before ===== -/
def sl8 (x b : Int32) : Int32 := (x <<< (nI 8 &&& 31)) ||| b
def be4 (a b c d : Int32) : Int32 := (((a <<< (nI 24 &&& 31)) ||| (b <<< (nI 16 &&& 31))) ||| (c <<< (nI 8 &&& 31))) ||| d
theorem be4_sl8 (g a b c d : Int32) : sl8 (sl8 (sl8 (sl8 g a) b) c) d = be4 a b c d := by
  apply b_ext
  intro i hi
  have e1 : i - 8 - 8 = i - 16 := by omega
  have e2 : i - 16 - 8 = i - 24 := by omega
  unfold sl8 be4
  simp only [b_or, b_shl 8 (by decide) _ hi, b_shl 8 (by decide) _ (show i - 8 < 32 by omega), b_shl 24 (by decide) _ hi, b_shl 16 (by decide) _ hi, e1, b_shl 8 (by decide) _ (show i - 16 < 32 by omega), e2, b_shl 8 (by decide) _ (show i - 24 < 32 by omega)]
  rcases (show i < 8 ∨ (8 ≤ i ∧ i < 16) ∨ (16 ≤ i ∧ i < 24) ∨ 24 ≤ i by omega) with h | h | h | h
  · simp [decide_eq_false (show ¬ 8 ≤ i by omega), decide_eq_false (show ¬ 16 ≤ i by omega), decide_eq_false (show ¬ 24 ≤ i by omega)]
  · simp [decide_eq_true (show 8 ≤ i by omega), decide_eq_false (show ¬ 8 ≤ i - 8 by omega), decide_eq_false (show ¬ 16 ≤ i by omega), decide_eq_false (show ¬ 24 ≤ i by omega)]
  · simp [decide_eq_true (show 8 ≤ i by omega), decide_eq_true (show 8 ≤ i - 8 by omega), decide_eq_false (show ¬ 8 ≤ i - 16 by omega), decide_eq_true (show 16 ≤ i by omega), decide_eq_false (show ¬ 24 ≤ i by omega)]
  · simp [decide_eq_true (show 8 ≤ i by omega), decide_eq_true (show 8 ≤ i - 8 by omega), decide_eq_true (show 8 ≤ i - 16 by omega), decide_eq_false (show ¬ 8 ≤ i - 24 by omega), decide_eq_true (show 16 ≤ i by omega), decide_eq_true (show 24 ≤ i by omega)]
theorem sp_go_ag {w w' : Nat → Int32} (h : ∀ j, j < 16 → w j = w' j) : ∀ n, n ≤ 48 → ∀ j, j < 16 + n → sp_go w n j = sp_go w' n j
  | 0, _, j, hj => h j hj
  | n + 1, hn, j, hj => by
    have ih := sp_go_ag h n (by omega)
    show upd (sp_go w n) (16 + n) _ j = upd (sp_go w' n) (16 + n) _ j
    unfold upd
    by_cases hc : j = 16 + n
    · rw [if_pos hc, if_pos hc, ih n (by omega), ih (n + 1) (by omega), ih (n + 9) (by omega), ih (n + 14) (by omega)]
    · rw [if_neg hc, if_neg hc, ih j (by omega)]
theorem sp_ag {w w' : Nat → Int32} (h : ∀ j, j < 16 → w j = w' j) : ∀ j, j < 64 → sp w j = sp w' j := fun j hj => sp_go_ag h 48 (Nat.le_refl _) j hj
theorem mx_go_ag {f f' w w' : Nat → Int32} (hf : ∀ j, j < 8 → f j = f' j) (hw : ∀ j, j < 64 → w j = w' j) : ∀ i, i ≤ 64 → ∀ j, j < 8 → mx_go f w i j = mx_go f' w' i j
  | 0, _, j, hj => hf j hj
  | i + 1, hi, j, hj => by
    have ih := mx_go_ag hf hw i (by omega)
    have h0 := ih 0 (by omega)
    have h1 := ih 1 (by omega)
    have h2 := ih 2 (by omega)
    have h3 := ih 3 (by omega)
    have h4 := ih 4 (by omega)
    have h5 := ih 5 (by omega)
    have h6 := ih 6 (by omega)
    have h7 := ih 7 (by omega)
    have h8 := hw i (by omega)
    rcases (show j = 0 ∨ j = 1 ∨ j = 2 ∨ j = 3 ∨ j = 4 ∨ j = 5 ∨ j = 6 ∨ j = 7 by omega) with e | e | e | e | e | e | e | e <;> subst e <;> simp only [mx_go, h0, h1, h2, h3, h4, h5, h6, h7, h8]
theorem ad_go_ag {f f' r r' : Nat → Int32} (hf : ∀ j, j < 8 → f j = f' j) (hr : ∀ j, j < 8 → r j = r' j) : ∀ n, n ≤ 8 → ∀ j, j < 8 → ad_go f r n j = ad_go f' r' n j
  | 0, _, j, hj => hf j hj
  | n + 1, hn, j, hj => by
    have ih := ad_go_ag hf hr n (by omega)
    show upd _ n _ j = upd _ n _ j
    unfold upd
    by_cases hc : j = n
    · rw [if_pos hc, if_pos hc, ih n (by omega), hr n (by omega)]
    · rw [if_neg hc, if_neg hc, ih j hj]
theorem mx_ag {f f' w w' : Nat → Int32} (hf : ∀ j, j < 8 → f j = f' j) (hw : ∀ j, j < 64 → w j = w' j) : ∀ j, j < 8 → mx f w j = mx f' w' j := fun j hj => ad_go_ag hf (mx_go_ag hf hw 64 (Nat.le_refl _)) 8 (Nat.le_refl _) j hj
/-- a block's sixteen words -/
def blkw (m : Nat → Int32) (o : Nat) : Nat → Int32 := fun k => be4 (m (o + 4 * k)) (m (o + 4 * k + 1)) (m (o + 4 * k + 2)) (m (o + 4 * k + 3))
/-- the state behind n blocks -/
def sha_b (m : Nat → Int32) : Nat → Nat → Int32
  | 0 => k_begin
  | n + 1 => mx (sha_b m n) (sp (blkw m (64 * n)))
def pw (g : Int32) (m : Nat → Int32) (o : Nat) : Nat → Int32
  | 0 => g
  | r + 1 => sl8 (pw g m o r) (m (o + r))
theorem pw4 (g : Int32) (m : Nat → Int32) (o k : Nat) : pw g m (o + 4 * k) 4 = blkw m o k := be4_sl8 g _ _ _ _
/-- behind i bytes of m -/
def shI (m : Nat → Int32) (i : Nat) (q : ShS) : Prop := q.2.2 = i % 64 ∧ (∀ j, j < 8 → q.1 j = sha_b m (i / 64) j) ∧ (∀ k, 4 * k + 4 ≤ i % 64 → q.2.1 k = blkw m (64 * (i / 64)) k) ∧ ∃ g, q.2.1 (i % 64 / 4) = pw g m (64 * (i / 64) + 4 * (i % 64 / 4)) (i % 4)
theorem shI_lt {m : Nat → Int32} {i : Nat} {q : ShS} (h : shI m i q) : q.2.2 < 64 := by rw [h.1]; exact Nat.mod_lt _ (by decide)
theorem shI_0 {m f g : Nat → Int32} : shI m 0 (va_cpy k_begin f 0 0 8, g, 0) := by
  refine ⟨rfl, fun j hj => ?_, fun k hk => absurd hk (by omega), ⟨_, rfl⟩⟩
  show va_cpy k_begin f 0 0 8 j = k_begin j
  unfold va_cpy
  rw [if_pos ⟨Nat.zero_le _, by omega⟩]
  congr 1
  omega
theorem shI_s {m : Nat → Int32} {i : Nat} {q : ShS} (h : shI m i q) : shI m (i + 1) (sh_take q (m i)) := by
  obtain ⟨f, g, n⟩ := q
  obtain ⟨h1, h2, h3, x, h4⟩ := h
  dsimp only at h1 h2 h3 h4
  have e5 : 64 * (i / 64) + 4 * (i % 64 / 4) + i % 4 = i := by omega
  have hk : n / 4 = i % 64 / 4 := by rw [h1]
  have hw : sl8 (g (n / 4)) (m i) = pw x m (64 * (i / 64) + 4 * (i % 64 / 4)) (i % 4 + 1) := by
    show _ = sl8 (pw x m (64 * (i / 64) + 4 * (i % 64 / 4)) (i % 4)) (m (64 * (i / 64) + 4 * (i % 64 / 4) + i % 4))
    rw [e5, hk, h4]
  have hu : ∀ k, sh_w g n (m i) k = if k = n / 4 then sl8 (g (n / 4)) (m i) else g k := fun k => rfl
  by_cases hc : n + 1 = 64
  · rw [sh_hi hc]
    have e6 : (i + 1) % 64 = 0 := by omega
    have e7 : (i + 1) / 64 = i / 64 + 1 := by omega
    have hb : ∀ k, k < 16 → sh_w g n (m i) k = blkw m (64 * (i / 64)) k := by
      intro k hk16
      rw [hu]
      by_cases hk2 : k = n / 4
      · rw [if_pos hk2, hw, show i % 4 + 1 = 4 by omega, pw4, hk2, hk]
      · rw [if_neg hk2]
        exact h3 k (by omega)
    refine ⟨e6.symm, fun j hj => ?_, fun k hk2 => absurd hk2 (by omega), ?_⟩
    · rw [e7]
      exact mx_ag h2 (sp_ag hb) j hj
    · rw [show (i + 1) % 4 = 0 by omega]
      exact ⟨_, rfl⟩
  · rw [sh_lo hc]
    have e6 : (i + 1) % 64 = i % 64 + 1 := by omega
    have e7 : (i + 1) / 64 = i / 64 := by omega
    refine ⟨?_, fun j hj => ?_, fun k hk2 => ?_, ?_⟩
    · show n + 1 = _
      rw [e6, h1]
    · rw [e7]
      exact h2 j hj
    · rw [e7]
      rw [e6] at hk2
      show sh_w g n (m i) k = _
      rw [hu]
      by_cases hk3 : k = n / 4
      · rw [if_pos hk3, hw, show i % 4 + 1 = 4 by omega, pw4, hk3, hk]
      · rw [if_neg hk3]
        exact h3 k (by omega)
    · by_cases hr : i % 4 = 3
      · rw [show (i + 1) % 4 = 0 by omega]
        exact ⟨_, rfl⟩
      · refine ⟨x, ?_⟩
        rw [e7, e6, show (i % 64 + 1) / 4 = i % 64 / 4 by omega, show (i + 1) % 4 = i % 4 + 1 by omega, ← hw]
        show sh_w g n (m i) (i % 64 / 4) = _
        rw [hu, if_pos hk.symm]
theorem shI_n {m r : Nat → Int32} {i : Nat} {q : ShS} (h : shI m i q) : ∀ len, (∀ j, j < len → r j = m (i + j)) → shI m (i + len) (sh_takes q r len)
  | 0, _ => h
  | len + 1, hr => by
    have ih := shI_n h len (fun j hj => hr j (by omega))
    show shI m (i + len + 1) (sh_take (sh_takes q r len) (r len))
    rw [hr len (by omega)]
    exact shI_s ih
/-- a message of n bytes, with what is laid behind it -/
def padm (n : Nat) (m : Nat → Int32) : Nat → Int32 := fun j => if j < n then m j else if j = n then nI 128 else if j + 8 < 64 * ((n + 72) / 64) then nI 0 else lb (8 * (nI n).toInt64) (j + 8 - 64 * ((n + 72) / 64))
/-- the digest's eight words, its 32 bytes -/
def sha_d (n : Nat) (m : Nat → Int32) : Nat → Int32 := sha_b (padm n m) ((n + 72) / 64)
def dgb (n : Nat) (m : Nat → Int32) (i : Nat) : Int32 := ru (sha_d n m (i / 4)) (24 - 8 * (i % 4)) &&& nI 255
theorem padm_lt {n j : Nat} {m : Nat → Int32} (h : j < n) : padm n m j = m j := if_pos h
theorem sh_end_I {n : Nat} {m : Nat → Int32} {q : ShS} (h : shI (padm n m) n q) : ∀ j, j < 8 → sh_end q n j = sha_d n m j := by
  have e1 : padm n m n = nI 128 := by unfold padm; rw [if_neg (by omega), if_pos rfl]
  obtain ⟨q1, hq1⟩ : ∃ z : ShS, z = sh_take q (nI 128) := ⟨_, rfl⟩
  have i1 : shI (padm n m) (n + 1) q1 := by
    have i0 := shI_s h
    rw [e1, ← hq1] at i0
    exact i0
  obtain ⟨Z, hZ⟩ : ∃ z : Nat, z = (120 - q1.2.2) % 64 := ⟨_, rfl⟩
  have hz : Z + (n + 1) + 8 = 64 * ((n + 72) / 64) := by
    rw [i1.1] at hZ
    omega
  have i2 := shI_n (r := fun _ => nI 0) i1 Z (fun j hj => by
    unfold padm
    rw [if_neg (by omega), if_neg (by omega), if_pos (by omega)])
  have i3 := shI_n (r := lb (8 * (nI n).toInt64)) i2 8 (fun j hj => by
    unfold padm
    rw [if_neg (by omega), if_neg (by omega), if_neg (by omega)]
    congr 1
    omega)
  intro j hj
  have h9 := i3.2.1 j hj
  rw [show (n + 1 + Z + 8) / 64 = (n + 72) / 64 by omega] at h9
  unfold sh_end sh_fill sha_d
  rw [← hq1, ← hZ]
  exact h9
theorem dg_eq {f f' o : Nat → Int32} {a : Nat} (hf : ∀ j, j < 8 → f j = f' j) : ∀ n, n ≤ 32 → dg_go f o a n = va_cpy (fun i => ru (f' (i / 4)) (24 - 8 * (i % 4)) &&& nI 255) o 0 a n
  | 0, _ => by
    funext k
    unfold va_cpy
    rw [if_neg (by omega)]
    rfl
  | n + 1, hn => by
    have ih := dg_eq (o := o) (a := a) hf n (by omega)
    show upd (dg_go f o a n) (a + n) _ = _
    rw [ih, hf (n / 4) (by omega)]
    funext k
    unfold upd va_cpy
    by_cases hk : k = a + n
    · rw [if_pos hk, if_pos (by omega), show 0 + (k - a) = n by omega]
    · rw [if_neg hk]
      by_cases hk2 : a ≤ k ∧ k < a + n
      · rw [if_pos hk2, if_pos (by omega)]
      · rw [if_neg hk2, if_neg (by omega)]
theorem dg_I {n : Nat} {m o : Nat → Int32} {q : ShS} {a : Nat} (h : shI (padm n m) n q) : dg_go (sh_end q n) o a 32 = va_cpy (dgb n m) o 0 a 32 := dg_eq (sh_end_I h) 32 (Nat.le_refl _)
end
section
/-! ===== ForkWatch$Mac ===== -/
/-- the key's bytes, with a side's number -/
def kb (x : Int32) (j : Nat) : Int32 := (if j < 32 then nI (j + 1) else nI 0) ^^^ x
def kcat (x : Int32) (r : Nat → Int32) : Nat → Int32 := fun j => if j < 64 then kb x j else r (j - 64)
/-- the 32 bytes that sign the first len bytes of r -/
def macb (len : Nat) (r : Nat → Int32) : Nat → Int32 := dgb 96 (kcat (nI 92) (dgb (64 + len) (kcat (nI 54) r)))
theorem kcat_lo {x : Int32} {r : Nat → Int32} {j : Nat} (h : j < 64) : kcat x r j = kb x j := if_pos h
theorem kcat_hi {x : Int32} {r : Nat → Int32} {j : Nat} : kcat x r (64 + j) = r j := by
  unfold kcat
  rw [if_neg (by omega), show 64 + j - 64 = j by omega]
/-- a Mac: itself, its Sha256, its row -/
def mcJ (G : mm_G) (M : mm_M) (mc h st w ins : Nat) : Prop := M mc = some (ob 3 [.ref h, .ref ins]) ∧ shJ G M h st w ∧ ∃ i0, M ins = some (ia G 32 i0)

set_option maxHeartbeats 4000000 in
set_option maxRecDepth 100000 in
/-- startWithKey(side) -/
theorem c_X2_startWithKey (l : Launch) (G : mm_G) (M : mm_M) (sz : Nat) (mc h st w ins : Nat) (a b : Int32) (f g : Nat → Int32) (x : Int32) (hm : M mc = some (ob 3 [.ref h, .ref ins])) (h1 : M h = some (ob 5 [.ref st, .ref w, .int a, .int b])) (h2 : M st = some (ia G 8 f)) (h3 : M w = some (ia G 64 g))  : mm_v l yX2_startWithKey wsX2_startWithKey ({ frames := 2, cells := 0, slots := 0, locals := 80 } : Room) G ([.ref mc, .int x] : List Value) M sz (fun M' => ∃ q : ShS, shA G M' h st w q 64 ∧ (∀ mm : Nat → Int32, (∀ j, j < 64 → mm j = kb x j) → shI mm 64 q) ∧ mm_fr [h, st, w] M M') := by
  refine mm_enter (cc := cX2_startWithKey) (maxL := 3) (ret := none) _ (by decide) rfl (Nat.le_of_ble_eq_true rfl) ?_
  intro p e s m below meth c ls S hr hlocks hname hA hC hR hl
  have hx := S.1
  have hb := S.2.1
  have hl : lv_has ls 3 [(0, .ref mc), (1, .int x)] := hl
  have inRX2 : ∀ w ∈ wsX20, w ∈ wsX2_startWithKey := by decide +kernel
  have inRX4 : ∀ w ∈ wsX40, w ∈ wsX2_startWithKey := by decide +kernel
  have hF : mm_fr [h, st, w] M M := mm_fr.rf
  refine lv_aload_n hx hb dX2_startWithKey_0 rfl (lv_at hl 0 rfl) ?_
  refine mm_get S hC hR (C := RX2) (T := TX2) (N := 2) (ref := "ForkWatch$Mac") (v := .ref h) 0 hm inRX2 rfl (by decide) (by decide +kernel) (fun _ h9 => h9) rfl dX2_startWithKey_1 ?_
  refine mm_callv hA hR (va_runV (As := []) (rest := []) S (c_X4_start l G M _ h st w f g a b h1 h2 h3) (cwV 0 S.2.2.2.2 gX2_startWithKey_X4_start rfl rfl rfl (by decide +kernel) ⟨Nat.le_of_ble_eq_true rfl, Nat.le_of_ble_eq_true rfl⟩) (mm_preV hC hA hR _ h1 rfl) rfl rfl hl.1 rfl (lv_room (Nat.le_of_ble_eq_true rfl)) dX2_startWithKey_4 ⟨Nat.le_of_ble_eq_true rfl, Nat.le_of_ble_eq_true rfl⟩) (fun M2 H locs hp hR => ?_)
  obtain ⟨q0, eq0⟩ : ∃ z : ShS, z = (va_cpy k_begin f 0 0 8, g, 0) := ⟨_, rfl⟩
  rw [← eq0] at hp
  obtain ⟨⟨a1, a2, a3, a4⟩, ff⟩ := hp
  have hm := ff.at hm (mm_nc (mm_neoo hm h1 (by decide)) (mm_nc (mm_neoi hm h2) (mm_nc (mm_neoi hm h3) mm_n0)))
  have h1 : M2 h = some (ob 5 [.ref st, .ref w, .int (nI q0.2.2), .int (nI 0)]) := a1
  have h2 : M2 st = some (ia G 8 q0.1) := a2
  have h3 : M2 w = some (ia G 64 q0.2.1) := a3
  have hF := hF.tr ff (mm_ic 0 rfl (mm_ic 1 rfl (mm_ic 2 rfl mm_i0)))
  refine lv_iconst (v := nI 0) hx hb dX2_startWithKey_7 (by decide) ?_
  refine lv_istore_n (lv' := [(2, .int (nI 0)), (0, .ref mc), (1, .int x)]) hx hb dX2_startWithKey_8 rfl hl (by decide) rfl (fun ls hl => ?_)
  have loop : ∀ (n i : Nat) (M1 : mm_M) (H : Heap) (locs : List Loc) (ls : Array Slot), 64 < i + n → i ≤ 64 → M1 mc = some (ob 3 [.ref h, .ref ins]) → shA G M1 h st w (sh_takes q0 (kb x) i) i → mm_fr [h, st, w] M M1 → mm_R G s (mm_A M sz) M1 H locs → lv_has ls 3 [(0, .ref mc), (1, .int x), (2, .int (nI i))] → W p l e ({ frames := 2, cells := 0, slots := 0, locals := 80 } : Room) s m ([.ref mc, .int x] : List Value).toArray below meth c H locs 0 0 (MQ below (va_Qv (fun M' => ∃ q : ShS, shA G M' h st w q 64 ∧ (∀ mm : Nat → Int32, (∀ j, j < 64 → mm j = kb x j) → shI mm 64 q) ∧ mm_fr [h, st, w] M M') (fun M' t => mm_H G (mm_A M sz) M' t.heap) (mm_A M sz)) ([.ref mc, .int x] : List Value).toArray s 0 0 (mm_A M sz)) (F0 m 9 ls []) := by
    intro n
    induction n with
    | zero =>
      intro i M1 H locs ls hn hi hm hs hF hR hl
      omega
    | succ n ih =>
      intro i M1 H locs ls hn hi hm hs hF hR hl
      obtain ⟨qi, eqi⟩ : ∃ z : ShS, z = sh_takes q0 (kb x) i := ⟨_, rfl⟩
      rw [← eqi] at hs
      obtain ⟨h1, h2, h3, hq⟩ := hs
      refine lv_iload_n hx hb dX2_startWithKey_9 rfl (lv_at hl 2 rfl) ?_
      refine lv_bipush (v := nI 64) hx hb dX2_startWithKey_10 (by decide) ?_
      refine lv_icmp_ge (tgt := 43) hx hb dX2_startWithKey_12 (by decide) (fun c3 => ?_) (fun c3 => ?_)
      · have c3 : 64 ≤ i := (nI_leI (by omega) (by omega)).mp c3
        have e4 : i = 64 := by omega
        subst e4
        exact mm_vret S hr hlocks hR ⟨qi, ⟨h1, h2, h3, hq⟩, fun mm hmm => by rw [eqi, eq0]; exact shI_n shI_0 64 (fun j hj => by rw [Nat.zero_add]; exact (hmm j hj).symm), hF⟩ dX2_startWithKey_43
      · have c3 : ¬ (64 ≤ i) := fun z => c3 ((nI_leI (by omega) (by omega)).mpr z)
        refine lv_aload_n hx hb dX2_startWithKey_15 rfl (lv_at hl 0 rfl) ?_
        refine mm_get S hC hR (C := RX2) (T := TX2) (N := 2) (ref := "ForkWatch$Mac") (v := .ref h) 0 hm inRX2 rfl (by decide) (by decide +kernel) (fun _ h9 => h9) rfl dX2_startWithKey_16 ?_
        refine lv_iload_n hx hb dX2_startWithKey_19 rfl (lv_at hl 2 rfl) ?_
        refine lv_bipush (v := nI 32) hx hb dX2_startWithKey_20 (by decide) ?_
        refine lv_icmp_ge (tgt := 31) hx hb dX2_startWithKey_22 (by decide) (fun c2 => ?_) (fun c2 => ?_)
        · have c2 : 32 ≤ i := (nI_leI (by omega) (by omega)).mp c2
          have ekb : kb x i = nI 0 ^^^ x := by unfold kb; rw [if_neg (by omega)]
          refine lv_iconst (v := nI 0) hx hb dX2_startWithKey_31 (by decide) ?_
          refine lv_iload_n hx hb dX2_startWithKey_32 rfl (lv_at hl 1 rfl) ?_
          refine lv_ixor hx hb dX2_startWithKey_33 ?_
          refine mm_callv hA hR (va_runV (As := [.int ((nI 0) ^^^ x)]) (rest := []) S (c_X4_take l G M1 H.size h st w qi i (nI 0 ^^^ x) h1 h2 h3 hq) (cwV 1 S.2.2.2.2 gX2_startWithKey_X4_take rfl rfl rfl (by decide +kernel) ⟨Nat.le_of_ble_eq_true rfl, Nat.le_of_ble_eq_true rfl⟩) (mm_preV hC hA hR _ h1 rfl) rfl rfl hl.1 rfl (lv_room (Nat.le_of_ble_eq_true rfl)) dX2_startWithKey_34 ⟨Nat.le_of_ble_eq_true rfl, Nat.le_of_ble_eq_true rfl⟩) (fun M5 H locs hp hR => ?_)
          obtain ⟨⟨a1, a2, a3, a4⟩, ff⟩ := hp
          have hm := ff.at hm (mm_nc (mm_neoo hm h1 (by decide)) (mm_nc (mm_neoi hm h2) (mm_nc (mm_neoi hm h3) mm_n0)))
          have h1 : M5 h = some (ob 5 [.ref st, .ref w, .int (nI ((sh_take qi (nI 0 ^^^ x)).2.2)), .int (nI (i + 1))]) := a1
          have h2 : M5 st = some (ia G 8 ((sh_take qi (nI 0 ^^^ x)).1)) := a2
          have h3 : M5 w = some (ia G 64 ((sh_take qi (nI 0 ^^^ x)).2.1)) := a3
          have hF := hF.tr ff (mm_ic 0 rfl (mm_ic 1 rfl (mm_ic 2 rfl mm_i0)))
          refine lv_iinc (v := (nI (i + 1))) (lv' := [(2, .int (nI (i + 1))), (0, .ref mc), (1, .int x)]) hx hb dX2_startWithKey_37 hl (k := 2) rfl (by rw [show Int32.ofInt 1 = nI 1 from by decide]; exact nI_add _ _) (by decide) rfl (fun ls hl => ?_)
          refine lv_goto (tgt := 9) hx hb dX2_startWithKey_40 (by decide) ?_
          exact ih (i + 1) _ H locs ls (by omega) (by omega) hm (by show shA G _ h st w (sh_take (sh_takes q0 (kb x) i) (kb x i)) (i + 1); rw [← eqi, ekb]; exact ⟨h1, h2, h3, a4⟩) hF hR (lv_sub hl [1, 2, 0] rfl)
        · have c2 : ¬ (32 ≤ i) := fun z => c2 ((nI_leI (by omega) (by omega)).mpr z)
          have ekb : kb x i = nI (i + 1) ^^^ x := by unfold kb; rw [if_pos (by omega)]
          refine lv_iload_n hx hb dX2_startWithKey_25 rfl (lv_at hl 2 rfl) ?_
          refine lv_iconst (v := nI 1) hx hb dX2_startWithKey_26 (by decide) ?_
          refine lv_iadd hx hb dX2_startWithKey_27 ?_
          refine mm_eqi (nI_add _ _) ?_
          refine lv_goto (tgt := 32) hx hb dX2_startWithKey_28 (by decide) ?_
          refine lv_iload_n hx hb dX2_startWithKey_32 rfl (lv_at hl 1 rfl) ?_
          refine lv_ixor hx hb dX2_startWithKey_33 ?_
          refine mm_callv hA hR (va_runV (As := [.int ((nI (i + 1)) ^^^ x)]) (rest := []) S (c_X4_take l G M1 H.size h st w qi i (nI (i + 1) ^^^ x) h1 h2 h3 hq) (cwV 1 S.2.2.2.2 gX2_startWithKey_X4_take rfl rfl rfl (by decide +kernel) ⟨Nat.le_of_ble_eq_true rfl, Nat.le_of_ble_eq_true rfl⟩) (mm_preV hC hA hR _ h1 rfl) rfl rfl hl.1 rfl (lv_room (Nat.le_of_ble_eq_true rfl)) dX2_startWithKey_34 ⟨Nat.le_of_ble_eq_true rfl, Nat.le_of_ble_eq_true rfl⟩) (fun M7 H locs hp hR => ?_)
          obtain ⟨⟨a1, a2, a3, a4⟩, ff⟩ := hp
          have hm := ff.at hm (mm_nc (mm_neoo hm h1 (by decide)) (mm_nc (mm_neoi hm h2) (mm_nc (mm_neoi hm h3) mm_n0)))
          have h1 : M7 h = some (ob 5 [.ref st, .ref w, .int (nI ((sh_take qi (nI (i + 1) ^^^ x)).2.2)), .int (nI (i + 1))]) := a1
          have h2 : M7 st = some (ia G 8 ((sh_take qi (nI (i + 1) ^^^ x)).1)) := a2
          have h3 : M7 w = some (ia G 64 ((sh_take qi (nI (i + 1) ^^^ x)).2.1)) := a3
          have hF := hF.tr ff (mm_ic 0 rfl (mm_ic 1 rfl (mm_ic 2 rfl mm_i0)))
          refine lv_iinc (v := (nI (i + 1))) (lv' := [(2, .int (nI (i + 1))), (0, .ref mc), (1, .int x)]) hx hb dX2_startWithKey_37 hl (k := 2) rfl (by rw [show Int32.ofInt 1 = nI 1 from by decide]; exact nI_add _ _) (by decide) rfl (fun ls hl => ?_)
          refine lv_goto (tgt := 9) hx hb dX2_startWithKey_40 (by decide) ?_
          exact ih (i + 1) _ H locs ls (by omega) (by omega) hm (by show shA G _ h st w (sh_take (sh_takes q0 (kb x) i) (kb x i)) (i + 1); rw [← eqi, ekb]; exact ⟨h1, h2, h3, a4⟩) hF hR (lv_sub hl [1, 2, 0] rfl)
  exact loop 65 0 _ _ _ ls (by omega) (by omega) hm ⟨h1, h2, h3, a4⟩ hF hR (lv_sub hl [1, 2, 0] rfl)

set_option maxHeartbeats 4000000 in
set_option maxRecDepth 100000 in
/-- make(bytes, length, out, at) -/
theorem c_X2_make (l : Launch) (G : mm_G) (M : mm_M) (sz : Nat) (mc h st w ins y o k ko len at_ : Nat) (a b : Int32) (f g i0 r ro : Nat → Int32) (hm : M mc = some (ob 3 [.ref h, .ref ins])) (h1 : M h = some (ob 5 [.ref st, .ref w, .int a, .int b])) (h2 : M st = some (ia G 8 f)) (h3 : M w = some (ia G 64 g)) (h4 : M ins = some (ia G 32 i0)) (h5 : M y = some (ia G k r)) (h6 : M o = some (ia G ko ro)) (hk : k < 2 ^ 31) (hlen : len ≤ k) (hko : ko < 2 ^ 31) (hat : at_ + 32 ≤ ko) (n1 : y ≠ st) (n2 : y ≠ w) (n3 : y ≠ ins) (n4 : o ≠ st) (n5 : o ≠ w) (n6 : o ≠ ins) : mm_v l yX2_make wsX2_make ({ frames := 3, cells := 0, slots := 0, locals := 110 } : Room) G ([.ref mc, .ref y, .int (nI len), .ref o, .int (nI at_)] : List Value) M sz (fun M' => M' o = some (ia G ko (va_cpy (macb len r) ro 0 at_ 32)) ∧ mcJ G M' mc h st w ins ∧ mm_fr [h, st, w, ins, o] M M') := by
  refine mm_enter (cc := cX2_make) (maxL := 5) (ret := none) _ (by decide) rfl (Nat.le_of_ble_eq_true rfl) ?_
  intro p e s m below meth c ls S hr hlocks hname hA hC hR hl
  have hx := S.1
  have hb := S.2.1
  have hl : lv_has ls 5 [(0, .ref mc), (1, .ref y), (2, .int (nI len)), (3, .ref o), (4, .int (nI at_))] := hl
  have inRX2 : ∀ w ∈ wsX20, w ∈ wsX2_make := by decide +kernel
  have inRX4 : ∀ w ∈ wsX40, w ∈ wsX2_make := by decide +kernel
  have hF : mm_fr [h, st, w, ins, o] M M := mm_fr.rf
  have d_mc_h : mc ≠ h := mm_neoo hm h1 (by decide)
  have d_mc_st : mc ≠ st := mm_neoi hm h2
  have d_mc_w : mc ≠ w := mm_neoi hm h3
  have d_mc_ins : mc ≠ ins := mm_neoi hm h4
  have d_mc_o : mc ≠ o := mm_neoi hm h6
  have d_h_ins : h ≠ ins := mm_neoi h1 h4
  have d_h_o : h ≠ o := mm_neoi h1 h6
  have d_h_y : h ≠ y := mm_neoi h1 h5
  have d_ins_st : ins ≠ st := mm_nelen h4 h2 (by decide)
  have d_ins_w : ins ≠ w := mm_nelen h4 h3 (by decide)
  refine lv_aload_n hx hb dX2_make_0 rfl (lv_at hl 0 rfl) ?_
  refine lv_bipush (v := nI 54) hx hb dX2_make_1 (by decide) ?_
  refine mm_callv hA hR (va_runV (As := [.int (nI 54)]) (rest := []) S (c_X2_startWithKey l G M _ mc h st w ins _ _ _ _ (nI 54) hm h1 h2 h3) (cwV 1 S.2.2.2.2 gX2_make_X2_startWithKey rfl rfl rfl (by decide +kernel) ⟨Nat.le_of_ble_eq_true rfl, Nat.le_of_ble_eq_true rfl⟩) (mm_preV hC hA hR _ hm rfl) rfl rfl hl.1 rfl (lv_room (Nat.le_of_ble_eq_true rfl)) dX2_make_3 ⟨Nat.le_of_ble_eq_true rfl, Nat.le_of_ble_eq_true rfl⟩) (fun M9 H locs hp hR => ?_)
  obtain ⟨p1, ⟨a1, a2, a3, a4⟩, hI1, ff⟩ := hp
  have hm := ff.at hm (mm_nc d_mc_h (mm_nc d_mc_st (mm_nc d_mc_w mm_n0)))
  have h4 := ff.at h4 (mm_nc (Ne.symm d_h_ins) (mm_nc d_ins_st (mm_nc d_ins_w mm_n0)))
  have h5 := ff.at h5 (mm_nc (Ne.symm d_h_y) (mm_nc n1 (mm_nc n2 mm_n0)))
  have h6 := ff.at h6 (mm_nc (Ne.symm d_h_o) (mm_nc n4 (mm_nc n5 mm_n0)))
  have h1 : M9 h = some (ob 5 [.ref st, .ref w, .int (nI p1.2.2), .int (nI 64)]) := a1
  have h2 : M9 st = some (ia G 8 p1.1) := a2
  have h3 : M9 w = some (ia G 64 p1.2.1) := a3
  have hF := hF.tr ff (mm_ic 0 rfl (mm_ic 1 rfl (mm_ic 2 rfl mm_i0)))
  refine lv_aload_n hx hb dX2_make_6 rfl (lv_at hl 0 rfl) ?_
  refine mm_get S hC hR (C := RX2) (T := TX2) (N := 2) (ref := "ForkWatch$Mac") (v := .ref h) 0 hm inRX2 rfl (by decide) (by decide +kernel) (fun _ h9 => h9) rfl dX2_make_7 ?_
  refine lv_aload_n hx hb dX2_make_10 rfl (lv_at hl 1 rfl) ?_
  refine lv_iconst (v := nI 0) hx hb dX2_make_11 (by decide) ?_
  refine lv_iload_n hx hb dX2_make_12 rfl (lv_at hl 2 rfl) ?_
  have j1 := hI1 (padm (64 + len) (kcat (nI 54) r)) (fun j hj => by rw [padm_lt (by omega)]; exact kcat_lo hj)
  refine mm_callv hA hR (va_runV (As := [.ref y, .int (nI 0), .int (nI len)]) (rest := []) S (c_X4_takeRow l G M9 _ h st w y k p1 64 0 len r h1 h2 h3 h5 a4 (by omega) hk n1 n2) (cwV 3 S.2.2.2.2 gX2_make_X4_takeRow rfl rfl rfl (by decide +kernel) ⟨Nat.le_of_ble_eq_true rfl, Nat.le_of_ble_eq_true rfl⟩) (mm_preV hC hA hR _ h1 rfl) rfl rfl hl.1 rfl (lv_room (Nat.le_of_ble_eq_true rfl)) dX2_make_13 ⟨Nat.le_of_ble_eq_true rfl, Nat.le_of_ble_eq_true rfl⟩) (fun M11 H locs hp hR => ?_)
  obtain ⟨⟨b1, b2, b3, b4⟩, ff⟩ := hp
  have hm := ff.at hm (mm_nc d_mc_h (mm_nc d_mc_st (mm_nc d_mc_w mm_n0)))
  have h4 := ff.at h4 (mm_nc (Ne.symm d_h_ins) (mm_nc d_ins_st (mm_nc d_ins_w mm_n0)))
  have h5 := ff.at h5 (mm_nc (Ne.symm d_h_y) (mm_nc n1 (mm_nc n2 mm_n0)))
  have h6 := ff.at h6 (mm_nc (Ne.symm d_h_o) (mm_nc n4 (mm_nc n5 mm_n0)))
  have h1 : M11 h = some (ob 5 [.ref st, .ref w, .int (nI ((sh_takes p1 (fun j => r (0 + j)) len).2.2)), .int (nI (64 + len))]) := b1
  have h2 : M11 st = some (ia G 8 ((sh_takes p1 (fun j => r (0 + j)) len).1)) := b2
  have h3 : M11 w = some (ia G 64 ((sh_takes p1 (fun j => r (0 + j)) len).2.1)) := b3
  have hF := hF.tr ff (mm_ic 0 rfl (mm_ic 1 rfl (mm_ic 2 rfl mm_i0)))
  have j2 := shI_n (r := fun j => r (0 + j)) j1 len (fun j hj => by rw [padm_lt (by omega), kcat_hi, Nat.zero_add])
  obtain ⟨p2, ep2⟩ : ∃ z : ShS, z = sh_takes p1 (fun j => r (0 + j)) len := ⟨_, rfl⟩
  rw [← ep2] at j2 b4 h1 h2 h3
  refine lv_aload_n hx hb dX2_make_16 rfl (lv_at hl 0 rfl) ?_
  refine mm_get S hC hR (C := RX2) (T := TX2) (N := 2) (ref := "ForkWatch$Mac") (v := .ref h) 0 hm inRX2 rfl (by decide) (by decide +kernel) (fun _ h9 => h9) rfl dX2_make_17 ?_
  refine lv_aload_n hx hb dX2_make_20 rfl (lv_at hl 0 rfl) ?_
  refine mm_get S hC hR (C := RX2) (T := TX2) (N := 2) (ref := "ForkWatch$Mac") (v := .ref ins) 1 hm inRX2 rfl (by decide) (by decide +kernel) (fun _ h9 => h9) rfl dX2_make_21 ?_
  refine lv_iconst (v := nI 0) hx hb dX2_make_24 (by decide) ?_
  refine mm_callv hA hR (va_runV (As := [.ref ins, .int (nI 0)]) (rest := []) S (c_X4_finish l G M11 _ h st w ins 32 p2 (64 + len) 0 i0 h1 h2 h3 h4 b4 (by omega) (by decide) d_ins_st d_ins_w) (cwV 2 S.2.2.2.2 gX2_make_X4_finish rfl rfl rfl (by decide +kernel) ⟨Nat.le_of_ble_eq_true rfl, Nat.le_of_ble_eq_true rfl⟩) (mm_preV hC hA hR _ h1 rfl) rfl rfl hl.1 rfl (lv_room (Nat.le_of_ble_eq_true rfl)) dX2_make_25 ⟨Nat.le_of_ble_eq_true rfl, Nat.le_of_ble_eq_true rfl⟩) (fun M13 H locs hp hR => ?_)
  obtain ⟨e4, ⟨f2, g2, a2, b2, e1, e2, e3⟩, ff⟩ := hp
  rw [dg_I j2] at e4
  have hm := ff.at hm (mm_nc d_mc_h (mm_nc d_mc_st (mm_nc d_mc_w (mm_nc d_mc_ins mm_n0))))
  have h5 := ff.at h5 (mm_nc (Ne.symm d_h_y) (mm_nc n1 (mm_nc n2 (mm_nc n3 mm_n0))))
  have h6 := ff.at h6 (mm_nc (Ne.symm d_h_o) (mm_nc n4 (mm_nc n5 (mm_nc n6 mm_n0))))
  have h1 : M13 h = some (ob 5 [.ref st, .ref w, .int a2, .int b2]) := e1
  have h2 : M13 st = some (ia G 8 f2) := e2
  have h3 : M13 w = some (ia G 64 g2) := e3
  have h4 : M13 ins = some (ia G 32 (va_cpy (dgb (64 + len) (kcat (nI 54) r)) i0 0 0 32)) := e4
  have hF := hF.tr ff (mm_ic 0 rfl (mm_ic 1 rfl (mm_ic 2 rfl (mm_ic 3 rfl mm_i0))))
  refine lv_aload_n hx hb dX2_make_28 rfl (lv_at hl 0 rfl) ?_
  refine lv_bipush (v := nI 92) hx hb dX2_make_29 (by decide) ?_
  refine mm_callv hA hR (va_runV (As := [.int (nI 92)]) (rest := []) S (c_X2_startWithKey l G M13 _ mc h st w ins _ _ _ _ (nI 92) hm h1 h2 h3) (cwV 1 S.2.2.2.2 gX2_make_X2_startWithKey rfl rfl rfl (by decide +kernel) ⟨Nat.le_of_ble_eq_true rfl, Nat.le_of_ble_eq_true rfl⟩) (mm_preV hC hA hR _ hm rfl) rfl rfl hl.1 rfl (lv_room (Nat.le_of_ble_eq_true rfl)) dX2_make_31 ⟨Nat.le_of_ble_eq_true rfl, Nat.le_of_ble_eq_true rfl⟩) (fun M15 H locs hp hR => ?_)
  obtain ⟨p2, ⟨a1, a2, a3, a4⟩, hI2, ff⟩ := hp
  have hm := ff.at hm (mm_nc d_mc_h (mm_nc d_mc_st (mm_nc d_mc_w mm_n0)))
  have h4 := ff.at h4 (mm_nc (Ne.symm d_h_ins) (mm_nc d_ins_st (mm_nc d_ins_w mm_n0)))
  have h5 := ff.at h5 (mm_nc (Ne.symm d_h_y) (mm_nc n1 (mm_nc n2 mm_n0)))
  have h6 := ff.at h6 (mm_nc (Ne.symm d_h_o) (mm_nc n4 (mm_nc n5 mm_n0)))
  have h1 : M15 h = some (ob 5 [.ref st, .ref w, .int (nI p2.2.2), .int (nI 64)]) := a1
  have h2 : M15 st = some (ia G 8 p2.1) := a2
  have h3 : M15 w = some (ia G 64 p2.2.1) := a3
  have hF := hF.tr ff (mm_ic 0 rfl (mm_ic 1 rfl (mm_ic 2 rfl mm_i0)))
  have j3 := hI2 (padm (64 + 32) (kcat (nI 92) (dgb (64 + len) (kcat (nI 54) r)))) (fun j hj => by rw [padm_lt (by omega)]; exact kcat_lo hj)
  refine lv_aload_n hx hb dX2_make_34 rfl (lv_at hl 0 rfl) ?_
  refine mm_get S hC hR (C := RX2) (T := TX2) (N := 2) (ref := "ForkWatch$Mac") (v := .ref h) 0 hm inRX2 rfl (by decide) (by decide +kernel) (fun _ h9 => h9) rfl dX2_make_35 ?_
  refine lv_aload_n hx hb dX2_make_38 rfl (lv_at hl 0 rfl) ?_
  refine mm_get S hC hR (C := RX2) (T := TX2) (N := 2) (ref := "ForkWatch$Mac") (v := .ref ins) 1 hm inRX2 rfl (by decide) (by decide +kernel) (fun _ h9 => h9) rfl dX2_make_39 ?_
  refine lv_iconst (v := nI 0) hx hb dX2_make_42 (by decide) ?_
  refine lv_bipush (v := nI 32) hx hb dX2_make_43 (by decide) ?_
  refine mm_callv hA hR (va_runV (As := [.ref ins, .int (nI 0), .int (nI 32)]) (rest := []) S (c_X4_takeRow l G M15 _ h st w ins 32 p2 64 0 32 (va_cpy (dgb (64 + len) (kcat (nI 54) r)) i0 0 0 32) h1 h2 h3 h4 a4 (by omega) (by decide) d_ins_st d_ins_w) (cwV 3 S.2.2.2.2 gX2_make_X4_takeRow rfl rfl rfl (by decide +kernel) ⟨Nat.le_of_ble_eq_true rfl, Nat.le_of_ble_eq_true rfl⟩) (mm_preV hC hA hR _ h1 rfl) rfl rfl hl.1 rfl (lv_room (Nat.le_of_ble_eq_true rfl)) dX2_make_45 ⟨Nat.le_of_ble_eq_true rfl, Nat.le_of_ble_eq_true rfl⟩) (fun M17 H locs hp hR => ?_)
  obtain ⟨⟨c1, c2, c3, c4⟩, ff⟩ := hp
  have hm := ff.at hm (mm_nc d_mc_h (mm_nc d_mc_st (mm_nc d_mc_w mm_n0)))
  have h4 := ff.at h4 (mm_nc (Ne.symm d_h_ins) (mm_nc d_ins_st (mm_nc d_ins_w mm_n0)))
  have h5 := ff.at h5 (mm_nc (Ne.symm d_h_y) (mm_nc n1 (mm_nc n2 mm_n0)))
  have h6 := ff.at h6 (mm_nc (Ne.symm d_h_o) (mm_nc n4 (mm_nc n5 mm_n0)))
  have h1 : M17 h = some (ob 5 [.ref st, .ref w, .int (nI ((sh_takes p2 (fun j => va_cpy (dgb (64 + len) (kcat (nI 54) r)) i0 0 0 32 (0 + j)) 32).2.2)), .int (nI (64 + 32))]) := c1
  have h2 : M17 st = some (ia G 8 ((sh_takes p2 (fun j => va_cpy (dgb (64 + len) (kcat (nI 54) r)) i0 0 0 32 (0 + j)) 32).1)) := c2
  have h3 : M17 w = some (ia G 64 ((sh_takes p2 (fun j => va_cpy (dgb (64 + len) (kcat (nI 54) r)) i0 0 0 32 (0 + j)) 32).2.1)) := c3
  have hF := hF.tr ff (mm_ic 0 rfl (mm_ic 1 rfl (mm_ic 2 rfl mm_i0)))
  have j4 := shI_n (r := fun j => va_cpy (dgb (64 + len) (kcat (nI 54) r)) i0 0 0 32 (0 + j)) j3 32 (fun j hj => by rw [padm_lt (by omega), kcat_hi]; unfold va_cpy; rw [if_pos (by omega)]; congr 1; omega)
  obtain ⟨p3, ep3⟩ : ∃ z : ShS, z = sh_takes p2 (fun j => va_cpy (dgb (64 + len) (kcat (nI 54) r)) i0 0 0 32 (0 + j)) 32 := ⟨_, rfl⟩
  rw [← ep3] at j4 c4 h1 h2 h3
  refine lv_aload_n hx hb dX2_make_48 rfl (lv_at hl 0 rfl) ?_
  refine mm_get S hC hR (C := RX2) (T := TX2) (N := 2) (ref := "ForkWatch$Mac") (v := .ref h) 0 hm inRX2 rfl (by decide) (by decide +kernel) (fun _ h9 => h9) rfl dX2_make_49 ?_
  refine lv_aload_n hx hb dX2_make_52 rfl (lv_at hl 3 rfl) ?_
  refine lv_iload hx hb dX2_make_53 (lv_at hl 4 rfl) ?_
  refine mm_callv hA hR (va_runV (As := [.ref o, .int (nI at_)]) (rest := []) S (c_X4_finish l G M17 _ h st w o ko p3 (64 + 32) at_ ro h1 h2 h3 h6 c4 (by omega) hko n4 n5) (cwV 2 S.2.2.2.2 gX2_make_X4_finish rfl rfl rfl (by decide +kernel) ⟨Nat.le_of_ble_eq_true rfl, Nat.le_of_ble_eq_true rfl⟩) (mm_preV hC hA hR _ h1 rfl) rfl rfl hl.1 rfl (lv_room (Nat.le_of_ble_eq_true rfl)) dX2_make_55 ⟨Nat.le_of_ble_eq_true rfl, Nat.le_of_ble_eq_true rfl⟩) (fun M19 H locs hp hR => ?_)
  obtain ⟨e6, ⟨f3, g3, a3, b3, e1, e2, e3⟩, ff⟩ := hp
  rw [dg_I j4] at e6
  have hm := ff.at hm (mm_nc d_mc_h (mm_nc d_mc_st (mm_nc d_mc_w (mm_nc d_mc_o mm_n0))))
  have h4 := ff.at h4 (mm_nc (Ne.symm d_h_ins) (mm_nc d_ins_st (mm_nc d_ins_w (mm_nc (Ne.symm n6) mm_n0))))
  have h1 : M19 h = some (ob 5 [.ref st, .ref w, .int a3, .int b3]) := e1
  have h2 : M19 st = some (ia G 8 f3) := e2
  have h3 : M19 w = some (ia G 64 g3) := e3
  have h6 : M19 o = some (ia G ko (va_cpy (macb len r) ro 0 at_ 32)) := e6
  have hF := hF.tr ff (mm_ic 0 rfl (mm_ic 1 rfl (mm_ic 2 rfl (mm_ic 4 rfl mm_i0))))
  exact mm_vret S hr hlocks hR ⟨h6, ⟨hm, ⟨_, _, _, _, h1, h2, h3⟩, _, h4⟩, hF⟩ dX2_make_58

set_option maxHeartbeats 4000000 in
set_option maxRecDepth 100000 in
/-- Mac() -/
theorem c_X2_init (l : Launch) (G : mm_G) (M : mm_M) (sz : Nat) (mc : Nat) (hm : M mc = some (ob 3 [.null, .null]))  : mm_v l yX2_init wsX2_init ({ frames := 2, cells := 4, slots := 108, locals := 40 } : Room) G ([.ref mc] : List Value) M sz (fun M' => ∃ h st w ins, M h = none ∧ M st = none ∧ M w = none ∧ M ins = none ∧ st ≠ w ∧ st ≠ ins ∧ w ≠ ins ∧ mcJ G M' mc h st w ins ∧ mm_fr [mc] M M') := by
  refine mm_enter (cc := cX2_init) (maxL := 1) (ret := none) _ (by decide) rfl (Nat.le_of_ble_eq_true rfl) ?_
  intro p e s m below meth c ls S hr hlocks hname hA hC hR hl
  have hx := S.1
  have hb := S.2.1
  have hl : lv_has ls 1 [(0, .ref mc)] := hl
  have hin : meth.name = "<init>" := hname
  have inRX2 : ∀ w ∈ wsX20, w ∈ wsX2_init := by decide +kernel
  have inRX4 : ∀ w ∈ wsX40, w ∈ wsX2_init := by decide +kernel
  have hF : mm_fr [mc] M M := mm_fr.rf
  refine lv_aload_n hx hb dX2_init_0 rfl (lv_at hl 0 rfl) ?_
  refine W.objInit hx hb S.2.2.2.1 (S.2.2.2.2 (.methodLink RX2 3 objectInit) (by decide +kernel)) (S.2.2.2.2 (.instanceMethod objectInit) (by decide +kernel)) (S.2.2.2.2 (.code objectInit ⟨#[0xb1]⟩ 1 none) (by decide +kernel)) rfl (by rw [S.2.2.1]; exact hl.1) rfl dX2_init_1 (Nat.le_of_ble_eq_true rfl) (Nat.le_of_ble_eq_true rfl) ?_
  refine W.eq (g2 := F0 m 4 ls []) rfl ?_
  refine lv_aload_n hx hb dX2_init_4 rfl (lv_at hl 0 rfl) ?_
  refine mm_new (fs := [.null, .null, .int (nI 0), .int (nI 0)]) S hC hA hR (C := RX4) (T := TX4) (N := 4) (ci := 5) inRX4 rfl tyX4_ok (by decide +kernel) (by decide +kernel) (by decide +kernel) (fun j hj => by rcases (show j = 0 ∨ j = 1 ∨ j = 2 ∨ j = 3 by omega) with rfl | rfl | rfl | rfl <;> rfl) (Nat.le_of_ble_eq_true rfl) (Nat.le_of_ble_eq_true rfl) dX2_init_5 (fun h H M20 z22 h1 f21 hR => ?_)
  have n_mc_h : mc ≠ h := mm_nenew hm z22
  have nn_h : M h = none := hF.none z22 (mm_oc hm mm_o0)
  have hm := f21.at hm mm_n0
  have h1 : M20 h = some (ob 5 [.null, .null, .int (nI 0), .int (nI 0)]) := h1
  have hF := hF.tr f21 mm_i0
  refine lv_dup hx hb dX2_init_8 rfl ?_
  refine mm_callv hA hR (va_runIN (As := []) (rest := [.ref h, .ref mc]) S (c_X4_init l G M20 _ h h1) ⟨va_cnB 0 S.2.2.2.2 gX2_init_X4_init_n11 rfl rfl rfl (hC.2.2.2.2.2 (.methodLinkNest RX2 11 yX4_init "ForkWatch") (by decide +kernel)) (S.2.2.2.2 (.initialized RX4) (by decide +kernel)) (by decide +kernel) ⟨Nat.le_of_ble_eq_true rfl, Nat.le_of_ble_eq_true rfl⟩, rfl, S.2.2.2.2 (.instanceMethod yX4_init) (by decide +kernel)⟩ (mm_preS hC hA hR _) rfl rfl hl.1 rfl (lv_room (Nat.le_of_ble_eq_true rfl)) dX2_init_9 ⟨Nat.le_of_ble_eq_true rfl, Nat.le_of_ble_eq_true rfl⟩) (fun M24 H locs hp hR => ?_)
  obtain ⟨st, w, y1, y2, ⟨a1, a2, a3, a4⟩, ff⟩ := hp
  have n_mc_st : mc ≠ st := mm_nenew hm y1
  have n_mc_w : mc ≠ w := mm_nenew hm y2
  have nn_st : M st = none := hF.none y1 (mm_oc hm mm_o0)
  have nn_w : M w = none := hF.none y2 (mm_oc hm mm_o0)
  have hm := ff.at hm (mm_nc n_mc_h mm_n0)
  have h1 : M24 h = some (ob 5 [.ref st, .ref w, .int (nI 0), .int (nI 0)]) := a1
  have h2 : M24 st = some (ia G 8 (fun _ => 0)) := a2
  have h3 : M24 w = some (ia G 64 (fun _ => 0)) := a3
  have hF := hF.tr ff (mm_in nn_h mm_i0)
  refine mm_putF S hC hR (C := RX2) (T := TX2) (N := 2) (ref := "ForkWatch$Mac") 0 hm inRX2 rfl tyX2_ok nmX2 (by decide) (by decide +kernel) (fun _ h9 => h9) rfl hin rfl rfl rfl (Nat.le_of_ble_eq_true rfl) dX2_init_12 (fun H locs M25 g27 f26 hR => ?_)
  have h1 := f26.at h1 (mm_nc (Ne.symm n_mc_h) mm_n0)
  have h2 := f26.at h2 (mm_nc (Ne.symm n_mc_st) mm_n0)
  have h3 := f26.at h3 (mm_nc (Ne.symm n_mc_w) mm_n0)
  have hm : M25 mc = some (ob 3 [.ref h, .null]) := g27
  have hF := hF.tr f26 (mm_ic 0 rfl mm_i0)
  refine lv_aload_n hx hb dX2_init_15 rfl (lv_at hl 0 rfl) ?_
  refine lv_bipush (v := nI 32) hx hb dX2_init_16 (by decide) ?_
  refine mm_newi S hC hA hR (by decide +kernel) (n := 32) (by omega) (Nat.le_of_ble_eq_true rfl) (Nat.le_of_ble_eq_true rfl) dX2_init_18 (fun ins H M28 z30 h4 f29 hR => ?_)
  have n_mc_ins : mc ≠ ins := mm_nenew hm z30
  have n_h_ins : h ≠ ins := mm_nenew h1 z30
  have n_st_ins : st ≠ ins := mm_nenew h2 z30
  have n_w_ins : w ≠ ins := mm_nenew h3 z30
  have nn_ins : M ins = none := hF.none z30 (mm_oc hm mm_o0)
  have hm := f29.at hm mm_n0
  have h1 := f29.at h1 mm_n0
  have h2 := f29.at h2 mm_n0
  have h3 := f29.at h3 mm_n0
  have h4 : M28 ins = some (ia G 32 (fun _ => 0)) := h4
  have hF := hF.tr f29 mm_i0
  refine mm_putF S hC hR (C := RX2) (T := TX2) (N := 2) (ref := "ForkWatch$Mac") 1 hm inRX2 rfl tyX2_ok nmX2 (by decide) (by decide +kernel) (fun _ h9 => h9) rfl hin rfl rfl rfl (Nat.le_of_ble_eq_true rfl) dX2_init_20 (fun H locs M31 g33 f32 hR => ?_)
  have h1 := f32.at h1 (mm_nc (Ne.symm n_mc_h) mm_n0)
  have h2 := f32.at h2 (mm_nc (Ne.symm n_mc_st) mm_n0)
  have h3 := f32.at h3 (mm_nc (Ne.symm n_mc_w) mm_n0)
  have h4 := f32.at h4 (mm_nc (Ne.symm n_mc_ins) mm_n0)
  have hm : M31 mc = some (ob 3 [.ref h, .ref ins]) := g33
  have hF := hF.tr f32 (mm_ic 0 rfl mm_i0)
  exact mm_vret S hr hlocks hR ⟨h, st, w, ins, nn_h, nn_st, nn_w, nn_ins, mm_nelen h2 h3 (by decide), mm_nelen h2 h4 (by decide), mm_nelen h3 h4 (by decide), ⟨hm, ⟨_, _, _, _, h1, h2, h3⟩, _, h4⟩, hF⟩ dX2_init_23
end
section
/-! ===== Arrays.fill, sameRow, ForkWatch$Files, ForkWatch$Operation ===== -/
def fl_go (f : Nat → Int32) (v : Int32) (n : Nat) : Nat → Int32 := fun j => if j < n then v else f j
theorem fl_0 {f : Nat → Int32} {v : Int32} : fl_go f v 0 = f := by funext j; unfold fl_go; rw [if_neg (by omega)]
theorem fl_s {f : Nat → Int32} {v : Int32} {n : Nat} : upd (fl_go f v n) n v = fl_go f v (n + 1) := by
  funext j
  unfold upd fl_go
  by_cases h : j = n
  · rw [if_pos h, if_pos (by omega)]
  · rw [if_neg h]
    by_cases h2 : j < n
    · rw [if_pos h2, if_pos (by omega)]
    · rw [if_neg h2, if_neg (by omega)]

set_option maxHeartbeats 4000000 in
set_option maxRecDepth 100000 in
/-- Arrays.fill(row, v) -/
theorem c_J7_fill_53178 (l : Launch) (G : mm_G) (M : mm_M) (sz : Nat) (y k : Nat) (f : Nat → Int32) (v : Int32) (h1 : M y = some (ia G k f)) (hk : k < 2 ^ 31) : mm_v l yJ7_fill_53178 wsJ7_fill_53178 ({ frames := 0, cells := 0, slots := 0, locals := 0 } : Room) G ([.ref y, .int v] : List Value) M sz (fun M' => M' y = some (ia G k (fl_go f v k)) ∧ mm_fr [y] M M') := by
  refine mm_enter (cc := cJ7_fill_53178) (maxL := 4) (ret := none) _ (by decide) rfl (Nat.le_of_ble_eq_true rfl) ?_
  intro p e s m below meth c ls S hr hlocks hname hA hC hR hl
  have hx := S.1
  have hb := S.2.1
  have hl : lv_has ls 4 [(0, .ref y), (1, .int v)] := hl
  have hF : mm_fr [y] M M := mm_fr.rf
  refine lv_iconst (v := nI 0) hx hb dJ7_fill_53178_0 (by decide) ?_
  refine lv_istore_n (lv' := [(2, .int (nI 0)), (0, .ref y), (1, .int v)]) hx hb dJ7_fill_53178_1 rfl hl (by decide) rfl (fun ls hl => ?_)
  refine lv_aload_n hx hb dJ7_fill_53178_2 rfl (lv_at hl 1 rfl) ?_
  refine mm_ilen S hC hR h1 dJ7_fill_53178_3 ?_
  refine lv_istore_n (lv' := [(3, .int (nI k)), (2, .int (nI 0)), (0, .ref y), (1, .int v)]) hx hb dJ7_fill_53178_4 rfl hl (by decide) rfl (fun ls hl => ?_)
  have loop : ∀ (n i : Nat) (M1 : mm_M) (H : Heap) (locs : List Loc) (ls : Array Slot), k < i + n → i ≤ k → M1 y = some (ia G k (fl_go f v i)) → mm_fr [y] M M1 → mm_R G s (mm_A M sz) M1 H locs → lv_has ls 4 [(0, .ref y), (1, .int v), (2, .int (nI i)), (3, .int (nI k))] → W p l e ({ frames := 0, cells := 0, slots := 0, locals := 0 } : Room) s m ([.ref y, .int v] : List Value).toArray below meth c H locs 0 0 (MQ below (va_Qv (fun M' => M' y = some (ia G k (fl_go f v k)) ∧ mm_fr [y] M M') (fun M' t => mm_H G (mm_A M sz) M' t.heap) (mm_A M sz)) ([.ref y, .int v] : List Value).toArray s 0 0 (mm_A M sz)) (F0 m 5 ls []) := by
    intro n
    induction n with
    | zero =>
      intro i M1 H locs ls hn hi h1 hF hR hl
      omega
    | succ n ih =>
      intro i M1 H locs ls hn hi h1 hF hR hl
      refine lv_iload_n hx hb dJ7_fill_53178_5 rfl (lv_at hl 2 rfl) ?_
      refine lv_iload_n hx hb dJ7_fill_53178_6 rfl (lv_at hl 3 rfl) ?_
      refine lv_icmp_ge (tgt := 20) hx hb dJ7_fill_53178_7 (by decide) (fun c1 => ?_) (fun c1 => ?_)
      · have c1 : k ≤ i := (nI_leI (by omega) (by omega)).mp c1
        have e4 : i = k := by omega
        subst e4
        exact mm_vret S hr hlocks hR ⟨h1, hF⟩ dJ7_fill_53178_20
      · have c1 : ¬ (k ≤ i) := fun z => c1 ((nI_leI (by omega) (by omega)).mpr z)
        refine lv_aload_n hx hb dJ7_fill_53178_10 rfl (lv_at hl 0 rfl) ?_
        refine lv_iload_n hx hb dJ7_fill_53178_11 rfl (lv_at hl 2 rfl) ?_
        refine lv_iload_n hx hb dJ7_fill_53178_12 rfl (lv_at hl 1 rfl) ?_
        refine mm_iast S hC hR h1 (j := i) (by omega) (by omega) dJ7_fill_53178_13 (fun H locs M2 g4 f3 hR => ?_)
        have h1 : M2 y = some (ia G k (upd (fl_go f v i) i v)) := g4
        have hF := hF.tr f3 (mm_ic 0 rfl mm_i0)
        refine lv_iinc (v := (nI (i + 1))) (lv' := [(2, .int (nI (i + 1))), (0, .ref y), (1, .int v), (3, .int (nI k))]) hx hb dJ7_fill_53178_14 hl (k := 2) rfl (by rw [show Int32.ofInt 1 = nI 1 from by decide]; exact nI_add _ _) (by decide) rfl (fun ls hl => ?_)
        refine lv_goto (tgt := 5) hx hb dJ7_fill_53178_17 (by decide) ?_
        exact ih (i + 1) _ H locs ls (by omega) (by omega) (by rw [fl_s] at h1; exact h1) hF hR (lv_sub hl [1, 2, 0, 3] rfl)
  exact loop (k + 1) 0 _ _ _ ls (by omega) (by omega) (by rw [fl_0]; exact h1) hF hR (lv_sub hl [2, 3, 1, 0] rfl)

set_option maxHeartbeats 4000000 in
set_option maxRecDepth 100000 in
/-- sameRow -/
theorem c_X8_sameRow (l : Launch) (G : mm_G) (M : mm_M) (sz : Nat) (y z ky kz oy oz len : Nat) (f g : Nat → Int32) (h1 : M y = some (ia G ky f)) (h2 : M z = some (ia G kz g)) (b1 : oy + len ≤ ky) (b2 : oz + len ≤ kz) (b3 : ky < 2 ^ 31) (b4 : kz < 2 ^ 31) : mm_i l yX8_sameRow wsX8_sameRow ({ frames := 0, cells := 0, slots := 0, locals := 0 } : Room) G ([.ref y, .int (nI oy), .ref z, .int (nI oz), .int (nI len)] : List Value) M sz (fun r M' => bq r (∀ i, i < len → f (oy + i) = g (oz + i)) ∧ mm_fr [] M M') := by
  refine mm_enter (cc := cX8_sameRow) (maxL := 6) (ret := (some .boolean)) _ (by decide) rfl (Nat.le_of_ble_eq_true rfl) ?_
  intro p e s m below meth c ls S hr hlocks hname hA hC hR hl
  have hx := S.1
  have hb := S.2.1
  have hl : lv_has ls 6 [(0, .ref y), (1, .int (nI oy)), (2, .ref z), (3, .int (nI oz)), (4, .int (nI len))] := hl
  have hF : mm_fr [] M M := mm_fr.rf
  refine lv_iconst (v := nI 0) hx hb dX8_sameRow_0 (by decide) ?_
  refine lv_istore (lv' := [(5, .int (nI 0)), (0, .ref y), (1, .int (nI oy)), (2, .ref z), (3, .int (nI oz)), (4, .int (nI len))]) hx hb dX8_sameRow_1 hl (by decide) rfl (fun ls hl => ?_)
  have loop : ∀ (n i : Nat) (ls : Array Slot), len < i + n → i ≤ len → (∀ j, j < i → f (oy + j) = g (oz + j)) → lv_has ls 6 [(0, .ref y), (1, .int (nI oy)), (2, .ref z), (3, .int (nI oz)), (4, .int (nI len)), (5, .int (nI i))] → W p l e ({ frames := 0, cells := 0, slots := 0, locals := 0 } : Room) s m ([.ref y, .int (nI oy), .ref z, .int (nI oz), .int (nI len)] : List Value).toArray below meth c s.heap [] 0 0 (MQ below (va_Qi (fun r M' => bq r (∀ i, i < len → f (oy + i) = g (oz + i)) ∧ mm_fr [] M M') (fun M' t => mm_H G (mm_A M sz) M' t.heap) (mm_A M sz)) ([.ref y, .int (nI oy), .ref z, .int (nI oz), .int (nI len)] : List Value).toArray s 0 0 (mm_A M sz)) (F0 m 3 ls []) := by
    intro n
    induction n with
    | zero =>
      intro i ls hn hi hj hl
      omega
    | succ n ih =>
      intro i ls hn hi hj hl
      refine lv_iload hx hb dX8_sameRow_3 (lv_at hl 5 rfl) ?_
      refine lv_iload hx hb dX8_sameRow_5 (lv_at hl 4 rfl) ?_
      refine lv_icmp_ge (tgt := 33) hx hb dX8_sameRow_7 (by decide) (fun c5 => ?_) (fun c5 => ?_)
      · have c5 : len ≤ i := (nI_leI (by omega) (by omega)).mp c5
        have e4 : i = len := by omega
        subst e4
        refine lv_iconst (v := nI 1) hx hb dX8_sameRow_33 (by decide) ?_
        exact mm_zret S hr hlocks (by decide) hR ⟨Or.inl ⟨rfl, hj⟩, hF⟩ dX8_sameRow_34
      · have c5 : ¬ (len ≤ i) := fun z => c5 ((nI_leI (by omega) (by omega)).mpr z)
        refine lv_aload_n hx hb dX8_sameRow_10 rfl (lv_at hl 0 rfl) ?_
        refine lv_iload_n hx hb dX8_sameRow_11 rfl (lv_at hl 1 rfl) ?_
        refine lv_iload hx hb dX8_sameRow_12 (lv_at hl 5 rfl) ?_
        refine lv_iadd hx hb dX8_sameRow_14 ?_
        refine mm_eqi (nI_add _ _) ?_
        refine mm_iald S hC hR h1 (j := (oy + i)) (by omega) (by omega) dX8_sameRow_15 ?_
        refine lv_aload_n hx hb dX8_sameRow_16 rfl (lv_at hl 2 rfl) ?_
        refine lv_iload_n hx hb dX8_sameRow_17 rfl (lv_at hl 3 rfl) ?_
        refine lv_iload hx hb dX8_sameRow_18 (lv_at hl 5 rfl) ?_
        refine lv_iadd hx hb dX8_sameRow_20 ?_
        refine mm_eqi (nI_add _ _) ?_
        refine mm_iald S hC hR h2 (j := (oz + i)) (by omega) (by omega) dX8_sameRow_21 ?_
        refine lv_icmp_eq (tgt := 27) hx hb dX8_sameRow_22 (by decide) (fun c2 => ?_) (fun c2 => ?_)
        · skip
          refine lv_iinc (v := (nI (i + 1))) (lv' := [(5, .int (nI (i + 1))), (0, .ref y), (1, .int (nI oy)), (2, .ref z), (3, .int (nI oz)), (4, .int (nI len))]) hx hb dX8_sameRow_27 hl (k := 5) rfl (by rw [show Int32.ofInt 1 = nI 1 from by decide]; exact nI_add _ _) (by decide) rfl (fun ls hl => ?_)
          refine lv_goto (tgt := 3) hx hb dX8_sameRow_30 (by decide) ?_
          exact ih (i + 1) ls (by omega) (by omega) (lt_s hj c2) (lv_sub hl [1, 2, 3, 4, 5, 0] rfl)
        · skip
          refine lv_iconst (v := nI 0) hx hb dX8_sameRow_25 (by decide) ?_
          exact mm_zret S hr hlocks (by decide) hR ⟨Or.inr ⟨rfl, fun z => c2 (z i (by omega))⟩, hF⟩ dX8_sameRow_26
  exact loop (len + 1) 0 ls (by omega) (by omega) (fun j hj => absurd hj (Nat.not_lt_zero j)) (lv_sub hl [1, 2, 3, 4, 5, 0] rfl)
end
section
/-- a Files: itself, the contents, the lengths -/
def fiA (G : mm_G) (M : mm_M) (F c n : Nat) (fc fl : Nat → Int32) : Prop := M F = some (ob 1 [.ref c, .ref n]) ∧ M c = some (ia G 192 fc) ∧ M n = some (ia G 16 fl)

set_option maxHeartbeats 4000000 in
set_option maxRecDepth 100000 in
/-- Files() -/
theorem c_X0_init (l : Launch) (G : mm_G) (M : mm_M) (sz : Nat) (F : Nat) (h1 : M F = some (ob 1 [.null, .null]))  : mm_v l yX0_init wsX0_init ({ frames := 1, cells := 2, slots := 208, locals := 12 } : Room) G ([.ref F] : List Value) M sz (fun M' => ∃ c n, M c = none ∧ M n = none ∧ fiA G M' F c n (fun _ => 0) (fun _ => 0) ∧ mm_fr [F] M M') := by
  refine mm_enter (cc := cX0_init) (maxL := 1) (ret := none) _ (by decide) rfl (Nat.le_of_ble_eq_true rfl) ?_
  intro p0 e0 s m0 be0 me0 c0 ls S hr hlocks hname hA hC hR hl
  have hx := S.1
  have hb := S.2.1
  have hl : lv_has ls 1 [(0, .ref F)] := hl
  have hin : me0.name = "<init>" := hname
  have inRX0 : ∀ w ∈ wsX00, w ∈ wsX0_init := by decide +kernel
  have hF : mm_fr [F] M M := mm_fr.rf
  refine lv_aload_n hx hb dX0_init_0 rfl (lv_at hl 0 rfl) ?_
  refine W.objInit hx hb S.2.2.2.1 (S.2.2.2.2 (.methodLink RX0 3 objectInit) (by decide +kernel)) (S.2.2.2.2 (.instanceMethod objectInit) (by decide +kernel)) (S.2.2.2.2 (.code objectInit ⟨#[0xb1]⟩ 1 none) (by decide +kernel)) rfl (by rw [S.2.2.1]; exact hl.1) rfl dX0_init_1 (Nat.le_of_ble_eq_true rfl) (Nat.le_of_ble_eq_true rfl) ?_
  refine W.eq (g2 := F0 m0 4 ls []) rfl ?_
  refine lv_aload_n hx hb dX0_init_4 rfl (lv_at hl 0 rfl) ?_
  refine lv_sipush (v := nI 192) hx hb dX0_init_5 (by decide) ?_
  refine mm_newi S hC hA hR (by decide +kernel) (n := 192) (by omega) (Nat.le_of_ble_eq_true rfl) (Nat.le_of_ble_eq_true rfl) dX0_init_8 (fun c H M6 z8 h2 f7 hR => ?_)
  have n_F_c : F ≠ c := mm_nenew h1 z8
  have nn_c : M c = none := hF.none z8 (mm_oc h1 mm_o0)
  have h1 := f7.at h1 mm_n0
  have h2 : M6 c = some (ia G 192 (fun _ => 0)) := h2
  have hF := hF.tr f7 mm_i0
  refine mm_putF S hC hR (C := RX0) (T := TX0) (N := 2) (ref := "ForkWatch$Files") 0 h1 inRX0 rfl tyX0_ok nmX0 (by decide) (by decide +kernel) (fun _ h9 => h9) rfl hin rfl rfl rfl (Nat.le_of_ble_eq_true rfl) dX0_init_10 (fun H locs M9 g11 f10 hR => ?_)
  have h2 := f10.at h2 (mm_nc (Ne.symm n_F_c) mm_n0)
  have h1 : M9 F = some (ob 1 [.ref c, .null]) := g11
  have hF := hF.tr f10 (mm_ic 0 rfl mm_i0)
  refine lv_aload_n hx hb dX0_init_13 rfl (lv_at hl 0 rfl) ?_
  refine lv_bipush (v := nI 16) hx hb dX0_init_14 (by decide) ?_
  refine mm_newi S hC hA hR (by decide +kernel) (n := 16) (by omega) (Nat.le_of_ble_eq_true rfl) (Nat.le_of_ble_eq_true rfl) dX0_init_16 (fun n H M12 z14 h3 f13 hR => ?_)
  have n_F_n : F ≠ n := mm_nenew h1 z14
  have n_c_n : c ≠ n := mm_nenew h2 z14
  have nn_n : M n = none := hF.none z14 (mm_oc h1 mm_o0)
  have h1 := f13.at h1 mm_n0
  have h2 := f13.at h2 mm_n0
  have h3 : M12 n = some (ia G 16 (fun _ => 0)) := h3
  have hF := hF.tr f13 mm_i0
  refine mm_putF S hC hR (C := RX0) (T := TX0) (N := 2) (ref := "ForkWatch$Files") 1 h1 inRX0 rfl tyX0_ok nmX0 (by decide) (by decide +kernel) (fun _ h9 => h9) rfl hin rfl rfl rfl (Nat.le_of_ble_eq_true rfl) dX0_init_18 (fun H locs M15 g17 f16 hR => ?_)
  have h2 := f16.at h2 (mm_nc (Ne.symm n_F_c) mm_n0)
  have h3 := f16.at h3 (mm_nc (Ne.symm n_F_n) mm_n0)
  have h1 : M15 F = some (ob 1 [.ref c, .ref n]) := g17
  have hF := hF.tr f16 (mm_ic 0 rfl mm_i0)
  exact mm_vret S hr hlocks hR ⟨c, n, nn_c, nn_n, ⟨h1, h2, h3⟩, hF⟩ dX0_init_21

set_option maxHeartbeats 4000000 in
set_option maxRecDepth 100000 in
/-- put(file, bytes, count) -/
theorem c_X0_put (l : Launch) (G : mm_G) (M : mm_M) (sz : Nat) (F c n y k fi len : Nat) (fc fl r : Nat → Int32) (h1 : M F = some (ob 1 [.ref c, .ref n])) (h2 : M c = some (ia G 192 fc)) (h3 : M n = some (ia G 16 fl)) (h4 : M y = some (ia G k r)) (hfi : fi < 16) (hlen : len ≤ 12) (hk : len ≤ k) (hk2 : k < 2 ^ 31) : mm_v l yX0_put wsX0_put ({ frames := 1, cells := 0, slots := 0, locals := 30 } : Room) G ([.ref F, .int (nI fi), .ref y, .int (nI len)] : List Value) M sz (fun M' => fiA G M' F c n (va_cpy r fc 0 (fi * 12) len) (upd fl fi (nI len)) ∧ mm_fr [c, n] M M') := by
  refine mm_enter (cc := cX0_put) (maxL := 4) (ret := none) _ (by decide) rfl (Nat.le_of_ble_eq_true rfl) ?_
  intro p0 e0 s m0 be0 me0 c0 ls S hr hlocks hname hA hC hR hl
  have hx := S.1
  have hb := S.2.1
  have hl : lv_has ls 4 [(0, .ref F), (1, .int (nI fi)), (2, .ref y), (3, .int (nI len))] := hl
  have inRX0 : ∀ w ∈ wsX00, w ∈ wsX0_put := by decide +kernel
  have hF : mm_fr [c, n] M M := mm_fr.rf
  refine lv_aload_n hx hb dX0_put_0 rfl (lv_at hl 2 rfl) ?_
  refine lv_iconst (v := nI 0) hx hb dX0_put_1 (by decide) ?_
  refine lv_aload_n hx hb dX0_put_2 rfl (lv_at hl 0 rfl) ?_
  refine mm_get S hC hR (C := RX0) (T := TX0) (N := 2) (ref := "ForkWatch$Files") (v := .ref c) 0 h1 inRX0 rfl (by decide) (by decide +kernel) (fun _ h9 => h9) rfl dX0_put_3 ?_
  refine lv_iload_n hx hb dX0_put_6 rfl (lv_at hl 1 rfl) ?_
  refine lv_bipush (v := nI 12) hx hb dX0_put_7 (by decide) ?_
  refine lv_imul hx hb dX0_put_9 ?_
  refine mm_eqi (pk_mul _ _) ?_
  refine lv_iload_n hx hb dX0_put_10 rfl (lv_at hl 3 rfl) ?_
  refine mm_copy S hC hR hl.1 h4 h2 (by decide +kernel) (by decide +kernel) (by decide +kernel) (by decide +kernel) (sp := 0) (dp := (fi * 12)) (n := len) (by omega) (by omega) (by omega) (by omega) (Nat.le_of_ble_eq_true rfl) (Nat.le_of_ble_eq_true rfl) dX0_put_11 (fun H locs M18 g20 f19 hR => ?_)
  have h1 := f19.at h1 (mm_nc (mm_neoi h1 h2) mm_n0)
  have h3 := f19.at h3 (mm_nc (mm_nelen h3 h2 (by decide)) mm_n0)
  have h2 : M18 c = some (ia G 192 (va_cpy r fc 0 (fi * 12) len)) := g20
  have hF := hF.tr f19 (mm_ic 0 rfl mm_i0)
  refine lv_aload_n hx hb dX0_put_14 rfl (lv_at hl 0 rfl) ?_
  refine mm_get S hC hR (C := RX0) (T := TX0) (N := 2) (ref := "ForkWatch$Files") (v := .ref n) 1 h1 inRX0 rfl (by decide) (by decide +kernel) (fun _ h9 => h9) rfl dX0_put_15 ?_
  refine lv_iload_n hx hb dX0_put_18 rfl (lv_at hl 1 rfl) ?_
  refine lv_iload_n hx hb dX0_put_19 rfl (lv_at hl 3 rfl) ?_
  refine mm_iast S hC hR h3 (j := fi) (by omega) (by omega) dX0_put_20 (fun H locs M21 g23 f22 hR => ?_)
  have h1 := f22.at h1 (mm_nc (mm_neoi h1 h3) mm_n0)
  have h2 := f22.at h2 (mm_nc (mm_nelen h2 h3 (by decide)) mm_n0)
  have h3 : M21 n = some (ia G 16 (upd fl fi (nI len))) := g23
  have hF := hF.tr f22 (mm_ic 1 rfl mm_i0)
  exact mm_vret S hr hlocks hR ⟨⟨h1, h2, h3⟩, hF⟩ dX0_put_21

set_option maxHeartbeats 4000000 in
set_option maxRecDepth 100000 in
/-- become(other) -/
theorem c_X0_become (l : Launch) (G : mm_G) (M : mm_M) (sz : Nat) (F c n F' c' n' : Nat) (fc fl fc' fl' : Nat → Int32) (h1 : M F = some (ob 1 [.ref c, .ref n])) (h2 : M c = some (ia G 192 fc)) (h3 : M n = some (ia G 16 fl)) (h4 : M F' = some (ob 1 [.ref c', .ref n'])) (h5 : M c' = some (ia G 192 fc')) (h6 : M n' = some (ia G 16 fl'))  : mm_v l yX0_become wsX0_become ({ frames := 1, cells := 0, slots := 0, locals := 30 } : Room) G ([.ref F, .ref F'] : List Value) M sz (fun M' => fiA G M' F c n (va_cpy fc' fc 0 0 192) (va_cpy fl' fl 0 0 16) ∧ mm_fr [c, n] M M') := by
  refine mm_enter (cc := cX0_become) (maxL := 2) (ret := none) _ (by decide) rfl (Nat.le_of_ble_eq_true rfl) ?_
  intro p0 e0 s m0 be0 me0 c0 ls S hr hlocks hname hA hC hR hl
  have hx := S.1
  have hb := S.2.1
  have hl : lv_has ls 2 [(0, .ref F), (1, .ref F')] := hl
  have inRX0 : ∀ w ∈ wsX00, w ∈ wsX0_become := by decide +kernel
  have hF : mm_fr [c, n] M M := mm_fr.rf
  refine lv_aload_n hx hb dX0_become_0 rfl (lv_at hl 1 rfl) ?_
  refine mm_get S hC hR (C := RX0) (T := TX0) (N := 2) (ref := "ForkWatch$Files") (v := .ref c') 0 h4 inRX0 rfl (by decide) (by decide +kernel) (fun _ h9 => h9) rfl dX0_become_1 ?_
  refine lv_iconst (v := nI 0) hx hb dX0_become_4 (by decide) ?_
  refine lv_aload_n hx hb dX0_become_5 rfl (lv_at hl 0 rfl) ?_
  refine mm_get S hC hR (C := RX0) (T := TX0) (N := 2) (ref := "ForkWatch$Files") (v := .ref c) 0 h1 inRX0 rfl (by decide) (by decide +kernel) (fun _ h9 => h9) rfl dX0_become_6 ?_
  refine lv_iconst (v := nI 0) hx hb dX0_become_9 (by decide) ?_
  refine lv_aload_n hx hb dX0_become_10 rfl (lv_at hl 0 rfl) ?_
  refine mm_get S hC hR (C := RX0) (T := TX0) (N := 2) (ref := "ForkWatch$Files") (v := .ref c) 0 h1 inRX0 rfl (by decide) (by decide +kernel) (fun _ h9 => h9) rfl dX0_become_11 ?_
  refine mm_ilen S hC hR h2 dX0_become_14 ?_
  refine mm_copy S hC hR hl.1 h5 h2 (by decide +kernel) (by decide +kernel) (by decide +kernel) (by decide +kernel) (sp := 0) (dp := 0) (n := 192) (by omega) (by omega) (by omega) (by omega) (Nat.le_of_ble_eq_true rfl) (Nat.le_of_ble_eq_true rfl) dX0_become_15 (fun H locs M24 g26 f25 hR => ?_)
  have h1 := f25.at h1 (mm_nc (mm_neoi h1 h2) mm_n0)
  have h3 := f25.at h3 (mm_nc (mm_nelen h3 h2 (by decide)) mm_n0)
  have h4 := f25.at h4 (mm_nc (mm_neoi h4 h2) mm_n0)
  have h6 := f25.at h6 (mm_nc (mm_nelen h6 h2 (by decide)) mm_n0)
  have h2 : M24 c = some (ia G 192 (va_cpy fc' fc 0 0 192)) := g26
  have hF := hF.tr f25 (mm_ic 0 rfl mm_i0)
  refine lv_aload_n hx hb dX0_become_18 rfl (lv_at hl 1 rfl) ?_
  refine mm_get S hC hR (C := RX0) (T := TX0) (N := 2) (ref := "ForkWatch$Files") (v := .ref n') 1 h4 inRX0 rfl (by decide) (by decide +kernel) (fun _ h9 => h9) rfl dX0_become_19 ?_
  refine lv_iconst (v := nI 0) hx hb dX0_become_22 (by decide) ?_
  refine lv_aload_n hx hb dX0_become_23 rfl (lv_at hl 0 rfl) ?_
  refine mm_get S hC hR (C := RX0) (T := TX0) (N := 2) (ref := "ForkWatch$Files") (v := .ref n) 1 h1 inRX0 rfl (by decide) (by decide +kernel) (fun _ h9 => h9) rfl dX0_become_24 ?_
  refine lv_iconst (v := nI 0) hx hb dX0_become_27 (by decide) ?_
  refine lv_bipush (v := nI 16) hx hb dX0_become_28 (by decide) ?_
  refine mm_copy S hC hR hl.1 h6 h3 (by decide +kernel) (by decide +kernel) (by decide +kernel) (by decide +kernel) (sp := 0) (dp := 0) (n := 16) (by omega) (by omega) (by omega) (by omega) (Nat.le_of_ble_eq_true rfl) (Nat.le_of_ble_eq_true rfl) dX0_become_30 (fun H locs M27 g29 f28 hR => ?_)
  have h1 := f28.at h1 (mm_nc (mm_neoi h1 h3) mm_n0)
  have h2 := f28.at h2 (mm_nc (mm_nelen h2 h3 (by decide)) mm_n0)
  have h4 := f28.at h4 (mm_nc (mm_neoi h4 h3) mm_n0)
  have h3 : M27 n = some (ia G 16 (va_cpy fl' fl 0 0 16)) := g29
  have hF := hF.tr f28 (mm_ic 1 rfl mm_i0)
  exact mm_vret S hr hlocks hR ⟨⟨h1, h2, h3⟩, hF⟩ dX0_become_33

set_option maxHeartbeats 4000000 in
set_option maxRecDepth 100000 in
/-- clear() -/
theorem c_X0_clear (l : Launch) (G : mm_G) (M : mm_M) (sz : Nat) (F c n : Nat) (fc fl : Nat → Int32) (h1 : M F = some (ob 1 [.ref c, .ref n])) (h2 : M c = some (ia G 192 fc)) (h3 : M n = some (ia G 16 fl))  : mm_v l yX0_clear wsX0_clear ({ frames := 1, cells := 0, slots := 0, locals := 30 } : Room) G ([.ref F] : List Value) M sz (fun M' => fiA G M' F c n fc (fl_go fl 0 16) ∧ mm_fr [n] M M') := by
  refine mm_enter (cc := cX0_clear) (maxL := 1) (ret := none) _ (by decide) rfl (Nat.le_of_ble_eq_true rfl) ?_
  intro p0 e0 s m0 be0 me0 c0 ls S hr hlocks hname hA hC hR hl
  have hx := S.1
  have hb := S.2.1
  have hl : lv_has ls 1 [(0, .ref F)] := hl
  have inRX0 : ∀ w ∈ wsX00, w ∈ wsX0_clear := by decide +kernel
  have hF : mm_fr [n] M M := mm_fr.rf
  refine lv_aload_n hx hb dX0_clear_0 rfl (lv_at hl 0 rfl) ?_
  refine mm_get S hC hR (C := RX0) (T := TX0) (N := 2) (ref := "ForkWatch$Files") (v := .ref n) 1 h1 inRX0 rfl (by decide) (by decide +kernel) (fun _ h9 => h9) rfl dX0_clear_1 ?_
  refine lv_iconst (v := nI 0) hx hb dX0_clear_4 (by decide) ?_
  refine mm_callv hA hR (va_runS (As := [.ref n, .int (nI 0)]) (rest := []) S (c_J7_fill_53178 l G M _ n 16 fl (nI 0) h3 (by decide)) (va_cwS 2 S.2.2.2.2 gX0_clear_J7_fill_53178 rfl rfl rfl (by decide +kernel) ⟨Nat.le_of_ble_eq_true rfl, Nat.le_of_ble_eq_true rfl⟩) (mm_preS hC hA hR _) rfl rfl hl.1 rfl (lv_room (Nat.le_of_ble_eq_true rfl)) dX0_clear_5 ⟨Nat.le_of_ble_eq_true rfl, Nat.le_of_ble_eq_true rfl⟩) (fun M31 H locs hp hR => ?_)
  obtain ⟨e1, ff⟩ := hp
  rw [nI_0] at e1
  have h1 := ff.at h1 (mm_nc (mm_neoi h1 h3) mm_n0)
  have h2 := ff.at h2 (mm_nc (mm_nelen h2 h3 (by decide)) mm_n0)
  have h3 : M31 n = some (ia G 16 (fl_go fl 0 16)) := e1
  have hF := hF.tr ff (mm_ic 0 rfl mm_i0)
  exact mm_vret S hr hlocks hR ⟨⟨h1, h2, h3⟩, hF⟩ dX0_clear_8

set_option maxHeartbeats 4000000 in
set_option maxRecDepth 100000 in
/-- holds(file, bytes) -/
theorem c_X0_holds (l : Launch) (G : mm_G) (M : mm_M) (sz : Nat) (F c n y k fi : Nat) (fc fl r : Nat → Int32) (h1 : M F = some (ob 1 [.ref c, .ref n])) (h2 : M c = some (ia G 192 fc)) (h3 : M n = some (ia G 16 fl)) (h4 : M y = some (ia G k r)) (hfi : fi < 16) (hk : k ≤ 12) : mm_i l yX0_holds wsX0_holds ({ frames := 1, cells := 0, slots := 0, locals := 40 } : Room) G ([.ref F, .int (nI fi), .ref y] : List Value) M sz (fun x M' => bq x (fl fi = nI k ∧ ∀ i, i < k → fc (fi * 12 + i) = r i) ∧ mm_fr [] M M') := by
  refine mm_enter (cc := cX0_holds) (maxL := 3) (ret := (some .boolean)) _ (by decide) rfl (Nat.le_of_ble_eq_true rfl) ?_
  intro p0 e0 s m0 be0 me0 c0 ls S hr hlocks hname hA hC hR hl
  have hx := S.1
  have hb := S.2.1
  have hl : lv_has ls 3 [(0, .ref F), (1, .int (nI fi)), (2, .ref y)] := hl
  have inRX0 : ∀ w ∈ wsX00, w ∈ wsX0_holds := by decide +kernel
  have hF : mm_fr [] M M := mm_fr.rf
  refine lv_aload_n hx hb dX0_holds_0 rfl (lv_at hl 0 rfl) ?_
  refine mm_get S hC hR (C := RX0) (T := TX0) (N := 2) (ref := "ForkWatch$Files") (v := .ref n) 1 h1 inRX0 rfl (by decide) (by decide +kernel) (fun _ h9 => h9) rfl dX0_holds_1 ?_
  refine lv_iload_n hx hb dX0_holds_4 rfl (lv_at hl 1 rfl) ?_
  refine mm_iald S hC hR h3 (j := fi) (by omega) (by omega) dX0_holds_5 ?_
  refine lv_aload_n hx hb dX0_holds_6 rfl (lv_at hl 2 rfl) ?_
  refine mm_ilen S hC hR h4 dX0_holds_7 ?_
  refine lv_icmp_ne (tgt := 33) hx hb dX0_holds_8 (by decide) (fun c1 => ?_) (fun c1 => ?_)
  · skip
    refine lv_iconst (v := nI 0) hx hb dX0_holds_33 (by decide) ?_
    exact mm_zret S hr hlocks (by decide) hR ⟨Or.inr ⟨rfl, fun z => c1 z.1⟩, hF⟩ dX0_holds_34
  · skip
    refine lv_aload_n hx hb dX0_holds_11 rfl (lv_at hl 0 rfl) ?_
    refine mm_get S hC hR (C := RX0) (T := TX0) (N := 2) (ref := "ForkWatch$Files") (v := .ref c) 0 h1 inRX0 rfl (by decide) (by decide +kernel) (fun _ h9 => h9) rfl dX0_holds_12 ?_
    refine lv_iload_n hx hb dX0_holds_15 rfl (lv_at hl 1 rfl) ?_
    refine lv_bipush (v := nI 12) hx hb dX0_holds_16 (by decide) ?_
    refine lv_imul hx hb dX0_holds_18 ?_
    refine mm_eqi (pk_mul _ _) ?_
    refine lv_aload_n hx hb dX0_holds_19 rfl (lv_at hl 2 rfl) ?_
    refine lv_iconst (v := nI 0) hx hb dX0_holds_20 (by decide) ?_
    refine lv_aload_n hx hb dX0_holds_21 rfl (lv_at hl 2 rfl) ?_
    refine mm_ilen S hC hR h4 dX0_holds_22 ?_
    refine mm_calli hA hR (va_runSN (As := [.ref c, .int (nI (fi * 12)), .ref y, .int (nI 0), .int (nI k)]) (rest := []) S (c_X8_sameRow l G M _ c y 192 k (fi * 12) 0 k fc r h2 h4 (by omega) (by omega) (by decide) (by omega)) ⟨va_cnB 5 S.2.2.2.2 gX0_holds_X8_sameRow_n30 rfl rfl rfl (hC.2.2.2.2.2 (.methodLinkNest RX0 30 yX8_sameRow "ForkWatch") (by decide +kernel)) (S.2.2.2.2 (.initialized RX8) (by decide +kernel)) (by decide +kernel) ⟨Nat.le_of_ble_eq_true rfl, Nat.le_of_ble_eq_true rfl⟩, S.2.2.2.2 (.static yX8_sameRow) (by decide +kernel), trivial⟩ (mm_preS hC hA hR _) rfl rfl hl.1 rfl (lv_room (Nat.le_of_ble_eq_true rfl)) dX0_holds_23 ⟨Nat.le_of_ble_eq_true rfl, Nat.le_of_ble_eq_true rfl⟩) (fun r32 M33 H locs hp hR => ?_)
    obtain ⟨q1, ff⟩ := hp
    have h1 := ff.at h1 mm_n0
    have h2 := ff.at h2 mm_n0
    have h3 := ff.at h3 mm_n0
    have h4 := ff.at h4 mm_n0
    have hF := hF.tr ff mm_i0
    rcases q1 with ⟨e1, q1⟩ | ⟨e1, q1⟩ <;> subst e1
    · skip
      refine lv_if_eq (tgt := 33) hx hb dX0_holds_26 (by decide) (fun z => by first | exact absurd z (by decide) | exact absurd (by decide) z) (fun _ => ?_)
      refine lv_iconst (v := nI 1) hx hb dX0_holds_29 (by decide) ?_
      refine lv_goto (tgt := 34) hx hb dX0_holds_30 (by decide) ?_
      exact mm_zret S hr hlocks (by decide) hR ⟨Or.inl ⟨rfl, c1, fun i hi => by have z := q1 i hi; rw [Nat.zero_add] at z; exact z⟩, hF⟩ dX0_holds_34
    · skip
      refine lv_if_eq (tgt := 33) hx hb dX0_holds_26 (by decide) (fun _ => ?_) (fun z => by first | exact absurd z (by decide) | exact absurd (by decide) z)
      refine lv_iconst (v := nI 0) hx hb dX0_holds_33 (by decide) ?_
      exact mm_zret S hr hlocks (by decide) hR ⟨Or.inr ⟨rfl, fun z => q1 (fun i hi => by rw [Nat.zero_add]; exact z.2 i hi)⟩, hF⟩ dX0_holds_34
end
section
/-! ===== ForkWatch$Tree ===== -/
theorem dgb_ag {n : Nat} {m m' : Nat → Int32} (h : ∀ j, j < n → m j = m' j) : dgb n m = dgb n m' := by
  have e : padm n m = padm n m' := by
    funext j
    unfold padm
    by_cases hj : j < n
    · rw [if_pos hj, if_pos hj, h j hj]
    · rw [if_neg hj, if_neg hj]
  unfold dgb sha_d
  rw [e]
/-- what is digested of a file, of two nodes -/
def lmsg (fc : Nat → Int32) (f len : Nat) : Nat → Int32 := fun j => if j = 0 then nI 0 else if j = 1 then nI f else if j = 2 then nI len else fc (f * 12 + (j - 3))
def nmsg (tn : Nat → Int32) (n : Nat) : Nat → Int32 := fun j => if j = 0 then nI 1 else tn (64 * n + (j - 1))
def leafd (fc : Nat → Int32) (f len : Nat) : Nat → Int32 := dgb (3 + len) (lmsg fc f len)
def noded (tn : Nat → Int32) (n : Nat) : Nat → Int32 := dgb 65 (nmsg tn n)
def trA (G : mm_G) (M : mm_M) (T nd : Nat) (tn : Nat → Int32) : Prop := M T = some (ob 7 [.ref nd]) ∧ M nd = some (ia G 1024 tn)
/-- the leaves of which Q says so are right; the nodes of which P says so are what their two below come to -/
def trO (fc : Nat → Int32) (ln : Nat → Nat) (tn : Nat → Int32) (Q P : Nat → Prop) : Prop := (∀ f, f < 16 → Q f → ∀ j, j < 32 → tn ((16 + f) * 32 + j) = leafd fc f (ln f) j) ∧ ∀ n, 1 ≤ n → n < 16 → P n → ∀ j, j < 32 → tn (n * 32 + j) = noded tn n j
theorem trO.mono {fc : Nat → Int32} {ln : Nat → Nat} {tn : Nat → Int32} {Q P Q' P' : Nat → Prop} (h : trO fc ln tn Q P) (hq : ∀ f, f < 16 → Q' f → Q f) (hp : ∀ n, 1 ≤ n → n < 16 → P' n → P n) : trO fc ln tn Q' P' := ⟨fun f h1 h2 => h.1 f h1 (hq f h1 h2), fun n h1 h2 h3 => h.2 n h1 h2 (hp n h1 h2 h3)⟩
theorem cpy_at {d r : Nat → Int32} {a len j : Nat} (h : j < len) : va_cpy d r 0 a len (a + j) = d j := by
  unfold va_cpy
  rw [if_pos (by omega)]
  congr 1
  omega
theorem cpy_no {d r : Nat → Int32} {a len j : Nat} (h : j < a ∨ a + len ≤ j) : va_cpy d r 0 a len j = r j := by
  unfold va_cpy
  rw [if_neg (by omega)]
theorem noded_ag {tn tn' : Nat → Int32} {n : Nat} (h : ∀ j, j < 64 → tn (64 * n + j) = tn' (64 * n + j)) : noded tn n = noded tn' n := by
  refine dgb_ag (fun j hj => ?_)
  unfold nmsg
  by_cases h0 : j = 0
  · rw [if_pos h0, if_pos h0]
  · rw [if_neg h0, if_neg h0, h (j - 1) (by omega)]
/-- a leaf is set: it is right, its node above may be wrong -/
theorem trO_leaf {fc : Nat → Int32} {ln : Nat → Nat} {tn : Nat → Int32} {f : Nat} {Q P : Nat → Prop} (hf : f < 16) (h : trO fc ln tn Q P) : trO fc ln (va_cpy (leafd fc f (ln f)) tn 0 ((16 + f) * 32) 32) (fun g => g = f ∨ Q g) (fun n => P n ∧ n ≠ (16 + f) / 2) := by
  refine ⟨fun g hg hq j hj => ?_, fun n h1 h2 h3 j hj => ?_⟩
  · by_cases e : g = f
    · subst e
      exact cpy_at hj
    · rw [cpy_no (by omega)]
      exact h.1 g hg (hq.resolve_left e) j hj
  · rw [cpy_no (by omega), h.2 n h1 h2 h3.1 j hj]
    refine congrFun (noded_ag (fun i hi => ?_)) j
    rw [cpy_no (by have := h3.2; omega)]
/-- a node is set -/
theorem trO_node {fc : Nat → Int32} {ln : Nat → Nat} {tn : Nat → Int32} {c : Nat} {Q P : Nat → Prop} (h1 : 1 ≤ c) (h2 : c < 16) (h : trO fc ln tn Q P) : trO fc ln (va_cpy (noded tn c) tn 0 (c * 32) 32) Q (fun n => n = c ∨ (P n ∧ n ≠ c / 2)) := by
  refine ⟨fun g hg hq j hj => ?_, fun n g1 g2 g3 j hj => ?_⟩
  · rw [cpy_no (by omega)]
    exact h.1 g hg hq j hj
  · by_cases e : n = c
    · subst e
      rw [cpy_at hj]
      refine congrFun (noded_ag (fun i hi => ?_)) j
      rw [cpy_no (by omega)]
    · have g4 := g3.resolve_left e
      rw [cpy_no (by omega), h.2 n g1 g2 g4.1 j hj]
      refine congrFun (noded_ag (fun i hi => ?_)) j
      rw [cpy_no (by have := g4.2; omega)]

set_option maxHeartbeats 4000000 in
set_option maxRecDepth 100000 in
/-- Tree() -/
theorem c_X6_init (l : Launch) (G : mm_G) (M : mm_M) (sz : Nat) (T : Nat) (h5 : M T = some (ob 7 [.null]))  : mm_v l yX6_init wsX6_init ({ frames := 1, cells := 1, slots := 1024, locals := 12 } : Room) G ([.ref T] : List Value) M sz (fun M' => ∃ nd, M nd = none ∧ trA G M' T nd (fun _ => 0) ∧ mm_fr [T] M M') := by
  refine mm_enter (cc := cX6_init) (maxL := 1) (ret := none) _ (by decide) rfl (Nat.le_of_ble_eq_true rfl) ?_
  intro p0 e0 s m0 be0 me0 c0 ls S hr hlocks hname hA hC hR hl
  have hx := S.1
  have hb := S.2.1
  have hl : lv_has ls 1 [(0, .ref T)] := hl
  have hin : me0.name = "<init>" := hname
  have inRX6 : ∀ w ∈ wsX60, w ∈ wsX6_init := by decide +kernel
  have hF : mm_fr [T] M M := mm_fr.rf
  refine lv_aload_n hx hb dX6_init_0 rfl (lv_at hl 0 rfl) ?_
  refine W.objInit hx hb S.2.2.2.1 (S.2.2.2.2 (.methodLink RX6 3 objectInit) (by decide +kernel)) (S.2.2.2.2 (.instanceMethod objectInit) (by decide +kernel)) (S.2.2.2.2 (.code objectInit ⟨#[0xb1]⟩ 1 none) (by decide +kernel)) rfl (by rw [S.2.2.1]; exact hl.1) rfl dX6_init_1 (Nat.le_of_ble_eq_true rfl) (Nat.le_of_ble_eq_true rfl) ?_
  refine W.eq (g2 := F0 m0 4 ls []) rfl ?_
  refine lv_aload_n hx hb dX6_init_4 rfl (lv_at hl 0 rfl) ?_
  refine lv_sipush (v := nI 1024) hx hb dX6_init_5 (by decide) ?_
  refine mm_newi S hC hA hR (by decide +kernel) (n := 1024) (by omega) (Nat.le_of_ble_eq_true rfl) (Nat.le_of_ble_eq_true rfl) dX6_init_8 (fun nd H M1 z3 h6 f2 hR => ?_)
  have n_T_nd : T ≠ nd := mm_nenew h5 z3
  have nn_nd : M nd = none := hF.none z3 (mm_oc h5 mm_o0)
  have h5 := f2.at h5 mm_n0
  have h6 : M1 nd = some (ia G 1024 (fun _ => 0)) := h6
  have hF := hF.tr f2 mm_i0
  refine mm_putF S hC hR (C := RX6) (T := TX6) (N := 1) (ref := "ForkWatch$Tree") 0 h5 inRX6 rfl tyX6_ok nmX6 (by decide) (by decide +kernel) (fun _ h9 => h9) rfl hin rfl rfl rfl (Nat.le_of_ble_eq_true rfl) dX6_init_10 (fun H locs M4 g6 f5 hR => ?_)
  have h6 := f5.at h6 (mm_nc (Ne.symm n_T_nd) mm_n0)
  have h5 : M4 T = some (ob 7 [.ref nd]) := g6
  have hF := hF.tr f5 (mm_ic 0 rfl mm_i0)
  exact mm_vret S hr hlocks hR ⟨nd, nn_nd, ⟨h5, h6⟩, hF⟩ dX6_init_13

set_option maxHeartbeats 4000000 in
set_option maxRecDepth 100000 in
/-- become(other) -/
theorem c_X6_become (l : Launch) (G : mm_G) (M : mm_M) (sz : Nat) (T nd T' nd' : Nat) (tn tn' : Nat → Int32) (h5 : M T = some (ob 7 [.ref nd])) (h6 : M nd = some (ia G 1024 tn)) (h7 : M T' = some (ob 7 [.ref nd'])) (h8 : M nd' = some (ia G 1024 tn'))  : mm_v l yX6_become wsX6_become ({ frames := 1, cells := 0, slots := 0, locals := 30 } : Room) G ([.ref T, .ref T'] : List Value) M sz (fun M' => trA G M' T nd (va_cpy tn' tn 0 0 1024) ∧ mm_fr [nd] M M') := by
  refine mm_enter (cc := cX6_become) (maxL := 2) (ret := none) _ (by decide) rfl (Nat.le_of_ble_eq_true rfl) ?_
  intro p0 e0 s m0 be0 me0 c0 ls S hr hlocks hname hA hC hR hl
  have hx := S.1
  have hb := S.2.1
  have hl : lv_has ls 2 [(0, .ref T), (1, .ref T')] := hl
  have inRX6 : ∀ w ∈ wsX60, w ∈ wsX6_become := by decide +kernel
  have hF : mm_fr [nd] M M := mm_fr.rf
  refine lv_aload_n hx hb dX6_become_0 rfl (lv_at hl 1 rfl) ?_
  refine mm_get S hC hR (C := RX6) (T := TX6) (N := 1) (ref := "ForkWatch$Tree") (v := .ref nd') 0 h7 inRX6 rfl (by decide) (by decide +kernel) (fun _ h9 => h9) rfl dX6_become_1 ?_
  refine lv_iconst (v := nI 0) hx hb dX6_become_4 (by decide) ?_
  refine lv_aload_n hx hb dX6_become_5 rfl (lv_at hl 0 rfl) ?_
  refine mm_get S hC hR (C := RX6) (T := TX6) (N := 1) (ref := "ForkWatch$Tree") (v := .ref nd) 0 h5 inRX6 rfl (by decide) (by decide +kernel) (fun _ h9 => h9) rfl dX6_become_6 ?_
  refine lv_iconst (v := nI 0) hx hb dX6_become_9 (by decide) ?_
  refine lv_aload_n hx hb dX6_become_10 rfl (lv_at hl 0 rfl) ?_
  refine mm_get S hC hR (C := RX6) (T := TX6) (N := 1) (ref := "ForkWatch$Tree") (v := .ref nd) 0 h5 inRX6 rfl (by decide) (by decide +kernel) (fun _ h9 => h9) rfl dX6_become_11 ?_
  refine mm_ilen S hC hR h6 dX6_become_14 ?_
  refine mm_copy S hC hR hl.1 h8 h6 (by decide +kernel) (by decide +kernel) (by decide +kernel) (by decide +kernel) (sp := 0) (dp := 0) (n := 1024) (by omega) (by omega) (by omega) (by omega) (Nat.le_of_ble_eq_true rfl) (Nat.le_of_ble_eq_true rfl) dX6_become_15 (fun H locs M7 g9 f8 hR => ?_)
  have h5 := f8.at h5 (mm_nc (mm_neoi h5 h6) mm_n0)
  have h7 := f8.at h7 (mm_nc (mm_neoi h7 h6) mm_n0)
  have h6 : M7 nd = some (ia G 1024 (va_cpy tn' tn 0 0 1024)) := g9
  have hF := hF.tr f8 (mm_ic 0 rfl mm_i0)
  exact mm_vret S hr hlocks hR ⟨⟨h5, h6⟩, hF⟩ dX6_become_18

set_option maxHeartbeats 4000000 in
set_option maxRecDepth 100000 in
/-- copyRoot(row, at) -/
theorem c_X6_copyRoot (l : Launch) (G : mm_G) (M : mm_M) (sz : Nat) (T nd y k at_ : Nat) (tn r : Nat → Int32) (h5 : M T = some (ob 7 [.ref nd])) (h6 : M nd = some (ia G 1024 tn)) (h7 : M y = some (ia G k r)) (hk : at_ + 32 ≤ k) (hk2 : k < 2 ^ 31) (n1 : nd ≠ y) : mm_v l yX6_copyRoot wsX6_copyRoot ({ frames := 1, cells := 0, slots := 0, locals := 30 } : Room) G ([.ref T, .ref y, .int (nI at_)] : List Value) M sz (fun M' => M' y = some (ia G k (va_cpy tn r 32 at_ 32)) ∧ mm_fr [y] M M') := by
  refine mm_enter (cc := cX6_copyRoot) (maxL := 3) (ret := none) _ (by decide) rfl (Nat.le_of_ble_eq_true rfl) ?_
  intro p0 e0 s m0 be0 me0 c0 ls S hr hlocks hname hA hC hR hl
  have hx := S.1
  have hb := S.2.1
  have hl : lv_has ls 3 [(0, .ref T), (1, .ref y), (2, .int (nI at_))] := hl
  have inRX6 : ∀ w ∈ wsX60, w ∈ wsX6_copyRoot := by decide +kernel
  have hF : mm_fr [y] M M := mm_fr.rf
  refine lv_aload_n hx hb dX6_copyRoot_0 rfl (lv_at hl 0 rfl) ?_
  refine mm_get S hC hR (C := RX6) (T := TX6) (N := 1) (ref := "ForkWatch$Tree") (v := .ref nd) 0 h5 inRX6 rfl (by decide) (by decide +kernel) (fun _ h9 => h9) rfl dX6_copyRoot_1 ?_
  refine lv_bipush (v := nI 32) hx hb dX6_copyRoot_4 (by decide) ?_
  refine lv_aload_n hx hb dX6_copyRoot_6 rfl (lv_at hl 1 rfl) ?_
  refine lv_iload_n hx hb dX6_copyRoot_7 rfl (lv_at hl 2 rfl) ?_
  refine lv_bipush (v := nI 32) hx hb dX6_copyRoot_8 (by decide) ?_
  refine mm_copy S hC hR hl.1 h6 h7 (by decide +kernel) (by decide +kernel) (by decide +kernel) (by decide +kernel) (sp := 32) (dp := at_) (n := 32) (by omega) (by omega) (by omega) (by omega) (Nat.le_of_ble_eq_true rfl) (Nat.le_of_ble_eq_true rfl) dX6_copyRoot_10 (fun H locs M10 g12 f11 hR => ?_)
  have h5 := f11.at h5 (mm_nc (mm_neoi h5 h7) mm_n0)
  have h6 := f11.at h6 (mm_nc n1 mm_n0)
  have h7 : M10 y = some (ia G k (va_cpy tn r 32 at_ 32)) := g12
  have hF := hF.tr f11 (mm_ic 0 rfl mm_i0)
  exact mm_vret S hr hlocks hR ⟨h7, hF⟩ dX6_copyRoot_13

set_option maxHeartbeats 4000000 in
set_option maxRecDepth 100000 in
/-- hasRoot(row, at) -/
theorem c_X6_hasRoot (l : Launch) (G : mm_G) (M : mm_M) (sz : Nat) (T nd y k at_ : Nat) (tn r : Nat → Int32) (h5 : M T = some (ob 7 [.ref nd])) (h6 : M nd = some (ia G 1024 tn)) (h7 : M y = some (ia G k r)) (hk : at_ + 32 ≤ k) (hk2 : k < 2 ^ 31) : mm_i l yX6_hasRoot wsX6_hasRoot ({ frames := 1, cells := 0, slots := 0, locals := 40 } : Room) G ([.ref T, .ref y, .int (nI at_)] : List Value) M sz (fun x M' => bq x (∀ j, j < 32 → tn (32 + j) = r (at_ + j)) ∧ mm_fr [] M M') := by
  refine mm_enter (cc := cX6_hasRoot) (maxL := 3) (ret := (some .boolean)) _ (by decide) rfl (Nat.le_of_ble_eq_true rfl) ?_
  intro p0 e0 s m0 be0 me0 c0 ls S hr hlocks hname hA hC hR hl
  have hx := S.1
  have hb := S.2.1
  have hl : lv_has ls 3 [(0, .ref T), (1, .ref y), (2, .int (nI at_))] := hl
  have inRX6 : ∀ w ∈ wsX60, w ∈ wsX6_hasRoot := by decide +kernel
  have hF : mm_fr [] M M := mm_fr.rf
  refine lv_aload_n hx hb dX6_hasRoot_0 rfl (lv_at hl 0 rfl) ?_
  refine mm_get S hC hR (C := RX6) (T := TX6) (N := 1) (ref := "ForkWatch$Tree") (v := .ref nd) 0 h5 inRX6 rfl (by decide) (by decide +kernel) (fun _ h9 => h9) rfl dX6_hasRoot_1 ?_
  refine lv_bipush (v := nI 32) hx hb dX6_hasRoot_4 (by decide) ?_
  refine lv_aload_n hx hb dX6_hasRoot_6 rfl (lv_at hl 1 rfl) ?_
  refine lv_iload_n hx hb dX6_hasRoot_7 rfl (lv_at hl 2 rfl) ?_
  refine lv_bipush (v := nI 32) hx hb dX6_hasRoot_8 (by decide) ?_
  refine mm_calli hA hR (va_runSN (As := [.ref nd, .int (nI 32), .ref y, .int (nI at_), .int (nI 32)]) (rest := []) S (c_X8_sameRow l G M _ nd y 1024 k 32 at_ 32 tn r h6 h7 (by omega) (by omega) (by decide) hk2) ⟨va_cnB 5 S.2.2.2.2 gX6_hasRoot_X8_sameRow_n29 rfl rfl rfl (hC.2.2.2.2.2 (.methodLinkNest RX6 29 yX8_sameRow "ForkWatch") (by decide +kernel)) (S.2.2.2.2 (.initialized RX8) (by decide +kernel)) (by decide +kernel) ⟨Nat.le_of_ble_eq_true rfl, Nat.le_of_ble_eq_true rfl⟩, S.2.2.2.2 (.static yX8_sameRow) (by decide +kernel), trivial⟩ (mm_preS hC hA hR _) rfl rfl hl.1 rfl (lv_room (Nat.le_of_ble_eq_true rfl)) dX6_hasRoot_10 ⟨Nat.le_of_ble_eq_true rfl, Nat.le_of_ble_eq_true rfl⟩) (fun r13 M14 H locs hp hR => ?_)
  obtain ⟨q1, ff⟩ := hp
  have h5 := ff.at h5 mm_n0
  have h6 := ff.at h6 mm_n0
  have h7 := ff.at h7 mm_n0
  have hF := hF.tr ff mm_i0
  rcases q1 with ⟨e1, q1⟩ | ⟨e1, q1⟩ <;> subst e1
  · skip
    exact mm_zret S hr hlocks (by decide) hR ⟨Or.inl ⟨rfl, q1⟩, hF⟩ dX6_hasRoot_13
  · skip
    exact mm_zret S hr hlocks (by decide) hR ⟨Or.inr ⟨rfl, q1⟩, hF⟩ dX6_hasRoot_13

set_option maxHeartbeats 4000000 in
set_option maxRecDepth 100000 in
/-- setLeaf(files, file, sha) -/
theorem c_X6_setLeaf (l : Launch) (G : mm_G) (M : mm_M) (sz : Nat) (T nd F ca la h st w fi len : Nat) (tn fc fl : Nat → Int32) (a b : Int32) (f g : Nat → Int32) (h1 : M h = some (ob 5 [.ref st, .ref w, .int a, .int b])) (h2 : M st = some (ia G 8 f)) (h3 : M w = some (ia G 64 g)) (h5 : M T = some (ob 7 [.ref nd])) (h6 : M nd = some (ia G 1024 tn)) (h7 : M F = some (ob 1 [.ref ca, .ref la])) (h8 : M ca = some (ia G 192 fc)) (h9 : M la = some (ia G 16 fl)) (hfi : fi < 16) (hlen : len ≤ 12) (el : fl fi = nI len) : mm_v l yX6_setLeaf wsX6_setLeaf ({ frames := 3, cells := 0, slots := 0, locals := 110 } : Room) G ([.ref T, .ref F, .int (nI fi), .ref h] : List Value) M sz (fun M' => M' nd = some (ia G 1024 (va_cpy (leafd fc fi len) tn 0 ((16 + fi) * 32) 32)) ∧ shJ G M' h st w ∧ mm_fr [h, st, w, nd] M M') := by
  refine mm_enter (cc := cX6_setLeaf) (maxL := 4) (ret := none) _ (by decide) rfl (Nat.le_of_ble_eq_true rfl) ?_
  intro p0 e0 s m0 be0 me0 c0 ls S hr hlocks hname hA hC hR hl
  have hx := S.1
  have hb := S.2.1
  have hl : lv_has ls 4 [(0, .ref T), (1, .ref F), (2, .int (nI fi)), (3, .ref h)] := hl
  have inRX0 : ∀ w ∈ wsX00, w ∈ wsX6_setLeaf := by decide +kernel
  have inRX4 : ∀ w ∈ wsX40, w ∈ wsX6_setLeaf := by decide +kernel
  have inRX6 : ∀ w ∈ wsX60, w ∈ wsX6_setLeaf := by decide +kernel
  have hF : mm_fr [h, st, w, nd] M M := mm_fr.rf
  have d_nd_st : nd ≠ st := mm_nelen h6 h2 (by decide)
  have d_nd_w : nd ≠ w := mm_nelen h6 h3 (by decide)
  have d_ca_st : ca ≠ st := mm_nelen h8 h2 (by decide)
  have d_ca_w : ca ≠ w := mm_nelen h8 h3 (by decide)
  refine lv_aload_n hx hb dX6_setLeaf_0 rfl (lv_at hl 3 rfl) ?_
  refine mm_callv hA hR (va_runV (As := []) (rest := []) S (c_X4_start l G M _ h st w _ _ _ _ h1 h2 h3) (cwV 0 S.2.2.2.2 gX6_setLeaf_X4_start rfl rfl rfl (by decide +kernel) ⟨Nat.le_of_ble_eq_true rfl, Nat.le_of_ble_eq_true rfl⟩) (mm_preV hC hA hR _ h1 rfl) rfl rfl hl.1 rfl (lv_room (Nat.le_of_ble_eq_true rfl)) dX6_setLeaf_1 ⟨Nat.le_of_ble_eq_true rfl, Nat.le_of_ble_eq_true rfl⟩) (fun M16 H locs hp hR => ?_)
  obtain ⟨q0, eq0⟩ : ∃ z : ShS, z = (va_cpy k_begin f 0 0 8, g, 0) := ⟨_, rfl⟩
  have i0 : shI (padm (3 + len) (lmsg fc fi len)) 0 q0 := by rw [eq0]; exact shI_0
  rw [← eq0] at hp
  obtain ⟨⟨a1, a2, a3, l0⟩, ff⟩ := hp
  have h5 := ff.at h5 (mm_nc (mm_neoo h5 h1 (by decide)) (mm_nc (mm_neoi h5 h2) (mm_nc (mm_neoi h5 h3) mm_n0)))
  have h6 := ff.at h6 (mm_nc (Ne.symm (mm_neoi h1 h6)) (mm_nc d_nd_st (mm_nc d_nd_w mm_n0)))
  have h7 := ff.at h7 (mm_nc (mm_neoo h7 h1 (by decide)) (mm_nc (mm_neoi h7 h2) (mm_nc (mm_neoi h7 h3) mm_n0)))
  have h8 := ff.at h8 (mm_nc (Ne.symm (mm_neoi h1 h8)) (mm_nc d_ca_st (mm_nc d_ca_w mm_n0)))
  have h9 := ff.at h9 (mm_nc (Ne.symm (mm_neoi h1 h9)) (mm_nc (mm_nelen h9 h2 (by decide)) (mm_nc (mm_nelen h9 h3 (by decide)) mm_n0)))
  have h1 : M16 h = some (ob 5 [.ref st, .ref w, .int (nI q0.2.2), .int (nI 0)]) := a1
  have h2 : M16 st = some (ia G 8 q0.1) := a2
  have h3 : M16 w = some (ia G 64 q0.2.1) := a3
  have hF := hF.tr ff (mm_ic 0 rfl (mm_ic 1 rfl (mm_ic 2 rfl mm_i0)))
  refine lv_aload_n hx hb dX6_setLeaf_4 rfl (lv_at hl 3 rfl) ?_
  refine lv_iconst (v := nI 0) hx hb dX6_setLeaf_5 (by decide) ?_
  refine mm_callv hA hR (va_runV (As := [.int (nI 0)]) (rest := []) S (c_X4_take l G M16 _ h st w q0 0 (nI 0) h1 h2 h3 l0) (cwV 1 S.2.2.2.2 gX6_setLeaf_X4_take rfl rfl rfl (by decide +kernel) ⟨Nat.le_of_ble_eq_true rfl, Nat.le_of_ble_eq_true rfl⟩) (mm_preV hC hA hR _ h1 rfl) rfl rfl hl.1 rfl (lv_room (Nat.le_of_ble_eq_true rfl)) dX6_setLeaf_6 ⟨Nat.le_of_ble_eq_true rfl, Nat.le_of_ble_eq_true rfl⟩) (fun M18 H locs hp hR => ?_)
  obtain ⟨q1, eq1⟩ : ∃ z : ShS, z = sh_take q0 (nI 0) := ⟨_, rfl⟩
  have i1 := shI_s i0
  rw [show (padm (3 + len) (lmsg fc fi len)) 0 = nI 0 from by rw [padm_lt (by omega)]; rfl, ← eq1] at i1
  rw [← eq1] at hp
  obtain ⟨⟨a1, a2, a3, l1⟩, ff⟩ := hp
  have h5 := ff.at h5 (mm_nc (mm_neoo h5 h1 (by decide)) (mm_nc (mm_neoi h5 h2) (mm_nc (mm_neoi h5 h3) mm_n0)))
  have h6 := ff.at h6 (mm_nc (Ne.symm (mm_neoi h1 h6)) (mm_nc d_nd_st (mm_nc d_nd_w mm_n0)))
  have h7 := ff.at h7 (mm_nc (mm_neoo h7 h1 (by decide)) (mm_nc (mm_neoi h7 h2) (mm_nc (mm_neoi h7 h3) mm_n0)))
  have h8 := ff.at h8 (mm_nc (Ne.symm (mm_neoi h1 h8)) (mm_nc d_ca_st (mm_nc d_ca_w mm_n0)))
  have h9 := ff.at h9 (mm_nc (Ne.symm (mm_neoi h1 h9)) (mm_nc (mm_nelen h9 h2 (by decide)) (mm_nc (mm_nelen h9 h3 (by decide)) mm_n0)))
  have h1 : M18 h = some (ob 5 [.ref st, .ref w, .int (nI q1.2.2), .int (nI (0 + 1))]) := a1
  have h2 : M18 st = some (ia G 8 q1.1) := a2
  have h3 : M18 w = some (ia G 64 q1.2.1) := a3
  have hF := hF.tr ff (mm_ic 0 rfl (mm_ic 1 rfl (mm_ic 2 rfl mm_i0)))
  refine lv_aload_n hx hb dX6_setLeaf_9 rfl (lv_at hl 3 rfl) ?_
  refine lv_iload_n hx hb dX6_setLeaf_10 rfl (lv_at hl 2 rfl) ?_
  refine mm_callv hA hR (va_runV (As := [.int (nI fi)]) (rest := []) S (c_X4_take l G M18 _ h st w q1 1 (nI fi) h1 h2 h3 l1) (cwV 1 S.2.2.2.2 gX6_setLeaf_X4_take rfl rfl rfl (by decide +kernel) ⟨Nat.le_of_ble_eq_true rfl, Nat.le_of_ble_eq_true rfl⟩) (mm_preV hC hA hR _ h1 rfl) rfl rfl hl.1 rfl (lv_room (Nat.le_of_ble_eq_true rfl)) dX6_setLeaf_11 ⟨Nat.le_of_ble_eq_true rfl, Nat.le_of_ble_eq_true rfl⟩) (fun M20 H locs hp hR => ?_)
  obtain ⟨q2, eq2⟩ : ∃ z : ShS, z = sh_take q1 (nI fi) := ⟨_, rfl⟩
  have i2 := shI_s i1
  rw [show (padm (3 + len) (lmsg fc fi len)) (0 + 1) = nI fi from by rw [padm_lt (by omega)]; rfl, ← eq2] at i2
  rw [← eq2] at hp
  obtain ⟨⟨a1, a2, a3, l2⟩, ff⟩ := hp
  have h5 := ff.at h5 (mm_nc (mm_neoo h5 h1 (by decide)) (mm_nc (mm_neoi h5 h2) (mm_nc (mm_neoi h5 h3) mm_n0)))
  have h6 := ff.at h6 (mm_nc (Ne.symm (mm_neoi h1 h6)) (mm_nc d_nd_st (mm_nc d_nd_w mm_n0)))
  have h7 := ff.at h7 (mm_nc (mm_neoo h7 h1 (by decide)) (mm_nc (mm_neoi h7 h2) (mm_nc (mm_neoi h7 h3) mm_n0)))
  have h8 := ff.at h8 (mm_nc (Ne.symm (mm_neoi h1 h8)) (mm_nc d_ca_st (mm_nc d_ca_w mm_n0)))
  have h9 := ff.at h9 (mm_nc (Ne.symm (mm_neoi h1 h9)) (mm_nc (mm_nelen h9 h2 (by decide)) (mm_nc (mm_nelen h9 h3 (by decide)) mm_n0)))
  have h1 : M20 h = some (ob 5 [.ref st, .ref w, .int (nI q2.2.2), .int (nI (1 + 1))]) := a1
  have h2 : M20 st = some (ia G 8 q2.1) := a2
  have h3 : M20 w = some (ia G 64 q2.2.1) := a3
  have hF := hF.tr ff (mm_ic 0 rfl (mm_ic 1 rfl (mm_ic 2 rfl mm_i0)))
  refine lv_aload_n hx hb dX6_setLeaf_14 rfl (lv_at hl 3 rfl) ?_
  refine lv_aload_n hx hb dX6_setLeaf_15 rfl (lv_at hl 1 rfl) ?_
  refine mm_get S hC hR (C := RX0) (T := TX0) (N := 2) (ref := "ForkWatch$Files") (v := .ref la) 1 h7 inRX0 rfl (by decide) (by decide +kernel) (fun _ h9 => h9) rfl dX6_setLeaf_16 ?_
  refine lv_iload_n hx hb dX6_setLeaf_19 rfl (lv_at hl 2 rfl) ?_
  refine mm_iald S hC hR h9 (j := fi) (by omega) (by omega) dX6_setLeaf_20 ?_
  refine mm_eqi el ?_
  refine mm_callv hA hR (va_runV (As := [.int (nI len)]) (rest := []) S (c_X4_take l G M20 _ h st w q2 2 (nI len) h1 h2 h3 l2) (cwV 1 S.2.2.2.2 gX6_setLeaf_X4_take rfl rfl rfl (by decide +kernel) ⟨Nat.le_of_ble_eq_true rfl, Nat.le_of_ble_eq_true rfl⟩) (mm_preV hC hA hR _ h1 rfl) rfl rfl hl.1 rfl (lv_room (Nat.le_of_ble_eq_true rfl)) dX6_setLeaf_21 ⟨Nat.le_of_ble_eq_true rfl, Nat.le_of_ble_eq_true rfl⟩) (fun M22 H locs hp hR => ?_)
  obtain ⟨q3, eq3⟩ : ∃ z : ShS, z = sh_take q2 (nI len) := ⟨_, rfl⟩
  have i3 := shI_s i2
  rw [show (padm (3 + len) (lmsg fc fi len)) (0 + 1 + 1) = nI len from by rw [padm_lt (by omega)]; rfl, ← eq3] at i3
  rw [← eq3] at hp
  obtain ⟨⟨a1, a2, a3, l3⟩, ff⟩ := hp
  have h5 := ff.at h5 (mm_nc (mm_neoo h5 h1 (by decide)) (mm_nc (mm_neoi h5 h2) (mm_nc (mm_neoi h5 h3) mm_n0)))
  have h6 := ff.at h6 (mm_nc (Ne.symm (mm_neoi h1 h6)) (mm_nc d_nd_st (mm_nc d_nd_w mm_n0)))
  have h7 := ff.at h7 (mm_nc (mm_neoo h7 h1 (by decide)) (mm_nc (mm_neoi h7 h2) (mm_nc (mm_neoi h7 h3) mm_n0)))
  have h8 := ff.at h8 (mm_nc (Ne.symm (mm_neoi h1 h8)) (mm_nc d_ca_st (mm_nc d_ca_w mm_n0)))
  have h9 := ff.at h9 (mm_nc (Ne.symm (mm_neoi h1 h9)) (mm_nc (mm_nelen h9 h2 (by decide)) (mm_nc (mm_nelen h9 h3 (by decide)) mm_n0)))
  have h1 : M22 h = some (ob 5 [.ref st, .ref w, .int (nI q3.2.2), .int (nI (2 + 1))]) := a1
  have h2 : M22 st = some (ia G 8 q3.1) := a2
  have h3 : M22 w = some (ia G 64 q3.2.1) := a3
  have hF := hF.tr ff (mm_ic 0 rfl (mm_ic 1 rfl (mm_ic 2 rfl mm_i0)))
  refine lv_aload_n hx hb dX6_setLeaf_24 rfl (lv_at hl 3 rfl) ?_
  refine lv_aload_n hx hb dX6_setLeaf_25 rfl (lv_at hl 1 rfl) ?_
  refine mm_get S hC hR (C := RX0) (T := TX0) (N := 2) (ref := "ForkWatch$Files") (v := .ref ca) 0 h7 inRX0 rfl (by decide) (by decide +kernel) (fun _ h9 => h9) rfl dX6_setLeaf_26 ?_
  refine lv_iload_n hx hb dX6_setLeaf_29 rfl (lv_at hl 2 rfl) ?_
  refine lv_bipush (v := nI 12) hx hb dX6_setLeaf_30 (by decide) ?_
  refine lv_imul hx hb dX6_setLeaf_32 ?_
  refine mm_eqi (pk_mul _ _) ?_
  refine lv_aload_n hx hb dX6_setLeaf_33 rfl (lv_at hl 1 rfl) ?_
  refine mm_get S hC hR (C := RX0) (T := TX0) (N := 2) (ref := "ForkWatch$Files") (v := .ref la) 1 h7 inRX0 rfl (by decide) (by decide +kernel) (fun _ h9 => h9) rfl dX6_setLeaf_34 ?_
  refine lv_iload_n hx hb dX6_setLeaf_37 rfl (lv_at hl 2 rfl) ?_
  refine mm_iald S hC hR h9 (j := fi) (by omega) (by omega) dX6_setLeaf_38 ?_
  refine mm_eqi el ?_
  refine mm_callv hA hR (va_runV (As := [.ref ca, .int (nI (fi * 12)), .int (nI len)]) (rest := []) S (c_X4_takeRow l G M22 _ h st w ca 192 q3 3 (fi * 12) len fc h1 h2 h3 h8 l3 (by omega) (by decide) d_ca_st d_ca_w) (cwV 3 S.2.2.2.2 gX6_setLeaf_X4_takeRow rfl rfl rfl (by decide +kernel) ⟨Nat.le_of_ble_eq_true rfl, Nat.le_of_ble_eq_true rfl⟩) (mm_preV hC hA hR _ h1 rfl) rfl rfl hl.1 rfl (lv_room (Nat.le_of_ble_eq_true rfl)) dX6_setLeaf_39 ⟨Nat.le_of_ble_eq_true rfl, Nat.le_of_ble_eq_true rfl⟩) (fun M24 H locs hp hR => ?_)
  have i4 := shI_n (r := fun j => fc (fi * 12 + j)) i3 len (fun j hj => by rw [padm_lt (by omega)]; unfold lmsg; rw [if_neg (by omega), if_neg (by omega), if_neg (by omega)]; congr 1; omega)
  obtain ⟨q4, eq4⟩ : ∃ z : ShS, z = sh_takes q3 (fun j => fc (fi * 12 + j)) len := ⟨_, rfl⟩
  rw [← eq4] at i4 hp
  obtain ⟨⟨a1, a2, a3, l4⟩, ff⟩ := hp
  have h5 := ff.at h5 (mm_nc (mm_neoo h5 h1 (by decide)) (mm_nc (mm_neoi h5 h2) (mm_nc (mm_neoi h5 h3) mm_n0)))
  have h6 := ff.at h6 (mm_nc (Ne.symm (mm_neoi h1 h6)) (mm_nc d_nd_st (mm_nc d_nd_w mm_n0)))
  have h7 := ff.at h7 (mm_nc (mm_neoo h7 h1 (by decide)) (mm_nc (mm_neoi h7 h2) (mm_nc (mm_neoi h7 h3) mm_n0)))
  have h8 := ff.at h8 (mm_nc (Ne.symm (mm_neoi h1 h8)) (mm_nc d_ca_st (mm_nc d_ca_w mm_n0)))
  have h9 := ff.at h9 (mm_nc (Ne.symm (mm_neoi h1 h9)) (mm_nc (mm_nelen h9 h2 (by decide)) (mm_nc (mm_nelen h9 h3 (by decide)) mm_n0)))
  have h1 : M24 h = some (ob 5 [.ref st, .ref w, .int (nI q4.2.2), .int (nI (3 + len))]) := a1
  have h2 : M24 st = some (ia G 8 q4.1) := a2
  have h3 : M24 w = some (ia G 64 q4.2.1) := a3
  have hF := hF.tr ff (mm_ic 0 rfl (mm_ic 1 rfl (mm_ic 2 rfl mm_i0)))
  refine lv_aload_n hx hb dX6_setLeaf_42 rfl (lv_at hl 3 rfl) ?_
  refine lv_aload_n hx hb dX6_setLeaf_43 rfl (lv_at hl 0 rfl) ?_
  refine mm_get S hC hR (C := RX6) (T := TX6) (N := 1) (ref := "ForkWatch$Tree") (v := .ref nd) 0 h5 inRX6 rfl (by decide) (by decide +kernel) (fun _ h9 => h9) rfl dX6_setLeaf_44 ?_
  refine lv_bipush (v := nI 16) hx hb dX6_setLeaf_47 (by decide) ?_
  refine lv_iload_n hx hb dX6_setLeaf_49 rfl (lv_at hl 2 rfl) ?_
  refine lv_iadd hx hb dX6_setLeaf_50 ?_
  refine mm_eqi (nI_add _ _) ?_
  refine lv_bipush (v := nI 32) hx hb dX6_setLeaf_51 (by decide) ?_
  refine lv_imul hx hb dX6_setLeaf_53 ?_
  refine mm_eqi (pk_mul _ _) ?_
  refine mm_callv hA hR (va_runV (As := [.ref nd, .int (nI ((16 + fi) * 32))]) (rest := []) S (c_X4_finish l G M24 _ h st w nd 1024 q4 (3 + len) ((16 + fi) * 32) tn h1 h2 h3 h6 l4 (by omega) (by decide) d_nd_st d_nd_w) (cwV 2 S.2.2.2.2 gX6_setLeaf_X4_finish rfl rfl rfl (by decide +kernel) ⟨Nat.le_of_ble_eq_true rfl, Nat.le_of_ble_eq_true rfl⟩) (mm_preV hC hA hR _ h1 rfl) rfl rfl hl.1 rfl (lv_room (Nat.le_of_ble_eq_true rfl)) dX6_setLeaf_54 ⟨Nat.le_of_ble_eq_true rfl, Nat.le_of_ble_eq_true rfl⟩) (fun M26 H locs hp hR => ?_)
  obtain ⟨e6, ej, ff⟩ := hp
  rw [dg_I i4] at e6
  obtain ⟨f2, g2, y2, z2, e1, e2, e3⟩ := id ej
  have h6 : M26 nd = some (ia G 1024 (va_cpy (leafd fc fi len) tn 0 ((16 + fi) * 32) 32)) := e6
  have hF := hF.tr ff (mm_ic 0 rfl (mm_ic 1 rfl (mm_ic 2 rfl (mm_ic 3 rfl mm_i0))))
  exact mm_vret S hr hlocks hR ⟨h6, ej, hF⟩ dX6_setLeaf_57

set_option maxHeartbeats 4000000 in
set_option maxRecDepth 100000 in
/-- setNode(n, sha) -/
theorem c_X6_setNode (l : Launch) (G : mm_G) (M : mm_M) (sz : Nat) (T nd h st w n : Nat) (tn : Nat → Int32) (a b : Int32) (f g : Nat → Int32) (h1 : M h = some (ob 5 [.ref st, .ref w, .int a, .int b])) (h2 : M st = some (ia G 8 f)) (h3 : M w = some (ia G 64 g)) (h5 : M T = some (ob 7 [.ref nd])) (h6 : M nd = some (ia G 1024 tn)) (hn1 : 1 ≤ n) (hn2 : n < 16) : mm_v l yX6_setNode wsX6_setNode ({ frames := 3, cells := 0, slots := 0, locals := 110 } : Room) G ([.ref T, .int (nI n), .ref h] : List Value) M sz (fun M' => M' nd = some (ia G 1024 (va_cpy (noded tn n) tn 0 (n * 32) 32)) ∧ shJ G M' h st w ∧ mm_fr [h, st, w, nd] M M') := by
  refine mm_enter (cc := cX6_setNode) (maxL := 3) (ret := none) _ (by decide) rfl (Nat.le_of_ble_eq_true rfl) ?_
  intro p0 e0 s m0 be0 me0 c0 ls S hr hlocks hname hA hC hR hl
  have hx := S.1
  have hb := S.2.1
  have hl : lv_has ls 3 [(0, .ref T), (1, .int (nI n)), (2, .ref h)] := hl
  have inRX4 : ∀ w ∈ wsX40, w ∈ wsX6_setNode := by decide +kernel
  have inRX6 : ∀ w ∈ wsX60, w ∈ wsX6_setNode := by decide +kernel
  have hF : mm_fr [h, st, w, nd] M M := mm_fr.rf
  have d_nd_st : nd ≠ st := mm_nelen h6 h2 (by decide)
  have d_nd_w : nd ≠ w := mm_nelen h6 h3 (by decide)
  refine lv_aload_n hx hb dX6_setNode_0 rfl (lv_at hl 2 rfl) ?_
  refine mm_callv hA hR (va_runV (As := []) (rest := []) S (c_X4_start l G M _ h st w _ _ _ _ h1 h2 h3) (cwV 0 S.2.2.2.2 gX6_setNode_X4_start rfl rfl rfl (by decide +kernel) ⟨Nat.le_of_ble_eq_true rfl, Nat.le_of_ble_eq_true rfl⟩) (mm_preV hC hA hR _ h1 rfl) rfl rfl hl.1 rfl (lv_room (Nat.le_of_ble_eq_true rfl)) dX6_setNode_1 ⟨Nat.le_of_ble_eq_true rfl, Nat.le_of_ble_eq_true rfl⟩) (fun M28 H locs hp hR => ?_)
  obtain ⟨q0, eq0⟩ : ∃ z : ShS, z = (va_cpy k_begin f 0 0 8, g, 0) := ⟨_, rfl⟩
  have i0 : shI (padm 65 (nmsg tn n)) 0 q0 := by rw [eq0]; exact shI_0
  rw [← eq0] at hp
  obtain ⟨⟨a1, a2, a3, l0⟩, ff⟩ := hp
  have h5 := ff.at h5 (mm_nc (mm_neoo h5 h1 (by decide)) (mm_nc (mm_neoi h5 h2) (mm_nc (mm_neoi h5 h3) mm_n0)))
  have h6 := ff.at h6 (mm_nc (Ne.symm (mm_neoi h1 h6)) (mm_nc d_nd_st (mm_nc d_nd_w mm_n0)))
  have h1 : M28 h = some (ob 5 [.ref st, .ref w, .int (nI q0.2.2), .int (nI 0)]) := a1
  have h2 : M28 st = some (ia G 8 q0.1) := a2
  have h3 : M28 w = some (ia G 64 q0.2.1) := a3
  have hF := hF.tr ff (mm_ic 0 rfl (mm_ic 1 rfl (mm_ic 2 rfl mm_i0)))
  refine lv_aload_n hx hb dX6_setNode_4 rfl (lv_at hl 2 rfl) ?_
  refine lv_iconst (v := nI 1) hx hb dX6_setNode_5 (by decide) ?_
  refine mm_callv hA hR (va_runV (As := [.int (nI 1)]) (rest := []) S (c_X4_take l G M28 _ h st w q0 0 (nI 1) h1 h2 h3 l0) (cwV 1 S.2.2.2.2 gX6_setNode_X4_take rfl rfl rfl (by decide +kernel) ⟨Nat.le_of_ble_eq_true rfl, Nat.le_of_ble_eq_true rfl⟩) (mm_preV hC hA hR _ h1 rfl) rfl rfl hl.1 rfl (lv_room (Nat.le_of_ble_eq_true rfl)) dX6_setNode_6 ⟨Nat.le_of_ble_eq_true rfl, Nat.le_of_ble_eq_true rfl⟩) (fun M30 H locs hp hR => ?_)
  obtain ⟨q1, eq1⟩ : ∃ z : ShS, z = sh_take q0 (nI 1) := ⟨_, rfl⟩
  have i1 := shI_s i0
  rw [show (padm 65 (nmsg tn n)) 0 = nI 1 from by rw [padm_lt (by omega)]; rfl, ← eq1] at i1
  rw [← eq1] at hp
  obtain ⟨⟨a1, a2, a3, l1⟩, ff⟩ := hp
  have h5 := ff.at h5 (mm_nc (mm_neoo h5 h1 (by decide)) (mm_nc (mm_neoi h5 h2) (mm_nc (mm_neoi h5 h3) mm_n0)))
  have h6 := ff.at h6 (mm_nc (Ne.symm (mm_neoi h1 h6)) (mm_nc d_nd_st (mm_nc d_nd_w mm_n0)))
  have h1 : M30 h = some (ob 5 [.ref st, .ref w, .int (nI q1.2.2), .int (nI (0 + 1))]) := a1
  have h2 : M30 st = some (ia G 8 q1.1) := a2
  have h3 : M30 w = some (ia G 64 q1.2.1) := a3
  have hF := hF.tr ff (mm_ic 0 rfl (mm_ic 1 rfl (mm_ic 2 rfl mm_i0)))
  refine lv_aload_n hx hb dX6_setNode_9 rfl (lv_at hl 2 rfl) ?_
  refine lv_aload_n hx hb dX6_setNode_10 rfl (lv_at hl 0 rfl) ?_
  refine mm_get S hC hR (C := RX6) (T := TX6) (N := 1) (ref := "ForkWatch$Tree") (v := .ref nd) 0 h5 inRX6 rfl (by decide) (by decide +kernel) (fun _ h9 => h9) rfl dX6_setNode_11 ?_
  refine lv_iconst (v := nI 2) hx hb dX6_setNode_14 (by decide) ?_
  refine lv_iload_n hx hb dX6_setNode_15 rfl (lv_at hl 1 rfl) ?_
  refine lv_imul hx hb dX6_setNode_16 ?_
  refine mm_eqi (pk_mul _ _) ?_
  refine lv_bipush (v := nI 32) hx hb dX6_setNode_17 (by decide) ?_
  refine lv_imul hx hb dX6_setNode_19 ?_
  refine mm_eqi (pk_mul _ _) ?_
  refine mm_eqi (congrArg nI (show (2 * n) * 32 = 64 * n by omega)) ?_
  refine lv_bipush (v := nI 64) hx hb dX6_setNode_20 (by decide) ?_
  refine mm_callv hA hR (va_runV (As := [.ref nd, .int (nI (64 * n)), .int (nI 64)]) (rest := []) S (c_X4_takeRow l G M30 _ h st w nd 1024 q1 1 (64 * n) 64 tn h1 h2 h3 h6 l1 (by omega) (by decide) d_nd_st d_nd_w) (cwV 3 S.2.2.2.2 gX6_setNode_X4_takeRow rfl rfl rfl (by decide +kernel) ⟨Nat.le_of_ble_eq_true rfl, Nat.le_of_ble_eq_true rfl⟩) (mm_preV hC hA hR _ h1 rfl) rfl rfl hl.1 rfl (lv_room (Nat.le_of_ble_eq_true rfl)) dX6_setNode_22 ⟨Nat.le_of_ble_eq_true rfl, Nat.le_of_ble_eq_true rfl⟩) (fun M32 H locs hp hR => ?_)
  have i2 := shI_n (r := fun j => tn (64 * n + j)) i1 64 (fun j hj => by rw [padm_lt (by omega)]; unfold nmsg; rw [if_neg (by omega)]; congr 1; omega)
  obtain ⟨q2, eq2⟩ : ∃ z : ShS, z = sh_takes q1 (fun j => tn (64 * n + j)) 64 := ⟨_, rfl⟩
  rw [← eq2] at i2 hp
  obtain ⟨⟨a1, a2, a3, l2⟩, ff⟩ := hp
  have h5 := ff.at h5 (mm_nc (mm_neoo h5 h1 (by decide)) (mm_nc (mm_neoi h5 h2) (mm_nc (mm_neoi h5 h3) mm_n0)))
  have h6 := ff.at h6 (mm_nc (Ne.symm (mm_neoi h1 h6)) (mm_nc d_nd_st (mm_nc d_nd_w mm_n0)))
  have h1 : M32 h = some (ob 5 [.ref st, .ref w, .int (nI q2.2.2), .int (nI (1 + 64))]) := a1
  have h2 : M32 st = some (ia G 8 q2.1) := a2
  have h3 : M32 w = some (ia G 64 q2.2.1) := a3
  have hF := hF.tr ff (mm_ic 0 rfl (mm_ic 1 rfl (mm_ic 2 rfl mm_i0)))
  refine lv_aload_n hx hb dX6_setNode_25 rfl (lv_at hl 2 rfl) ?_
  refine lv_aload_n hx hb dX6_setNode_26 rfl (lv_at hl 0 rfl) ?_
  refine mm_get S hC hR (C := RX6) (T := TX6) (N := 1) (ref := "ForkWatch$Tree") (v := .ref nd) 0 h5 inRX6 rfl (by decide) (by decide +kernel) (fun _ h9 => h9) rfl dX6_setNode_27 ?_
  refine lv_iload_n hx hb dX6_setNode_30 rfl (lv_at hl 1 rfl) ?_
  refine lv_bipush (v := nI 32) hx hb dX6_setNode_31 (by decide) ?_
  refine lv_imul hx hb dX6_setNode_33 ?_
  refine mm_eqi (pk_mul _ _) ?_
  refine mm_callv hA hR (va_runV (As := [.ref nd, .int (nI (n * 32))]) (rest := []) S (c_X4_finish l G M32 _ h st w nd 1024 q2 65 (n * 32) tn h1 h2 h3 h6 l2 (by omega) (by decide) d_nd_st d_nd_w) (cwV 2 S.2.2.2.2 gX6_setNode_X4_finish rfl rfl rfl (by decide +kernel) ⟨Nat.le_of_ble_eq_true rfl, Nat.le_of_ble_eq_true rfl⟩) (mm_preV hC hA hR _ h1 rfl) rfl rfl hl.1 rfl (lv_room (Nat.le_of_ble_eq_true rfl)) dX6_setNode_34 ⟨Nat.le_of_ble_eq_true rfl, Nat.le_of_ble_eq_true rfl⟩) (fun M34 H locs hp hR => ?_)
  obtain ⟨e6, ej, ff⟩ := hp
  rw [dg_I i2] at e6
  obtain ⟨f2, g2, y2, z2, e1, e2, e3⟩ := id ej
  have h6 : M34 nd = some (ia G 1024 (va_cpy (noded tn n) tn 0 (n * 32) 32)) := e6
  have hF := hF.tr ff (mm_ic 0 rfl (mm_ic 1 rfl (mm_ic 2 rfl (mm_ic 3 rfl mm_i0))))
  exact mm_vret S hr hlocks hR ⟨h6, ej, hF⟩ dX6_setNode_37
end
section
set_option maxHeartbeats 4000000 in
set_option maxRecDepth 100000 in
/-- refresh(files, file, sha) -/
theorem c_X6_refresh (l : Launch) (G : mm_G) (M : mm_M) (sz : Nat) (T nd F ca la h st w fi : Nat) (ln : Nat → Nat) (tn fc fl : Nat → Int32) (a b : Int32) (f g : Nat → Int32) (h1 : M h = some (ob 5 [.ref st, .ref w, .int a, .int b])) (h2 : M st = some (ia G 8 f)) (h3 : M w = some (ia G 64 g)) (h5 : M T = some (ob 7 [.ref nd])) (h6 : M nd = some (ia G 1024 tn)) (h7 : M F = some (ob 1 [.ref ca, .ref la])) (h8 : M ca = some (ia G 192 fc)) (h9 : M la = some (ia G 16 fl)) (hfi : fi < 16) (hln : ∀ x, x < 16 → fl x = nI (ln x) ∧ ln x ≤ 12) (ht : trO fc ln tn (fun x => x ≠ fi) (fun _ => True)) : mm_v l yX6_refresh wsX6_refresh ({ frames := 4, cells := 0, slots := 0, locals := 140 } : Room) G ([.ref T, .ref F, .int (nI fi), .ref h] : List Value) M sz (fun M' => ∃ tn', M' nd = some (ia G 1024 tn') ∧ trO fc ln tn' (fun _ => True) (fun _ => True) ∧ shJ G M' h st w ∧ mm_fr [h, st, w, nd] M M') := by
  refine mm_enter (cc := cX6_refresh) (maxL := 5) (ret := none) _ (by decide) rfl (Nat.le_of_ble_eq_true rfl) ?_
  intro p0 e0 s m0 be0 me0 c0 ls S hr hlocks hname hA hC hR hl
  have hx := S.1
  have hb := S.2.1
  have hl : lv_has ls 5 [(0, .ref T), (1, .ref F), (2, .int (nI fi)), (3, .ref h)] := hl
  have inRX0 : ∀ w ∈ wsX00, w ∈ wsX6_refresh := by decide +kernel
  have inRX4 : ∀ w ∈ wsX40, w ∈ wsX6_refresh := by decide +kernel
  have inRX6 : ∀ w ∈ wsX60, w ∈ wsX6_refresh := by decide +kernel
  have hF : mm_fr [h, st, w, nd] M M := mm_fr.rf
  refine lv_aload_n hx hb dX6_refresh_0 rfl (lv_at hl 0 rfl) ?_
  refine lv_aload_n hx hb dX6_refresh_1 rfl (lv_at hl 1 rfl) ?_
  refine lv_iload_n hx hb dX6_refresh_2 rfl (lv_at hl 2 rfl) ?_
  refine lv_aload_n hx hb dX6_refresh_3 rfl (lv_at hl 3 rfl) ?_
  refine mm_callv hA hR (va_runV (As := [.ref F, .int (nI fi), .ref h]) (rest := []) S (c_X6_setLeaf l G M _ T nd F ca la h st w fi (ln fi) tn fc fl _ _ _ _ h1 h2 h3 h5 h6 h7 h8 h9 (by omega) (hln _ (by omega)).2 (hln _ (by omega)).1) (cwV 3 S.2.2.2.2 gX6_refresh_X6_setLeaf rfl rfl rfl (by decide +kernel) ⟨Nat.le_of_ble_eq_true rfl, Nat.le_of_ble_eq_true rfl⟩) (mm_preV hC hA hR _ h5 rfl) rfl rfl hl.1 rfl (lv_room (Nat.le_of_ble_eq_true rfl)) dX6_refresh_4 ⟨Nat.le_of_ble_eq_true rfl, Nat.le_of_ble_eq_true rfl⟩) (fun M36 H locs hp hR => ?_)
  obtain ⟨e6, ej, ff⟩ := hp
  obtain ⟨f2, g2, y2, z2, e1, e2, e3⟩ := id ej
  have h5 := ff.at h5 (mm_nc (mm_neoo h5 h1 (by decide)) (mm_nc (mm_neoi h5 h2) (mm_nc (mm_neoi h5 h3) (mm_nc (mm_neoi h5 h6) mm_n0))))
  have h7 := ff.at h7 (mm_nc (mm_neoo h7 h1 (by decide)) (mm_nc (mm_neoi h7 h2) (mm_nc (mm_neoi h7 h3) (mm_nc (mm_neoi h7 h6) mm_n0))))
  have h8 := ff.at h8 (mm_nc (Ne.symm (mm_neoi h1 h8)) (mm_nc (mm_nelen h8 h2 (by decide)) (mm_nc (mm_nelen h8 h3 (by decide)) (mm_nc (mm_nelen h8 h6 (by decide)) mm_n0))))
  have h9 := ff.at h9 (mm_nc (Ne.symm (mm_neoi h1 h9)) (mm_nc (mm_nelen h9 h2 (by decide)) (mm_nc (mm_nelen h9 h3 (by decide)) (mm_nc (mm_nelen h9 h6 (by decide)) mm_n0))))
  have h1 : M36 h = some (ob 5 [.ref st, .ref w, .int y2, .int z2]) := e1
  have h2 : M36 st = some (ia G 8 f2) := e2
  have h3 : M36 w = some (ia G 64 g2) := e3
  have h6 : M36 nd = some (ia G 1024 (va_cpy (leafd fc fi (ln fi)) tn 0 ((16 + fi) * 32) 32)) := e6
  have hF := hF.tr ff (mm_ic 0 rfl (mm_ic 1 rfl (mm_ic 2 rfl (mm_ic 3 rfl mm_i0))))
  refine lv_bipush (v := nI 16) hx hb dX6_refresh_7 (by decide) ?_
  refine lv_iload_n hx hb dX6_refresh_9 rfl (lv_at hl 2 rfl) ?_
  refine lv_iadd hx hb dX6_refresh_10 ?_
  refine mm_eqi (nI_add _ _) ?_
  refine lv_iconst (v := nI 2) hx hb dX6_refresh_11 (by decide) ?_
  refine lv_idiv hx hb dX6_refresh_12 (by first | decide | (exact nI_ne0 (by omega) (by omega))) ?_
  refine mm_eqi (pk_div (by omega) (by omega) (by omega)) ?_
  refine lv_istore (lv' := [(4, .int (nI ((16 + fi) / 2))), (0, .ref T), (1, .ref F), (2, .int (nI fi)), (3, .ref h)]) hx hb dX6_refresh_13 hl (by decide) rfl (fun ls hl => ?_)
  have loop15 : ∀ (k : Nat) (x : Nat) (tn' : Nat → Int32) (M1 : mm_M) (H : Heap) (locs : List Loc) (ls : Array Slot), x < k → (x ≤ 15) → (trO fc ln tn' (fun _ => True) (fun n => n ≠ x)) → M1 T = some (ob 7 [.ref nd]) → M1 nd = some (ia G 1024 tn') → shJ G M1 h st w → M1 F = some (ob 1 [.ref ca, .ref la]) → M1 ca = some (ia G 192 fc) → M1 la = some (ia G 16 fl) → mm_fr [h, st, w, nd] M M1 → mm_R G s (mm_A M sz) M1 H locs → lv_has ls 5 [(0, .ref T), (3, .ref h), (4, .int (nI x))] → W p0 l e0 ({ frames := 4, cells := 0, slots := 0, locals := 140 } : Room) s m0 ([.ref T, .ref F, .int (nI fi), .ref h] : List Value).toArray be0 me0 c0 H locs 0 0 (MQ be0 (va_Qv (fun M' => ∃ tn', M' nd = some (ia G 1024 tn') ∧ trO fc ln tn' (fun _ => True) (fun _ => True) ∧ shJ G M' h st w ∧ mm_fr [h, st, w, nd] M M') (fun M' t => mm_H G (mm_A M sz) M' t.heap) (mm_A M sz)) ([.ref T, .ref F, .int (nI fi), .ref h] : List Value).toArray s 0 0 (mm_A M sz)) (F0 m0 15 ls []) := by
    intro k
    induction k with
    | zero =>
      intro x tn' M1 H locs ls hm hx15 ht h5 h6 hj h7 h8 h9 hF hR hl
      omega
    | succ k ih =>
      intro x tn' M1 H locs ls hm hx15 ht h5 h6 hj h7 h8 h9 hF hR hl
      obtain ⟨f, g, a, b, h1, h2, h3⟩ := id hj
      refine lv_iload hx hb dX6_refresh_15 (lv_at hl 2 rfl) ?_
      refine lv_iconst (v := nI 1) hx hb dX6_refresh_17 (by decide) ?_
      refine lv_icmp_lt (tgt := 37) hx hb dX6_refresh_18 (by decide) (fun c1 => ?_) (fun c1 => ?_)
      · have c1 : x < 1 := (nI_ltI (by omega) (by omega)).mp c1
        exact mm_vret S hr hlocks hR ⟨tn', h6, ht.mono (fun _ _ h => h) (fun n h1 _ _ => by omega), hj, hF⟩ dX6_refresh_37
      · have c1 : ¬ (x < 1) := fun z => c1 ((nI_ltI (by omega) (by omega)).mpr z)
        refine lv_aload_n hx hb dX6_refresh_21 rfl (lv_at hl 0 rfl) ?_
        refine lv_iload hx hb dX6_refresh_22 (lv_at hl 2 rfl) ?_
        refine lv_aload_n hx hb dX6_refresh_24 rfl (lv_at hl 1 rfl) ?_
        refine mm_callv hA hR (va_runV (As := [.int (nI x), .ref h]) (rest := []) S (c_X6_setNode l G M1 _ T nd h st w x tn' _ _ _ _ h1 h2 h3 h5 h6 (by omega) (by omega)) (cwV 2 S.2.2.2.2 gX6_refresh_X6_setNode rfl rfl rfl (by decide +kernel) ⟨Nat.le_of_ble_eq_true rfl, Nat.le_of_ble_eq_true rfl⟩) (mm_preV hC hA hR _ h5 rfl) rfl rfl hl.1 rfl (lv_room (Nat.le_of_ble_eq_true rfl)) dX6_refresh_25 ⟨Nat.le_of_ble_eq_true rfl, Nat.le_of_ble_eq_true rfl⟩) (fun M38 H locs hp hR => ?_)
        obtain ⟨e6, ej, ff⟩ := hp
        obtain ⟨f2, g2, y2, z2, e1, e2, e3⟩ := id ej
        have h5 := ff.at h5 (mm_nc (mm_neoo h5 h1 (by decide)) (mm_nc (mm_neoi h5 h2) (mm_nc (mm_neoi h5 h3) (mm_nc (mm_neoi h5 h6) mm_n0))))
        have h7 := ff.at h7 (mm_nc (mm_neoo h7 h1 (by decide)) (mm_nc (mm_neoi h7 h2) (mm_nc (mm_neoi h7 h3) (mm_nc (mm_neoi h7 h6) mm_n0))))
        have h8 := ff.at h8 (mm_nc (Ne.symm (mm_neoi h1 h8)) (mm_nc (mm_nelen h8 h2 (by decide)) (mm_nc (mm_nelen h8 h3 (by decide)) (mm_nc (mm_nelen h8 h6 (by decide)) mm_n0))))
        have h9 := ff.at h9 (mm_nc (Ne.symm (mm_neoi h1 h9)) (mm_nc (mm_nelen h9 h2 (by decide)) (mm_nc (mm_nelen h9 h3 (by decide)) (mm_nc (mm_nelen h9 h6 (by decide)) mm_n0))))
        have h1 : M38 h = some (ob 5 [.ref st, .ref w, .int y2, .int z2]) := e1
        have h2 : M38 st = some (ia G 8 f2) := e2
        have h3 : M38 w = some (ia G 64 g2) := e3
        have h6 : M38 nd = some (ia G 1024 (va_cpy (noded tn' x) tn' 0 (x * 32) 32)) := e6
        have hF := hF.tr ff (mm_ic 0 rfl (mm_ic 1 rfl (mm_ic 2 rfl (mm_ic 3 rfl mm_i0))))
        refine lv_iload hx hb dX6_refresh_28 (lv_at hl 2 rfl) ?_
        refine lv_iconst (v := nI 2) hx hb dX6_refresh_30 (by decide) ?_
        refine lv_idiv hx hb dX6_refresh_31 (by first | decide | (exact nI_ne0 (by omega) (by omega))) ?_
        refine mm_eqi (pk_div (by omega) (by omega) (by omega)) ?_
        refine lv_istore (lv' := [(4, .int (nI (x / 2))), (0, .ref T), (3, .ref h)]) hx hb dX6_refresh_32 hl (by decide) rfl (fun ls hl => ?_)
        refine lv_goto (tgt := 15) hx hb dX6_refresh_34 (by decide) ?_
        exact ih (x / 2) _ _ H locs ls (by omega) (by omega) ((trO_node (by omega) (by omega) ht).mono (fun _ _ h => h) (fun n _ _ h => by by_cases e : n = x; exact Or.inl e; exact Or.inr ⟨e, h⟩)) h5 h6 ej h7 h8 h9 hF hR (lv_sub hl [1, 2, 0] rfl)
  exact loop15 16 ((16 + fi) / 2) _ _ _ _ ls (by omega) (by omega) ((trO_leaf hfi ht).mono (fun x _ _ => by by_cases e : x = fi; exact Or.inl e; exact Or.inr e) (fun n _ _ h => ⟨trivial, h⟩)) h5 h6 ej h7 h8 h9 hF hR (lv_sub hl [1, 4, 0] rfl)

set_option maxHeartbeats 4000000 in
set_option maxRecDepth 100000 in
/-- build(files, sha) -/
theorem c_X6_build (l : Launch) (G : mm_G) (M : mm_M) (sz : Nat) (T nd F ca la h st w : Nat) (ln : Nat → Nat) (tn fc fl : Nat → Int32) (a b : Int32) (f g : Nat → Int32) (h1 : M h = some (ob 5 [.ref st, .ref w, .int a, .int b])) (h2 : M st = some (ia G 8 f)) (h3 : M w = some (ia G 64 g)) (h5 : M T = some (ob 7 [.ref nd])) (h6 : M nd = some (ia G 1024 tn)) (h7 : M F = some (ob 1 [.ref ca, .ref la])) (h8 : M ca = some (ia G 192 fc)) (h9 : M la = some (ia G 16 fl)) (hln : ∀ x, x < 16 → fl x = nI (ln x) ∧ ln x ≤ 12) : mm_v l yX6_build wsX6_build ({ frames := 4, cells := 0, slots := 0, locals := 140 } : Room) G ([.ref T, .ref F, .ref h] : List Value) M sz (fun M' => ∃ tn', M' nd = some (ia G 1024 tn') ∧ trO fc ln tn' (fun _ => True) (fun _ => True) ∧ shJ G M' h st w ∧ mm_fr [h, st, w, nd] M M') := by
  refine mm_enter (cc := cX6_build) (maxL := 4) (ret := none) _ (by decide) rfl (Nat.le_of_ble_eq_true rfl) ?_
  intro p0 e0 s m0 be0 me0 c0 ls S hr hlocks hname hA hC hR hl
  have hx := S.1
  have hb := S.2.1
  have hl : lv_has ls 4 [(0, .ref T), (1, .ref F), (2, .ref h)] := hl
  have inRX0 : ∀ w ∈ wsX00, w ∈ wsX6_build := by decide +kernel
  have inRX4 : ∀ w ∈ wsX40, w ∈ wsX6_build := by decide +kernel
  have inRX6 : ∀ w ∈ wsX60, w ∈ wsX6_build := by decide +kernel
  have hF : mm_fr [h, st, w, nd] M M := mm_fr.rf
  refine lv_iconst (v := nI 0) hx hb dX6_build_0 (by decide) ?_
  refine lv_istore_n (lv' := [(3, .int (nI 0)), (0, .ref T), (1, .ref F), (2, .ref h)]) hx hb dX6_build_1 rfl hl (by decide) rfl (fun ls hl => ?_)
  have loop2 : ∀ (k : Nat) (x : Nat) (tn' : Nat → Int32) (M1 : mm_M) (H : Heap) (locs : List Loc) (ls : Array Slot), 16 < x + k → (x ≤ 16) → (trO fc ln tn' (fun y => y < x) (fun _ => False)) → M1 T = some (ob 7 [.ref nd]) → M1 nd = some (ia G 1024 tn') → shJ G M1 h st w → M1 F = some (ob 1 [.ref ca, .ref la]) → M1 ca = some (ia G 192 fc) → M1 la = some (ia G 16 fl) → mm_fr [h, st, w, nd] M M1 → mm_R G s (mm_A M sz) M1 H locs → lv_has ls 4 [(0, .ref T), (1, .ref F), (2, .ref h), (3, .int (nI x))] → W p0 l e0 ({ frames := 4, cells := 0, slots := 0, locals := 140 } : Room) s m0 ([.ref T, .ref F, .ref h] : List Value).toArray be0 me0 c0 H locs 0 0 (MQ be0 (va_Qv (fun M' => ∃ tn', M' nd = some (ia G 1024 tn') ∧ trO fc ln tn' (fun _ => True) (fun _ => True) ∧ shJ G M' h st w ∧ mm_fr [h, st, w, nd] M M') (fun M' t => mm_H G (mm_A M sz) M' t.heap) (mm_A M sz)) ([.ref T, .ref F, .ref h] : List Value).toArray s 0 0 (mm_A M sz)) (F0 m0 2 ls []) := by
    intro k
    induction k with
    | zero =>
      intro x tn' M1 H locs ls hm hx16 ht h5 h6 hj h7 h8 h9 hF hR hl
      omega
    | succ k ih =>
      intro x tn' M1 H locs ls hm hx16 ht h5 h6 hj h7 h8 h9 hF hR hl
      obtain ⟨f, g, a, b, h1, h2, h3⟩ := id hj
      refine lv_iload_n hx hb dX6_build_2 rfl (lv_at hl 3 rfl) ?_
      refine lv_bipush (v := nI 16) hx hb dX6_build_3 (by decide) ?_
      refine lv_icmp_ge (tgt := 21) hx hb dX6_build_5 (by decide) (fun c1 => ?_) (fun c1 => ?_)
      · have c1 : 16 ≤ x := (nI_leI (by omega) (by omega)).mp c1
        refine lv_bipush (v := nI 15) hx hb dX6_build_21 (by decide) ?_
        refine lv_istore_n (lv' := [(3, .int (nI 15)), (0, .ref T), (1, .ref F), (2, .ref h)]) hx hb dX6_build_23 rfl hl (by decide) rfl (fun ls hl => ?_)
        have loop24 : ∀ (k : Nat) (y : Nat) (tn' : Nat → Int32) (M1 : mm_M) (H : Heap) (locs : List Loc) (ls : Array Slot), y < k → (y ≤ 15) → (trO fc ln tn' (fun _ => True) (fun n => y < n)) → M1 T = some (ob 7 [.ref nd]) → M1 nd = some (ia G 1024 tn') → shJ G M1 h st w → M1 F = some (ob 1 [.ref ca, .ref la]) → M1 ca = some (ia G 192 fc) → M1 la = some (ia G 16 fl) → mm_fr [h, st, w, nd] M M1 → mm_R G s (mm_A M sz) M1 H locs → lv_has ls 4 [(0, .ref T), (2, .ref h), (3, .int (nI y))] → W p0 l e0 ({ frames := 4, cells := 0, slots := 0, locals := 140 } : Room) s m0 ([.ref T, .ref F, .ref h] : List Value).toArray be0 me0 c0 H locs 0 0 (MQ be0 (va_Qv (fun M' => ∃ tn', M' nd = some (ia G 1024 tn') ∧ trO fc ln tn' (fun _ => True) (fun _ => True) ∧ shJ G M' h st w ∧ mm_fr [h, st, w, nd] M M') (fun M' t => mm_H G (mm_A M sz) M' t.heap) (mm_A M sz)) ([.ref T, .ref F, .ref h] : List Value).toArray s 0 0 (mm_A M sz)) (F0 m0 24 ls []) := by
          intro k
          induction k with
          | zero =>
            intro y tn' M1 H locs ls hm hy15 ht h5 h6 hj h7 h8 h9 hF hR hl
            omega
          | succ k ih =>
            intro y tn' M1 H locs ls hm hy15 ht h5 h6 hj h7 h8 h9 hF hR hl
            obtain ⟨f, g, a, b, h1, h2, h3⟩ := id hj
            refine lv_iload_n hx hb dX6_build_24 rfl (lv_at hl 2 rfl) ?_
            refine lv_iconst (v := nI 1) hx hb dX6_build_25 (by decide) ?_
            refine lv_icmp_lt (tgt := 41) hx hb dX6_build_26 (by decide) (fun c2 => ?_) (fun c2 => ?_)
            · have c2 : y < 1 := (nI_ltI (by omega) (by omega)).mp c2
              exact mm_vret S hr hlocks hR ⟨tn', h6, ht.mono (fun _ _ h => h) (fun n h1 _ _ => by omega), hj, hF⟩ dX6_build_41
            · have c2 : ¬ (y < 1) := fun z => c2 ((nI_ltI (by omega) (by omega)).mpr z)
              refine lv_aload_n hx hb dX6_build_29 rfl (lv_at hl 0 rfl) ?_
              refine lv_iload_n hx hb dX6_build_30 rfl (lv_at hl 2 rfl) ?_
              refine lv_aload_n hx hb dX6_build_31 rfl (lv_at hl 1 rfl) ?_
              refine mm_callv hA hR (va_runV (As := [.int (nI y), .ref h]) (rest := []) S (c_X6_setNode l G M1 _ T nd h st w y tn' _ _ _ _ h1 h2 h3 h5 h6 (by omega) (by omega)) (cwV 2 S.2.2.2.2 gX6_build_X6_setNode rfl rfl rfl (by decide +kernel) ⟨Nat.le_of_ble_eq_true rfl, Nat.le_of_ble_eq_true rfl⟩) (mm_preV hC hA hR _ h5 rfl) rfl rfl hl.1 rfl (lv_room (Nat.le_of_ble_eq_true rfl)) dX6_build_32 ⟨Nat.le_of_ble_eq_true rfl, Nat.le_of_ble_eq_true rfl⟩) (fun M40 H locs hp hR => ?_)
              obtain ⟨e6, ej, ff⟩ := hp
              obtain ⟨f2, g2, y2, z2, e1, e2, e3⟩ := id ej
              have h5 := ff.at h5 (mm_nc (mm_neoo h5 h1 (by decide)) (mm_nc (mm_neoi h5 h2) (mm_nc (mm_neoi h5 h3) (mm_nc (mm_neoi h5 h6) mm_n0))))
              have h7 := ff.at h7 (mm_nc (mm_neoo h7 h1 (by decide)) (mm_nc (mm_neoi h7 h2) (mm_nc (mm_neoi h7 h3) (mm_nc (mm_neoi h7 h6) mm_n0))))
              have h8 := ff.at h8 (mm_nc (Ne.symm (mm_neoi h1 h8)) (mm_nc (mm_nelen h8 h2 (by decide)) (mm_nc (mm_nelen h8 h3 (by decide)) (mm_nc (mm_nelen h8 h6 (by decide)) mm_n0))))
              have h9 := ff.at h9 (mm_nc (Ne.symm (mm_neoi h1 h9)) (mm_nc (mm_nelen h9 h2 (by decide)) (mm_nc (mm_nelen h9 h3 (by decide)) (mm_nc (mm_nelen h9 h6 (by decide)) mm_n0))))
              have h1 : M40 h = some (ob 5 [.ref st, .ref w, .int y2, .int z2]) := e1
              have h2 : M40 st = some (ia G 8 f2) := e2
              have h3 : M40 w = some (ia G 64 g2) := e3
              have h6 : M40 nd = some (ia G 1024 (va_cpy (noded tn' y) tn' 0 (y * 32) 32)) := e6
              have hF := hF.tr ff (mm_ic 0 rfl (mm_ic 1 rfl (mm_ic 2 rfl (mm_ic 3 rfl mm_i0))))
              refine lv_iinc (v := (nI (y - 1))) (lv' := [(3, .int (nI (y - 1))), (0, .ref T), (2, .ref h)]) hx hb dX6_build_35 hl (k := 2) rfl (by rw [show Int32.ofInt (-1) = -(nI 1) from by decide]; exact mm_dec (by omega)) (by decide) rfl (fun ls hl => ?_)
              refine lv_goto (tgt := 24) hx hb dX6_build_38 (by decide) ?_
              exact ih (y - 1) _ _ H locs ls (by omega) (by omega) ((trO_node (by omega) (by omega) ht).mono (fun _ _ h => h) (fun n _ _ h => by by_cases e : n = y; exact Or.inl e; exact Or.inr ⟨by omega, by omega⟩)) h5 h6 ej h7 h8 h9 hF hR (lv_sub hl [1, 2, 0] rfl)
        exact loop24 16 15 _ _ _ _ ls (by omega) (by omega) (ht.mono (fun y hy _ => by show y < x; omega) (fun n _ _ h => by omega)) h5 h6 hj h7 h8 h9 hF hR (lv_sub hl [1, 3, 0] rfl)
      · have c1 : ¬ (16 ≤ x) := fun z => c1 ((nI_leI (by omega) (by omega)).mpr z)
        refine lv_aload_n hx hb dX6_build_8 rfl (lv_at hl 0 rfl) ?_
        refine lv_aload_n hx hb dX6_build_9 rfl (lv_at hl 1 rfl) ?_
        refine lv_iload_n hx hb dX6_build_10 rfl (lv_at hl 3 rfl) ?_
        refine lv_aload_n hx hb dX6_build_11 rfl (lv_at hl 2 rfl) ?_
        refine mm_callv hA hR (va_runV (As := [.ref F, .int (nI x), .ref h]) (rest := []) S (c_X6_setLeaf l G M1 _ T nd F ca la h st w x (ln x) tn' fc fl _ _ _ _ h1 h2 h3 h5 h6 h7 h8 h9 (by omega) (hln _ (by omega)).2 (hln _ (by omega)).1) (cwV 3 S.2.2.2.2 gX6_build_X6_setLeaf rfl rfl rfl (by decide +kernel) ⟨Nat.le_of_ble_eq_true rfl, Nat.le_of_ble_eq_true rfl⟩) (mm_preV hC hA hR _ h5 rfl) rfl rfl hl.1 rfl (lv_room (Nat.le_of_ble_eq_true rfl)) dX6_build_12 ⟨Nat.le_of_ble_eq_true rfl, Nat.le_of_ble_eq_true rfl⟩) (fun M42 H locs hp hR => ?_)
        obtain ⟨e6, ej, ff⟩ := hp
        obtain ⟨f2, g2, y2, z2, e1, e2, e3⟩ := id ej
        have h5 := ff.at h5 (mm_nc (mm_neoo h5 h1 (by decide)) (mm_nc (mm_neoi h5 h2) (mm_nc (mm_neoi h5 h3) (mm_nc (mm_neoi h5 h6) mm_n0))))
        have h7 := ff.at h7 (mm_nc (mm_neoo h7 h1 (by decide)) (mm_nc (mm_neoi h7 h2) (mm_nc (mm_neoi h7 h3) (mm_nc (mm_neoi h7 h6) mm_n0))))
        have h8 := ff.at h8 (mm_nc (Ne.symm (mm_neoi h1 h8)) (mm_nc (mm_nelen h8 h2 (by decide)) (mm_nc (mm_nelen h8 h3 (by decide)) (mm_nc (mm_nelen h8 h6 (by decide)) mm_n0))))
        have h9 := ff.at h9 (mm_nc (Ne.symm (mm_neoi h1 h9)) (mm_nc (mm_nelen h9 h2 (by decide)) (mm_nc (mm_nelen h9 h3 (by decide)) (mm_nc (mm_nelen h9 h6 (by decide)) mm_n0))))
        have h1 : M42 h = some (ob 5 [.ref st, .ref w, .int y2, .int z2]) := e1
        have h2 : M42 st = some (ia G 8 f2) := e2
        have h3 : M42 w = some (ia G 64 g2) := e3
        have h6 : M42 nd = some (ia G 1024 (va_cpy (leafd fc x (ln x)) tn' 0 ((16 + x) * 32) 32)) := e6
        have hF := hF.tr ff (mm_ic 0 rfl (mm_ic 1 rfl (mm_ic 2 rfl (mm_ic 3 rfl mm_i0))))
        refine lv_iinc (v := (nI (x + 1))) (lv' := [(3, .int (nI (x + 1))), (0, .ref T), (1, .ref F), (2, .ref h)]) hx hb dX6_build_15 hl (k := 3) rfl (by rw [show Int32.ofInt 1 = nI 1 from by decide]; exact nI_add _ _) (by decide) rfl (fun ls hl => ?_)
        refine lv_goto (tgt := 2) hx hb dX6_build_18 (by decide) ?_
        exact ih (x + 1) _ _ H locs ls (by omega) (by omega) ((trO_leaf (by omega) ht).mono (fun y _ h => by by_cases e : y = x; exact Or.inl e; exact Or.inr (by omega)) (fun n _ _ h => h.elim)) h5 h6 ej h7 h8 h9 hF hR (lv_sub hl [1, 2, 3, 0] rfl)
  exact loop2 17 0 tn _ _ _ ls (by omega) (by omega) ⟨fun y _ h => absurd h (Nat.not_lt_zero y), fun _ _ _ h => h.elim⟩ h5 h6 ⟨_, _, _, _, h1, h2, h3⟩ h7 h8 h9 hF hR (lv_sub hl [1, 2, 3, 0] rfl)
end
section
set_option maxHeartbeats 4000000 in
set_option maxRecDepth 100000 in
/-- Operation(..) -/
theorem c_X3_init (l : Launch) (G : mm_G) (M : mm_M) (sz : Nat) (O : Nat) (x : Int32) (cl nu fi y : Nat) (h1 : M O = some (ob 4 [.int (nI 0), .int (nI 0), .int (nI 0), .int (nI 0), .null])) (hz : narrow .boolean (.int x) = .int x ∧ fits .boolean (.int x) = true) : mm_v l yX3_init wsX3_init ({ frames := 1, cells := 0, slots := 0, locals := 12 } : Room) G ([.ref O, .int x, .int (nI cl), .int (nI nu), .int (nI fi), .ref y] : List Value) M sz (fun M' => M' O = some (ob 4 [.int x, .int (nI cl), .int (nI nu), .int (nI fi), .ref y]) ∧ mm_fr [O] M M') := by
  refine mm_enter (cc := cX3_init) (maxL := 6) (ret := none) _ (by decide) rfl (Nat.le_of_ble_eq_true rfl) ?_
  intro p0 e0 s m0 be0 me0 c0 ls S hr hlocks hname hA hC hR hl
  have hx := S.1
  have hb := S.2.1
  have hl : lv_has ls 6 [(0, .ref O), (1, .int x), (2, .int (nI cl)), (3, .int (nI nu)), (4, .int (nI fi)), (5, .ref y)] := hl
  have hin : me0.name = "<init>" := hname
  have inRX3 : ∀ w ∈ wsX30, w ∈ wsX3_init := by decide +kernel
  have hF : mm_fr [O] M M := mm_fr.rf
  refine lv_aload_n hx hb dX3_init_0 rfl (lv_at hl 0 rfl) ?_
  refine W.objInit hx hb S.2.2.2.1 (S.2.2.2.2 (.methodLink RX3 1 objectInit) (by decide +kernel)) (S.2.2.2.2 (.instanceMethod objectInit) (by decide +kernel)) (S.2.2.2.2 (.code objectInit ⟨#[0xb1]⟩ 1 none) (by decide +kernel)) rfl (by rw [S.2.2.1]; exact hl.1) rfl dX3_init_1 (Nat.le_of_ble_eq_true rfl) (Nat.le_of_ble_eq_true rfl) ?_
  refine W.eq (g2 := F0 m0 4 ls []) rfl ?_
  refine lv_aload_n hx hb dX3_init_4 rfl (lv_at hl 0 rfl) ?_
  refine lv_iload_n hx hb dX3_init_5 rfl (lv_at hl 1 rfl) ?_
  refine mm_putF S hC hR (C := RX3) (T := TX3) (N := 5) (ref := "ForkWatch$Operation") 0 h1 inRX3 rfl tyX3_ok nmX3 (by decide) (by decide +kernel) (fun _ h9 => h9) rfl hin rfl hz.1 hz.2 (Nat.le_of_ble_eq_true rfl) dX3_init_6 (fun H locs M34 g36 f35 hR => ?_)
  have h1 : M34 O = some (ob 4 [.int x, .int (nI 0), .int (nI 0), .int (nI 0), .null]) := g36
  have hF := hF.tr f35 (mm_ic 0 rfl mm_i0)
  refine lv_aload_n hx hb dX3_init_9 rfl (lv_at hl 0 rfl) ?_
  refine lv_iload_n hx hb dX3_init_10 rfl (lv_at hl 2 rfl) ?_
  refine mm_putF S hC hR (C := RX3) (T := TX3) (N := 5) (ref := "ForkWatch$Operation") 1 h1 inRX3 rfl tyX3_ok nmX3 (by decide) (by decide +kernel) (fun _ h9 => h9) rfl hin rfl rfl rfl (Nat.le_of_ble_eq_true rfl) dX3_init_11 (fun H locs M37 g39 f38 hR => ?_)
  have h1 : M37 O = some (ob 4 [.int x, .int (nI cl), .int (nI 0), .int (nI 0), .null]) := g39
  have hF := hF.tr f38 (mm_ic 0 rfl mm_i0)
  refine lv_aload_n hx hb dX3_init_14 rfl (lv_at hl 0 rfl) ?_
  refine lv_iload_n hx hb dX3_init_15 rfl (lv_at hl 3 rfl) ?_
  refine mm_putF S hC hR (C := RX3) (T := TX3) (N := 5) (ref := "ForkWatch$Operation") 2 h1 inRX3 rfl tyX3_ok nmX3 (by decide) (by decide +kernel) (fun _ h9 => h9) rfl hin rfl rfl rfl (Nat.le_of_ble_eq_true rfl) dX3_init_16 (fun H locs M40 g42 f41 hR => ?_)
  have h1 : M40 O = some (ob 4 [.int x, .int (nI cl), .int (nI nu), .int (nI 0), .null]) := g42
  have hF := hF.tr f41 (mm_ic 0 rfl mm_i0)
  refine lv_aload_n hx hb dX3_init_19 rfl (lv_at hl 0 rfl) ?_
  refine lv_iload hx hb dX3_init_20 (lv_at hl 4 rfl) ?_
  refine mm_putF S hC hR (C := RX3) (T := TX3) (N := 5) (ref := "ForkWatch$Operation") 3 h1 inRX3 rfl tyX3_ok nmX3 (by decide) (by decide +kernel) (fun _ h9 => h9) rfl hin rfl rfl rfl (Nat.le_of_ble_eq_true rfl) dX3_init_22 (fun H locs M43 g45 f44 hR => ?_)
  have h1 : M43 O = some (ob 4 [.int x, .int (nI cl), .int (nI nu), .int (nI fi), .null]) := g45
  have hF := hF.tr f44 (mm_ic 0 rfl mm_i0)
  refine lv_aload_n hx hb dX3_init_25 rfl (lv_at hl 0 rfl) ?_
  refine lv_aload hx hb dX3_init_26 (lv_at hl 5 rfl) ?_
  refine mm_putF S hC hR (C := RX3) (T := TX3) (N := 5) (ref := "ForkWatch$Operation") 4 h1 inRX3 rfl tyX3_ok nmX3 (by decide) (by decide +kernel) (fun _ h9 => h9) rfl hin rfl rfl rfl (Nat.le_of_ble_eq_true rfl) dX3_init_28 (fun H locs M46 g48 f47 hR => ?_)
  have h1 : M46 O = some (ob 4 [.int x, .int (nI cl), .int (nI nu), .int (nI fi), .ref y]) := g48
  have hF := hF.tr f47 (mm_ic 0 rfl mm_i0)
  exact mm_vret S hr hlocks hR ⟨h1, hF⟩ dX3_init_31

set_option maxHeartbeats 4000000 in
set_option maxRecDepth 100000 in
/-- isCountedBy(statement) -/
theorem c_X3_isCountedBy (l : Launch) (G : mm_G) (M : mm_M) (sz : Nat) (O h b cl nu fi y : Nat) (x : Int32) (f : Nat → Int32) (h0 : M O = some (ob 4 [.int x, .int (nI cl), .int (nI nu), .int (nI fi), .ref y])) (h1 : M h = some (ob 6 [.ref b])) (h2 : M b = some (ia G 84 f)) (hcl : cl < 4) : mm_i l yX3_isCountedBy wsX3_isCountedBy ({ frames := 1, cells := 0, slots := 0, locals := 30 } : Room) G ([.ref O, .ref h] : List Value) M sz (fun r M' => bq r ((nI nu).toInt64 ≤ ct f cl) ∧ mm_fr [] M M') := by
  refine mm_enter (cc := cX3_isCountedBy) (maxL := 2) (ret := (some .boolean)) _ (by decide) rfl (Nat.le_of_ble_eq_true rfl) ?_
  intro p0 e0 s m0 be0 me0 c0 ls S hr hlocks hname hA hC hR hl
  have hx := S.1
  have hb := S.2.1
  have hl : lv_has ls 2 [(0, .ref O), (1, .ref h)] := hl
  have inRX3 : ∀ w ∈ wsX30, w ∈ wsX3_isCountedBy := by decide +kernel
  have inRX5 : ∀ w ∈ wsX50, w ∈ wsX3_isCountedBy := by decide +kernel
  have hF : mm_fr [] M M := mm_fr.rf
  refine lv_aload_n hx hb dX3_isCountedBy_0 rfl (lv_at hl 0 rfl) ?_
  refine mm_get S hC hR (C := RX3) (T := TX3) (N := 5) (ref := "ForkWatch$Operation") (v := .int (nI nu)) 2 h0 inRX3 rfl (by decide) (by decide +kernel) (fun _ h9 => h9) rfl dX3_isCountedBy_1 ?_
  refine lv_i2l hx hb dX3_isCountedBy_4 rfl ?_
  refine lv_aload_n hx hb dX3_isCountedBy_5 rfl (lv_at hl 1 rfl) ?_
  refine lv_aload_n hx hb dX3_isCountedBy_6 rfl (lv_at hl 0 rfl) ?_
  refine mm_get S hC hR (C := RX3) (T := TX3) (N := 5) (ref := "ForkWatch$Operation") (v := .int (nI cl)) 1 h0 inRX3 rfl (by decide) (by decide +kernel) (fun _ h9 => h9) rfl dX3_isCountedBy_7 ?_
  refine mm_calll hA hR (va_runV (As := [.int (nI cl)]) (rest := [.long ((nI nu).toInt64)]) S (c_X5_countOf l G M _ h b cl f h1 h2 hcl) (cwV 1 S.2.2.2.2 gX3_isCountedBy_X5_countOf rfl rfl rfl (by decide +kernel) ⟨Nat.le_of_ble_eq_true rfl, Nat.le_of_ble_eq_true rfl⟩) (mm_preV hC hA hR _ h1 rfl) rfl rfl hl.1 rfl (lv_room (Nat.le_of_ble_eq_true rfl)) dX3_isCountedBy_10 ⟨Nat.le_of_ble_eq_true rfl, Nat.le_of_ble_eq_true rfl⟩) (fun r49 M50 H locs hp hR => ?_)
  obtain ⟨e1, ff⟩ := hp
  subst e1
  have h0 := ff.at h0 mm_n0
  have h1 := ff.at h1 mm_n0
  have h2 := ff.at h2 mm_n0
  have hF := hF.tr ff mm_i0
  refine W.lcmp hx hb dX3_isCountedBy_13 ?_
  refine lv_if_gt (tgt := 21) hx hb dX3_isCountedBy_14 (by decide) (fun c1 => ?_) (fun c1 => ?_)
  · skip
    have c1 := (lg_cmp_gt _ _).mp c1
    refine lv_iconst (v := nI 0) hx hb dX3_isCountedBy_21 (by decide) ?_
    exact mm_zret S hr hlocks (by decide) hR ⟨Or.inr ⟨rfl, fun z => absurd z (Int64.not_le.mpr c1)⟩, hF⟩ dX3_isCountedBy_22
  · skip
    have c1 : (nI nu).toInt64 ≤ ct f cl := Int64.not_lt.mp (fun z => c1 ((lg_cmp_gt _ _).mpr z))
    refine lv_iconst (v := nI 1) hx hb dX3_isCountedBy_17 (by decide) ?_
    refine lv_goto (tgt := 22) hx hb dX3_isCountedBy_18 (by decide) ?_
    exact mm_zret S hr hlocks (by decide) hR ⟨Or.inl ⟨rfl, c1⟩, hF⟩ dX3_isCountedBy_22
end
