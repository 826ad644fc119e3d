section
/-- a private method of a class that the tables say can be made, by its rows of tables_1 -/
def lw_okq (q : MethodName × Nat) : Prop := (q.1.cls ≠ "java/lang/invoke/MethodHandle" ∧ q.1.cls ≠ "java/lang/invoke/VarHandle") ∧ Cond.instantiable q.1.cls q.2 ∈ tables_1 ∧ Cond.privateMethod q.1 ∈ tables_1 ∧ Cond.instanceMethod q.1 ∈ tables_1
theorem lw_p0 : lw_okq (⟨"FencedStandbys", "changed", "(I)I"⟩, 6) := ⟨⟨by decide +kernel, by decide +kernel⟩, List.mem_of_getElem? (i := 16) (by decide +kernel), List.mem_of_getElem? (i := 267) (by decide +kernel), List.mem_of_getElem? (i := 268) (by decide +kernel)⟩
theorem lw_p1 : lw_okq (⟨"FencedStandbys", "keysNotAsAtEnd", "(I)I"⟩, 6) := ⟨⟨by decide +kernel, by decide +kernel⟩, List.mem_of_getElem? (i := 16) (by decide +kernel), List.mem_of_getElem? (i := 510) (by decide +kernel), List.mem_of_getElem? (i := 511) (by decide +kernel)⟩
theorem lw_p2 : lw_okq (⟨"FencedStandbysModel", "changes", "()V"⟩, 14) := ⟨⟨by decide +kernel, by decide +kernel⟩, List.mem_of_getElem? (i := 695) (by decide +kernel), List.mem_of_getElem? (i := 756) (by decide +kernel), List.mem_of_getElem? (i := 757) (by decide +kernel)⟩
theorem lw_p3 : lw_okq (⟨"FencedStandbysModel", "bar", "(I)I"⟩, 14) := ⟨⟨by decide +kernel, by decide +kernel⟩, List.mem_of_getElem? (i := 695) (by decide +kernel), List.mem_of_getElem? (i := 767) (by decide +kernel), List.mem_of_getElem? (i := 768) (by decide +kernel)⟩
theorem lw_p4 : lw_okq (⟨"FencedStandbysModel", "writes", "(IIII)I"⟩, 14) := ⟨⟨by decide +kernel, by decide +kernel⟩, List.mem_of_getElem? (i := 695) (by decide +kernel), List.mem_of_getElem? (i := 772) (by decide +kernel), List.mem_of_getElem? (i := 773) (by decide +kernel)⟩
theorem lw_p5 : lw_okq (⟨"FencedStandbysModel", "ofStandby", "(II)I"⟩, 14) := ⟨⟨by decide +kernel, by decide +kernel⟩, List.mem_of_getElem? (i := 695) (by decide +kernel), List.mem_of_getElem? (i := 792) (by decide +kernel), List.mem_of_getElem? (i := 793) (by decide +kernel)⟩
theorem lw_p6 : lw_okq (⟨"FencedStandbysModel", "isGap", "(II)Z"⟩, 14) := ⟨⟨by decide +kernel, by decide +kernel⟩, List.mem_of_getElem? (i := 695) (by decide +kernel), List.mem_of_getElem? (i := 800) (by decide +kernel), List.mem_of_getElem? (i := 801) (by decide +kernel)⟩
theorem lw_p7 : lw_okq (⟨"FencedStandbysModel", "gaps", "(I)I"⟩, 14) := ⟨⟨by decide +kernel, by decide +kernel⟩, List.mem_of_getElem? (i := 695) (by decide +kernel), List.mem_of_getElem? (i := 804) (by decide +kernel), List.mem_of_getElem? (i := 805) (by decide +kernel)⟩
theorem lw_p8 : lw_okq (⟨"FencedStandbysModel", "fillsGaps", "(II)V"⟩, 14) := ⟨⟨by decide +kernel, by decide +kernel⟩, List.mem_of_getElem? (i := 695) (by decide +kernel), List.mem_of_getElem? (i := 812) (by decide +kernel), List.mem_of_getElem? (i := 813) (by decide +kernel)⟩
theorem lw_p9 : lw_okq (⟨"FencedStandbysModel", "goes", "(IIII)I"⟩, 14) := ⟨⟨by decide +kernel, by decide +kernel⟩, List.mem_of_getElem? (i := 695) (by decide +kernel), List.mem_of_getElem? (i := 820) (by decide +kernel), List.mem_of_getElem? (i := 821) (by decide +kernel)⟩
theorem lw_p10 : lw_okq (⟨"FencedStandbysModel", "ofRecord", "(II)I"⟩, 14) := ⟨⟨by decide +kernel, by decide +kernel⟩, List.mem_of_getElem? (i := 695) (by decide +kernel), List.mem_of_getElem? (i := 824) (by decide +kernel), List.mem_of_getElem? (i := 825) (by decide +kernel)⟩
theorem lw_p11 : lw_okq (⟨"FencedStandbysModel", "wouldBeLost", "(I)I"⟩, 14) := ⟨⟨by decide +kernel, by decide +kernel⟩, List.mem_of_getElem? (i := 695) (by decide +kernel), List.mem_of_getElem? (i := 832) (by decide +kernel), List.mem_of_getElem? (i := 833) (by decide +kernel)⟩
theorem lw_p12 : lw_okq (⟨"FencedStandbysModel", "commits", "(II)I"⟩, 14) := ⟨⟨by decide +kernel, by decide +kernel⟩, List.mem_of_getElem? (i := 695) (by decide +kernel), List.mem_of_getElem? (i := 836) (by decide +kernel), List.mem_of_getElem? (i := 837) (by decide +kernel)⟩
theorem lw_p13 : lw_okq (⟨"FencedStandbysModel", "lays", "(III)V"⟩, 14) := ⟨⟨by decide +kernel, by decide +kernel⟩, List.mem_of_getElem? (i := 695) (by decide +kernel), List.mem_of_getElem? (i := 840) (by decide +kernel), List.mem_of_getElem? (i := 841) (by decide +kernel)⟩
theorem lw_p14 : lw_okq (⟨"FencedStandbysModel", "isFence", "(I)Z"⟩, 14) := ⟨⟨by decide +kernel, by decide +kernel⟩, List.mem_of_getElem? (i := 695) (by decide +kernel), List.mem_of_getElem? (i := 856) (by decide +kernel), List.mem_of_getElem? (i := 857) (by decide +kernel)⟩
theorem lw_p15 : lw_okq (⟨"FencedStandbysModel", "canServe", "(II)Z"⟩, 14) := ⟨⟨by decide +kernel, by decide +kernel⟩, List.mem_of_getElem? (i := 695) (by decide +kernel), List.mem_of_getElem? (i := 860) (by decide +kernel), List.mem_of_getElem? (i := 861) (by decide +kernel)⟩
def lw_privs_1 : List (MethodName × Nat) := [(⟨"FencedStandbys", "changed", "(I)I"⟩, 6), (⟨"FencedStandbys", "keysNotAsAtEnd", "(I)I"⟩, 6), (⟨"FencedStandbysModel", "changes", "()V"⟩, 14), (⟨"FencedStandbysModel", "bar", "(I)I"⟩, 14), (⟨"FencedStandbysModel", "writes", "(IIII)I"⟩, 14), (⟨"FencedStandbysModel", "ofStandby", "(II)I"⟩, 14), (⟨"FencedStandbysModel", "isGap", "(II)Z"⟩, 14), (⟨"FencedStandbysModel", "gaps", "(I)I"⟩, 14), (⟨"FencedStandbysModel", "fillsGaps", "(II)V"⟩, 14), (⟨"FencedStandbysModel", "goes", "(IIII)I"⟩, 14), (⟨"FencedStandbysModel", "ofRecord", "(II)I"⟩, 14), (⟨"FencedStandbysModel", "wouldBeLost", "(I)I"⟩, 14), (⟨"FencedStandbysModel", "commits", "(II)I"⟩, 14), (⟨"FencedStandbysModel", "lays", "(III)V"⟩, 14), (⟨"FencedStandbysModel", "isFence", "(I)Z"⟩, 14), (⟨"FencedStandbysModel", "canServe", "(II)Z"⟩, 14)]
theorem lw_r1 : ∀ q ∈ lw_privs_1, lw_okq q := List.forall_mem_cons.mpr ⟨lw_p0, List.forall_mem_cons.mpr ⟨lw_p1, List.forall_mem_cons.mpr ⟨lw_p2, List.forall_mem_cons.mpr ⟨lw_p3, List.forall_mem_cons.mpr ⟨lw_p4, List.forall_mem_cons.mpr ⟨lw_p5, List.forall_mem_cons.mpr ⟨lw_p6, List.forall_mem_cons.mpr ⟨lw_p7, List.forall_mem_cons.mpr ⟨lw_p8, List.forall_mem_cons.mpr ⟨lw_p9, List.forall_mem_cons.mpr ⟨lw_p10, List.forall_mem_cons.mpr ⟨lw_p11, List.forall_mem_cons.mpr ⟨lw_p12, List.forall_mem_cons.mpr ⟨lw_p13, List.forall_mem_cons.mpr ⟨lw_p14, List.forall_mem_cons.mpr ⟨lw_p15, fun _ h => absurd h List.not_mem_nil⟩⟩⟩⟩⟩⟩⟩⟩⟩⟩⟩⟩⟩⟩⟩⟩
theorem lw_p16 : lw_okq (⟨"FencedStandbysModel", "valueAt", "(II)I"⟩, 14) := ⟨⟨by decide +kernel, by decide +kernel⟩, List.mem_of_getElem? (i := 695) (by decide +kernel), List.mem_of_getElem? (i := 864) (by decide +kernel), List.mem_of_getElem? (i := 865) (by decide +kernel)⟩
theorem lw_p17 : lw_okq (⟨"FencedStandbysModel", "lastCommit", "(II)I"⟩, 14) := ⟨⟨by decide +kernel, by decide +kernel⟩, List.mem_of_getElem? (i := 695) (by decide +kernel), List.mem_of_getElem? (i := 868) (by decide +kernel), List.mem_of_getElem? (i := 869) (by decide +kernel)⟩
theorem lw_p18 : lw_okq (⟨"FencedStandbysModel", "lastPut", "(II)I"⟩, 14) := ⟨⟨by decide +kernel, by decide +kernel⟩, List.mem_of_getElem? (i := 695) (by decide +kernel), List.mem_of_getElem? (i := 872) (by decide +kernel), List.mem_of_getElem? (i := 873) (by decide +kernel)⟩
theorem lw_p19 : lw_okq (⟨"FencedStandbysModel", "lowestGap", "(I)I"⟩, 14) := ⟨⟨by decide +kernel, by decide +kernel⟩, List.mem_of_getElem? (i := 695) (by decide +kernel), List.mem_of_getElem? (i := 896) (by decide +kernel), List.mem_of_getElem? (i := 897) (by decide +kernel)⟩
theorem lw_p20 : lw_okq (⟨"FencedStandbysModel", "unlike", "(I)I"⟩, 14) := ⟨⟨by decide +kernel, by decide +kernel⟩, List.mem_of_getElem? (i := 695) (by decide +kernel), List.mem_of_getElem? (i := 900) (by decide +kernel), List.mem_of_getElem? (i := 901) (by decide +kernel)⟩
theorem lw_p21 : lw_okq (⟨"FencedStandbysModel", "until", "(IIII)I"⟩, 14) := ⟨⟨by decide +kernel, by decide +kernel⟩, List.mem_of_getElem? (i := 695) (by decide +kernel), List.mem_of_getElem? (i := 912) (by decide +kernel), List.mem_of_getElem? (i := 913) (by decide +kernel)⟩
theorem lw_p22 : lw_okq (⟨"FencedStandbysModel", "plays", "()Z"⟩, 14) := ⟨⟨by decide +kernel, by decide +kernel⟩, List.mem_of_getElem? (i := 695) (by decide +kernel), List.mem_of_getElem? (i := 947) (by decide +kernel), List.mem_of_getElem? (i := 948) (by decide +kernel)⟩
theorem lw_p23 : lw_okq (⟨"FencedStandbysModel", "reads", "()Z"⟩, 14) := ⟨⟨by decide +kernel, by decide +kernel⟩, List.mem_of_getElem? (i := 695) (by decide +kernel), List.mem_of_getElem? (i := 951) (by decide +kernel), List.mem_of_getElem? (i := 952) (by decide +kernel)⟩
theorem lw_p24 : lw_okq (⟨"FencedStandbysModel", "isAt", "(II)Z"⟩, 14) := ⟨⟨by decide +kernel, by decide +kernel⟩, List.mem_of_getElem? (i := 695) (by decide +kernel), List.mem_of_getElem? (i := 955) (by decide +kernel), List.mem_of_getElem? (i := 956) (by decide +kernel)⟩
theorem lw_p25 : lw_okq (⟨"FencedStandbysModel", "number", "(I)Z"⟩, 14) := ⟨⟨by decide +kernel, by decide +kernel⟩, List.mem_of_getElem? (i := 695) (by decide +kernel), List.mem_of_getElem? (i := 959) (by decide +kernel), List.mem_of_getElem? (i := 960) (by decide +kernel)⟩
theorem lw_p26 : lw_okq (⟨"FencedStandbysModel", "sign", "(I)Z"⟩, 14) := ⟨⟨by decide +kernel, by decide +kernel⟩, List.mem_of_getElem? (i := 695) (by decide +kernel), List.mem_of_getElem? (i := 963) (by decide +kernel), List.mem_of_getElem? (i := 964) (by decide +kernel)⟩
theorem lw_p27 : lw_okq (⟨"FencedStandbysModel", "calls", "()I"⟩, 14) := ⟨⟨by decide +kernel, by decide +kernel⟩, List.mem_of_getElem? (i := 695) (by decide +kernel), List.mem_of_getElem? (i := 967) (by decide +kernel), List.mem_of_getElem? (i := 968) (by decide +kernel)⟩
def lw_privs_2 : List (MethodName × Nat) := [(⟨"FencedStandbysModel", "valueAt", "(II)I"⟩, 14), (⟨"FencedStandbysModel", "lastCommit", "(II)I"⟩, 14), (⟨"FencedStandbysModel", "lastPut", "(II)I"⟩, 14), (⟨"FencedStandbysModel", "lowestGap", "(I)I"⟩, 14), (⟨"FencedStandbysModel", "unlike", "(I)I"⟩, 14), (⟨"FencedStandbysModel", "until", "(IIII)I"⟩, 14), (⟨"FencedStandbysModel", "plays", "()Z"⟩, 14), (⟨"FencedStandbysModel", "reads", "()Z"⟩, 14), (⟨"FencedStandbysModel", "isAt", "(II)Z"⟩, 14), (⟨"FencedStandbysModel", "number", "(I)Z"⟩, 14), (⟨"FencedStandbysModel", "sign", "(I)Z"⟩, 14), (⟨"FencedStandbysModel", "calls", "()I"⟩, 14)]
theorem lw_r2 : ∀ q ∈ lw_privs_2, lw_okq q := List.forall_mem_cons.mpr ⟨lw_p16, List.forall_mem_cons.mpr ⟨lw_p17, List.forall_mem_cons.mpr ⟨lw_p18, List.forall_mem_cons.mpr ⟨lw_p19, List.forall_mem_cons.mpr ⟨lw_p20, List.forall_mem_cons.mpr ⟨lw_p21, List.forall_mem_cons.mpr ⟨lw_p22, List.forall_mem_cons.mpr ⟨lw_p23, List.forall_mem_cons.mpr ⟨lw_p24, List.forall_mem_cons.mpr ⟨lw_p25, List.forall_mem_cons.mpr ⟨lw_p26, List.forall_mem_cons.mpr ⟨lw_p27, fun _ h => absurd h List.not_mem_nil⟩⟩⟩⟩⟩⟩⟩⟩⟩⟩⟩⟩
def lw_privs : List (MethodName × Nat) := lw_privs_1 ++ (lw_privs_2)
def lw_tbl : List Cond := k2_sels lw_privs ++ tables_1
theorem lw_privs_ok : ∀ q ∈ lw_privs, lw_okq q := by
  show ∀ q ∈ lw_privs_1 ++ (lw_privs_2), lw_okq q
  exact List.forall_mem_append.mpr ⟨lw_r1, lw_r2⟩
end
section
/-! ===== BEGIN words of one list among another's, by their places ===== -/
theorem goodIn_r {big : List Cond} (ws : List Cond) (ps : List Nat) (hp : ws = ps.filterMap (fun i => big[i]?)) (h : ws.all goodWord = true) : GoodIn big ws := by
  intro w hw
  have h1 := List.all_eq_true.mp h w hw
  rw [hp] at hw
  obtain ⟨i, -, hi⟩ := List.mem_filterMap.mp hw
  have hm : w ∈ big := by first | exact List.mem_of_getElem? hi | exact List.getElem?_mem hi
  exact ⟨hm, good_of_word h1⟩
theorem goodIn_app {big a b : List Cond} (ha : GoodIn big a) (hb : GoodIn big b) : GoodIn big (a ++ b) := fun w h => (List.mem_append.mp h).elim (ha w) (hb w)
theorem goodIn_ca {big a b : List Cond} {c : Cond} (ha : GoodIn big (c :: a)) (hb : GoodIn big b) : GoodIn big (c :: (a ++ b)) := fun w h => (List.mem_cons.mp h).elim (fun e => ha w (List.mem_cons.mpr (Or.inl e))) (fun h => (List.mem_append.mp h).elim (fun h => ha w (List.mem_cons.mpr (Or.inr h))) (hb w))
theorem goodIn_sub {big ws : List Cond} (hm : ∀ w ∈ ws, w ∈ big) (h : ws.all goodWord = true) : GoodIn big ws := fun w hw => ⟨hm w hw, good_of_word (List.all_eq_true.mp h w hw)⟩
/-! ===== END ===== -/

/-! ===== BEGIN printed: names, fields, word lists, decode rows ===== -/
def RX0 : String := "FencedStandbys$History"
def TX0 : u_T := fun k => match k with
  | 0 => ("FencedStandbys$History", "states", "[LFencedStandbys$Store;", true)
  | _ => ("FencedStandbys$History", "size", "I", false)
def tyX0 : Nat → FieldType := fun k => match k with
  | 0 => .array (.object "FencedStandbys$Store")
  | _ => .int
abbrev wsX00 : List Cond := u_ws RX0 TX0 2
theorem nmX0 : ∀ a, a < 2 → ∀ b, b < 2 → a ≠ b → (TX0 a).2.1 ≠ (TX0 b).2.1 := by decide +kernel
theorem tyX0_ok : ∀ k, k < 2 → parseFieldDescriptor (TX0 k).2.2.1 = some (tyX0 k) := by decide +kernel
abbrev cX0_init : ByteArray := prog_2_method_1_code
def yX0_init : MethodName := ⟨RX0, "<init>", "()V"⟩
abbrev cX0_prepare : ByteArray := prog_2_method_2_code
def yX0_prepare : MethodName := ⟨RX0, "prepare", "(LFencedStandbys$Store;)V"⟩
abbrev cX0_keep : ByteArray := prog_2_method_3_code
def yX0_keep : MethodName := ⟨RX0, "keep", "()V"⟩
abbrev cX0_restore : ByteArray := prog_2_method_4_code
def yX0_restore : MethodName := ⟨RX0, "restore", "(LFencedStandbys$Store;)Z"⟩
def RX1 : String := "FencedStandbys$Log"
def TX1 : u_T := fun k => match k with
  | 0 => ("FencedStandbys$Log", "size", "I", false)
  | 1 => ("FencedStandbys$Log", "kinds", "[I", true)
  | 2 => ("FencedStandbys$Log", "transactions", "[I", true)
  | 3 => ("FencedStandbys$Log", "keys", "[I", true)
  | 4 => ("FencedStandbys$Log", "values", "[I", true)
  | _ => ("FencedStandbys$Log", "ticks", "[I", true)
def tyX1 : Nat → FieldType := fun k => match k with
  | 0 => .int
  | 1 => .array .int
  | 2 => .array .int
  | 3 => .array .int
  | 4 => .array .int
  | _ => .array .int
abbrev wsX10 : List Cond := u_ws RX1 TX1 6
theorem nmX1 : ∀ a, a < 6 → ∀ b, b < 6 → a ≠ b → (TX1 a).2.1 ≠ (TX1 b).2.1 := by decide +kernel
theorem tyX1_ok : ∀ k, k < 6 → parseFieldDescriptor (TX1 k).2.2.1 = some (tyX1 k) := by decide +kernel
abbrev cX1_init : ByteArray := prog_3_method_1_code
def yX1_init : MethodName := ⟨RX1, "<init>", "()V"⟩
abbrev cX1_has : ByteArray := prog_3_method_2_code
def yX1_has : MethodName := ⟨RX1, "has", "(I)Z"⟩
abbrev cX1_kindOf : ByteArray := prog_3_method_3_code
def yX1_kindOf : MethodName := ⟨RX1, "kindOf", "(I)I"⟩
abbrev cX1_transactionOf : ByteArray := prog_3_method_4_code
def yX1_transactionOf : MethodName := ⟨RX1, "transactionOf", "(I)I"⟩
abbrev cX1_keyOf : ByteArray := prog_3_method_5_code
def yX1_keyOf : MethodName := ⟨RX1, "keyOf", "(I)I"⟩
abbrev cX1_valueIn : ByteArray := prog_3_method_6_code
def yX1_valueIn : MethodName := ⟨RX1, "valueIn", "(I)I"⟩
abbrev cX1_tickOf : ByteArray := prog_3_method_7_code
def yX1_tickOf : MethodName := ⟨RX1, "tickOf", "(I)I"⟩
abbrev cX1_append : ByteArray := prog_3_method_8_code
def yX1_append : MethodName := ⟨RX1, "append", "(IIIII)I"⟩
abbrev cX1_commitsBehind : ByteArray := prog_3_method_9_code
def yX1_commitsBehind : MethodName := ⟨RX1, "commitsBehind", "(I)I"⟩
abbrev cX1_putsOf : ByteArray := prog_3_method_10_code
def yX1_putsOf : MethodName := ⟨RX1, "putsOf", "(I)I"⟩
abbrev cX1_isPutOf : ByteArray := prog_3_method_11_code
def yX1_isPutOf : MethodName := ⟨RX1, "isPutOf", "(II)Z"⟩
abbrev cX1_lastPut : ByteArray := prog_3_method_12_code
def yX1_lastPut : MethodName := ⟨RX1, "lastPut", "(III)I"⟩
abbrev cX1_lastCommit : ByteArray := prog_3_method_13_code
def yX1_lastCommit : MethodName := ⟨RX1, "lastCommit", "(II)I"⟩
abbrev cX1_valueAt : ByteArray := prog_3_method_14_code
def yX1_valueAt : MethodName := ⟨RX1, "valueAt", "(II)I"⟩
abbrev cX1_fillValues : ByteArray := prog_3_method_15_code
def yX1_fillValues : MethodName := ⟨RX1, "fillValues", "(I[I)V"⟩
abbrev cX1_applyPuts : ByteArray := prog_3_method_16_code
def yX1_applyPuts : MethodName := ⟨RX1, "applyPuts", "(II[I)V"⟩
abbrev cX1_setValue : ByteArray := prog_3_method_17_code
def yX1_setValue : MethodName := ⟨RX1, "setValue", "([III)V"⟩
abbrev cX1_copyFrom : ByteArray := prog_3_method_18_code
def yX1_copyFrom : MethodName := ⟨RX1, "copyFrom", "(LFencedStandbys$Log;)V"⟩
def RX2 : String := "FencedStandbys$OrderText"
def TX2 : u_T := fun k => match k with
  | 0 => ("FencedStandbys$OrderText", "characters", "[C", true)
  | 1 => ("FencedStandbys$OrderText", "length", "I", false)
  | 2 => ("FencedStandbys$OrderText", "at", "I", false)
  | 3 => ("FencedStandbys$OrderText", "kind", "I", false)
  | 4 => ("FencedStandbys$OrderText", "numbers", "[I", true)
  | _ => ("FencedStandbys$OrderText", "numbersRead", "I", false)
def tyX2 : Nat → FieldType := fun k => match k with
  | 0 => .array .char
  | 1 => .int
  | 2 => .int
  | 3 => .int
  | 4 => .array .int
  | _ => .int
abbrev wsX20 : List Cond := u_ws RX2 TX2 6
theorem nmX2 : ∀ a, a < 6 → ∀ b, b < 6 → a ≠ b → (TX2 a).2.1 ≠ (TX2 b).2.1 := by decide +kernel
theorem tyX2_ok : ∀ k, k < 6 → parseFieldDescriptor (TX2 k).2.2.1 = some (tyX2 k) := by decide +kernel
abbrev cX2_init : ByteArray := prog_4_method_1_code
def yX2_init : MethodName := ⟨RX2, "<init>", "()V"⟩
abbrev cX2_append : ByteArray := prog_4_method_2_code
def yX2_append : MethodName := ⟨RX2, "append", "(C)Z"⟩
abbrev cX2_characterAt : ByteArray := prog_4_method_3_code
def yX2_characterAt : MethodName := ⟨RX2, "characterAt", "(I)C"⟩
abbrev cX2_number : ByteArray := prog_4_method_4_code
def yX2_number : MethodName := ⟨RX2, "number", "(I)I"⟩
abbrev cX2_readOrder : ByteArray := prog_4_method_5_code
def yX2_readOrder : MethodName := ⟨RX2, "readOrder", "(I)Z"⟩
abbrev cX2_formBehind : ByteArray := prog_4_method_6_code
def yX2_formBehind : MethodName := ⟨RX2, "formBehind", "(I)Ljava/lang/String;"⟩
abbrev cX2_readPart : ByteArray := prog_4_method_7_code
def yX2_readPart : MethodName := ⟨RX2, "readPart", "(C)Z"⟩
abbrev cX2_readNumber : ByteArray := prog_4_method_8_code
def yX2_readNumber : MethodName := ⟨RX2, "readNumber", "()Z"⟩
abbrev cX2_isDigit : ByteArray := prog_4_method_9_code
def yX2_isDigit : MethodName := ⟨RX2, "isDigit", "(C)Z"⟩
def RX3 : String := "FencedStandbys$Standby"
def TX3 : u_T := fun k => match k with
  | 0 => ("FencedStandbys$Standby", "received", "I", false)
  | 1 => ("FencedStandbys$Standby", "applied", "I", false)
  | 2 => ("FencedStandbys$Standby", "astray", "Z", false)
  | _ => ("FencedStandbys$Standby", "gaps", "[Z", true)
def tyX3 : Nat → FieldType := fun k => match k with
  | 0 => .int
  | 1 => .int
  | 2 => .boolean
  | _ => .array .boolean
abbrev wsX30 : List Cond := u_ws RX3 TX3 4
theorem nmX3 : ∀ a, a < 4 → ∀ b, b < 4 → a ≠ b → (TX3 a).2.1 ≠ (TX3 b).2.1 := by decide +kernel
theorem tyX3_ok : ∀ k, k < 4 → parseFieldDescriptor (TX3 k).2.2.1 = some (tyX3 k) := by decide +kernel
abbrev cX3_init : ByteArray := prog_5_method_1_code
def yX3_init : MethodName := ⟨RX3, "<init>", "()V"⟩
abbrev cX3_canServe : ByteArray := prog_5_method_2_code
def yX3_canServe : MethodName := ⟨RX3, "canServe", "(I)Z"⟩
abbrev cX3_isGap : ByteArray := prog_5_method_3_code
def yX3_isGap : MethodName := ⟨RX3, "isGap", "(I)Z"⟩
abbrev cX3_setGap : ByteArray := prog_5_method_4_code
def yX3_setGap : MethodName := ⟨RX3, "setGap", "(I)V"⟩
abbrev cX3_gapCount : ByteArray := prog_5_method_5_code
def yX3_gapCount : MethodName := ⟨RX3, "gapCount", "()I"⟩
abbrev cX3_lowestGap : ByteArray := prog_5_method_6_code
def yX3_lowestGap : MethodName := ⟨RX3, "lowestGap", "()I"⟩
abbrev cX3_reachable : ByteArray := prog_5_method_7_code
def yX3_reachable : MethodName := ⟨RX3, "reachable", "()I"⟩
abbrev cX3_dropGapsBehind : ByteArray := prog_5_method_8_code
def yX3_dropGapsBehind : MethodName := ⟨RX3, "dropGapsBehind", "(I)V"⟩
abbrev cX3_standAt : ByteArray := prog_5_method_9_code
def yX3_standAt : MethodName := ⟨RX3, "standAt", "(IZ)V"⟩
abbrev cX3_cutTo : ByteArray := prog_5_method_10_code
def yX3_cutTo : MethodName := ⟨RX3, "cutTo", "(I)V"⟩
abbrev cX3_copyFrom : ByteArray := prog_5_method_11_code
def yX3_copyFrom : MethodName := ⟨RX3, "copyFrom", "(LFencedStandbys$Standby;)V"⟩
def RX4 : String := "FencedStandbys$Store"
def TX4 : u_T := fun k => match k with
  | 0 => ("FencedStandbys$Store", "log", "LFencedStandbys$Log;", true)
  | 1 => ("FencedStandbys$Store", "first", "LFencedStandbys$Standby;", true)
  | 2 => ("FencedStandbys$Store", "second", "LFencedStandbys$Standby;", true)
  | 3 => ("FencedStandbys$Store", "slots", "[I", true)
  | 4 => ("FencedStandbys$Store", "tick", "I", false)
  | 5 => ("FencedStandbys$Store", "timeline", "I", false)
  | 6 => ("FencedStandbys$Store", "transactions", "I", false)
  | 7 => ("FencedStandbys$Store", "commitsLost", "I", false)
  | 8 => ("FencedStandbys$Store", "recordsLost", "I", false)
  | 9 => ("FencedStandbys$Store", "recordsApplied", "I", false)
  | 10 => ("FencedStandbys$Store", "rate", "I", false)
  | _ => ("FencedStandbys$Store", "delay", "I", false)
def tyX4 : Nat → FieldType := fun k => match k with
  | 0 => .object "FencedStandbys$Log"
  | 1 => .object "FencedStandbys$Standby"
  | 2 => .object "FencedStandbys$Standby"
  | 3 => .array .int
  | 4 => .int
  | 5 => .int
  | 6 => .int
  | 7 => .int
  | 8 => .int
  | 9 => .int
  | 10 => .int
  | _ => .int
abbrev wsX40 : List Cond := u_ws RX4 TX4 12
theorem nmX4 : ∀ a, a < 12 → ∀ b, b < 12 → a ≠ b → (TX4 a).2.1 ≠ (TX4 b).2.1 := by decide +kernel
theorem tyX4_ok : ∀ k, k < 12 → parseFieldDescriptor (TX4 k).2.2.1 = some (tyX4 k) := by decide +kernel
abbrev cX4_init : ByteArray := prog_6_method_1_code
def yX4_init : MethodName := ⟨RX4, "<init>", "()V"⟩
abbrev cX4_standby : ByteArray := prog_6_method_2_code
def yX4_standby : MethodName := ⟨RX4, "standby", "(I)LFencedStandbys$Standby;"⟩
abbrev cX4_isPosition : ByteArray := prog_6_method_3_code
def yX4_isPosition : MethodName := ⟨RX4, "isPosition", "(I)Z"⟩
abbrev cX4_transactionIn : ByteArray := prog_6_method_4_code
def yX4_transactionIn : MethodName := ⟨RX4, "transactionIn", "(I)I"⟩
abbrev cX4_openIn : ByteArray := prog_6_method_5_code
def yX4_openIn : MethodName := ⟨RX4, "openIn", "(I)I"⟩
abbrev cX4_putBy : ByteArray := prog_6_method_6_code
def yX4_putBy : MethodName := ⟨RX4, "putBy", "(III)I"⟩
abbrev cX4_endIn : ByteArray := prog_6_method_7_code
def yX4_endIn : MethodName := ⟨RX4, "endIn", "(II)I"⟩
abbrev cX4_write : ByteArray := prog_6_method_8_code
def yX4_write : MethodName := ⟨RX4, "write", "(IIII)I"⟩
abbrev cX4_shipTo : ByteArray := prog_6_method_9_code
def yX4_shipTo : MethodName := ⟨RX4, "shipTo", "(II)I"⟩
abbrev cX4_loseFor : ByteArray := prog_6_method_10_code
def yX4_loseFor : MethodName := ⟨RX4, "loseFor", "(II)I"⟩
abbrev cX4_resendTo : ByteArray := prog_6_method_11_code
def yX4_resendTo : MethodName := ⟨RX4, "resendTo", "(I)I"⟩
abbrev cX4_pass : ByteArray := prog_6_method_12_code
def yX4_pass : MethodName := ⟨RX4, "pass", "(I)I"⟩
abbrev cX4_appliedAfter : ByteArray := prog_6_method_13_code
def yX4_appliedAfter : MethodName := ⟨RX4, "appliedAfter", "(LFencedStandbys$Standby;III)I"⟩
abbrev cX4_ticksUntil : ByteArray := prog_6_method_14_code
def yX4_ticksUntil : MethodName := ⟨RX4, "ticksUntil", "(LFencedStandbys$Standby;I)I"⟩
abbrev cX4_leastRate : ByteArray := prog_6_method_15_code
def yX4_leastRate : MethodName := ⟨RX4, "leastRate", "(LFencedStandbys$Standby;I)I"⟩
abbrev cX4_comesTo : ByteArray := prog_6_method_16_code
def yX4_comesTo : MethodName := ⟨RX4, "comesTo", "(LFencedStandbys$Standby;III)Z"⟩
abbrev cX4_promoteTo : ByteArray := prog_6_method_17_code
def yX4_promoteTo : MethodName := ⟨RX4, "promoteTo", "(I)I"⟩
abbrev cX4_rebuildOf : ByteArray := prog_6_method_18_code
def yX4_rebuildOf : MethodName := ⟨RX4, "rebuildOf", "(I)I"⟩
abbrev cX4_setTo : ByteArray := prog_6_method_19_code
def yX4_setTo : MethodName := ⟨RX4, "setTo", "(II)I"⟩
abbrev cX4_copyFrom : ByteArray := prog_6_method_20_code
def yX4_copyFrom : MethodName := ⟨RX4, "copyFrom", "(LFencedStandbys$Store;)V"⟩
def RX5 : String := "FencedStandbys$Trial"
def TX5 : u_T := fun k => match k with
  | 0 => ("FencedStandbys$Trial", "store", "LFencedStandbys$Store;", true)
  | 1 => ("FencedStandbys$Trial", "orders", "I", false)
  | 2 => ("FencedStandbys$Trial", "position", "I", false)
  | 3 => ("FencedStandbys$Trial", "reason", "I", false)
  | _ => ("FencedStandbys$Trial", "cause", "I", false)
def tyX5 : Nat → FieldType := fun k => match k with
  | 0 => .object "FencedStandbys$Store"
  | 1 => .int
  | 2 => .int
  | 3 => .int
  | _ => .int
abbrev wsX50 : List Cond := u_ws RX5 TX5 5
theorem nmX5 : ∀ a, a < 5 → ∀ b, b < 5 → a ≠ b → (TX5 a).2.1 ≠ (TX5 b).2.1 := by decide +kernel
theorem tyX5_ok : ∀ k, k < 5 → parseFieldDescriptor (TX5 k).2.2.1 = some (tyX5 k) := by decide +kernel
abbrev cX5_init : ByteArray := prog_7_method_1_code
def yX5_init : MethodName := ⟨RX5, "<init>", "()V"⟩
abbrev cX5_run : ByteArray := prog_7_method_2_code
def yX5_run : MethodName := ⟨RX5, "run", "(LFencedStandbys$OrderText;LFencedStandbys$Store;)V"⟩
abbrev cX5_doOrder : ByteArray := prog_7_method_3_code
def yX5_doOrder : MethodName := ⟨RX5, "doOrder", "(LFencedStandbys$OrderText;)I"⟩
def RX6 : String := "FencedStandbys"
def TX6 : u_T := fun k => match k with
  | 0 => ("FencedStandbys", "store", "LFencedStandbys$Store;", true)
  | 1 => ("FencedStandbys", "history", "LFencedStandbys$History;", true)
  | 2 => ("FencedStandbys", "text", "LFencedStandbys$OrderText;", true)
  | 3 => ("FencedStandbys", "trial", "LFencedStandbys$Trial;", true)
  | 4 => ("FencedStandbys", "valuesSeen", "[I", true)
  | _ => ("FencedStandbys", "valuesAtEnd", "[I", true)
def tyX6 : Nat → FieldType := fun k => match k with
  | 0 => .object "FencedStandbys$Store"
  | 1 => .object "FencedStandbys$History"
  | 2 => .object "FencedStandbys$OrderText"
  | 3 => .object "FencedStandbys$Trial"
  | 4 => .array .int
  | _ => .array .int
abbrev wsX60 : List Cond := u_ws RX6 TX6 6
theorem nmX6 : ∀ a, a < 6 → ∀ b, b < 6 → a ≠ b → (TX6 a).2.1 ≠ (TX6 b).2.1 := by decide +kernel
theorem tyX6_ok : ∀ k, k < 6 → parseFieldDescriptor (TX6 k).2.2.1 = some (tyX6 k) := by decide +kernel
abbrev cX6_init : ByteArray := prog_1_method_1_code
def yX6_init : MethodName := ⟨RX6, "<init>", "()V"⟩
abbrev cX6_open : ByteArray := prog_1_method_2_code
def yX6_open : MethodName := ⟨RX6, "open", "(I)I"⟩
abbrev cX6_put : ByteArray := prog_1_method_3_code
def yX6_put : MethodName := ⟨RX6, "put", "(III)I"⟩
abbrev cX6_commit : ByteArray := prog_1_method_4_code
def yX6_commit : MethodName := ⟨RX6, "commit", "(I)I"⟩
abbrev cX6_abort : ByteArray := prog_1_method_5_code
def yX6_abort : MethodName := ⟨RX6, "abort", "(I)I"⟩
abbrev cX6_ship : ByteArray := prog_1_method_6_code
def yX6_ship : MethodName := ⟨RX6, "ship", "(II)I"⟩
abbrev cX6_lose : ByteArray := prog_1_method_7_code
def yX6_lose : MethodName := ⟨RX6, "lose", "(II)I"⟩
abbrev cX6_resend : ByteArray := prog_1_method_8_code
def yX6_resend : MethodName := ⟨RX6, "resend", "(I)I"⟩
abbrev cX6_tick : ByteArray := prog_1_method_9_code
def yX6_tick : MethodName := ⟨RX6, "tick", "(I)I"⟩
abbrev cX6_promote : ByteArray := prog_1_method_10_code
def yX6_promote : MethodName := ⟨RX6, "promote", "(I)I"⟩
abbrev cX6_rebuild : ByteArray := prog_1_method_11_code
def yX6_rebuild : MethodName := ⟨RX6, "rebuild", "(I)I"⟩
abbrev cX6_set : ByteArray := prog_1_method_12_code
def yX6_set : MethodName := ⟨RX6, "set", "(II)I"⟩
abbrev cX6_read : ByteArray := prog_1_method_13_code
def yX6_read : MethodName := ⟨RX6, "read", "(III)I"⟩
abbrev cX6_primary : ByteArray := prog_1_method_14_code
def yX6_primary : MethodName := ⟨RX6, "primary", "(II)I"⟩
abbrev cX6_serves : ByteArray := prog_1_method_15_code
def yX6_serves : MethodName := ⟨RX6, "serves", "(I)I"⟩
abbrev cX6_fence : ByteArray := prog_1_method_16_code
def yX6_fence : MethodName := ⟨RX6, "fence", "(I)I"⟩
abbrev cX6_recordOf : ByteArray := prog_1_method_17_code
def yX6_recordOf : MethodName := ⟨RX6, "recordOf", "(II)I"⟩
abbrev cX6_standbyOf : ByteArray := prog_1_method_18_code
def yX6_standbyOf : MethodName := ⟨RX6, "standbyOf", "(II)I"⟩
abbrev cX6_slotOf : ByteArray := prog_1_method_19_code
def yX6_slotOf : MethodName := ⟨RX6, "slotOf", "(II)I"⟩
abbrev cX6_waits : ByteArray := prog_1_method_20_code
def yX6_waits : MethodName := ⟨RX6, "waits", "(II)I"⟩
abbrev cX6_wouldLose : ByteArray := prog_1_method_21_code
def yX6_wouldLose : MethodName := ⟨RX6, "wouldLose", "(I)I"⟩
abbrev cX6_rateFor : ByteArray := prog_1_method_22_code
def yX6_rateFor : MethodName := ⟨RX6, "rateFor", "(II)I"⟩
abbrev cX6_count : ByteArray := prog_1_method_23_code
def yX6_count : MethodName := ⟨RX6, "count", "(I)I"⟩
abbrev cX6_undo : ByteArray := prog_1_method_24_code
def yX6_undo : MethodName := ⟨RX6, "undo", "()I"⟩
abbrev cX6_type : ByteArray := prog_1_method_25_code
def yX6_type : MethodName := ⟨RX6, "type", "(I)I"⟩
abbrev cX6_clearText : ByteArray := prog_1_method_26_code
def yX6_clearText : MethodName := ⟨RX6, "clearText", "()I"⟩
abbrev cX6_fault : ByteArray := prog_1_method_27_code
def yX6_fault : MethodName := ⟨RX6, "fault", "(I)I"⟩
abbrev cX6_play : ByteArray := prog_1_method_28_code
def yX6_play : MethodName := ⟨RX6, "play", "()I"⟩
abbrev cX6_changed : ByteArray := prog_1_method_29_code
def yX6_changed : MethodName := ⟨RX6, "changed", "(I)I"⟩
abbrev cX6_keysNotAsAtEnd : ByteArray := prog_1_method_30_code
def yX6_keysNotAsAtEnd : MethodName := ⟨RX6, "keysNotAsAtEnd", "(I)I"⟩
abbrev cX6_found : ByteArray := prog_1_method_31_code
def yX6_found : MethodName := ⟨RX6, "found", "(I)I"⟩
abbrev cX6_isSlot : ByteArray := prog_1_method_32_code
def yX6_isSlot : MethodName := ⟨RX6, "isSlot", "(I)Z"⟩
abbrev cX6_isKey : ByteArray := prog_1_method_33_code
def yX6_isKey : MethodName := ⟨RX6, "isKey", "(I)Z"⟩
abbrev cX6_isStandby : ByteArray := prog_1_method_34_code
def yX6_isStandby : MethodName := ⟨RX6, "isStandby", "(I)Z"⟩
abbrev cX6_isTicks : ByteArray := prog_1_method_35_code
def yX6_isTicks : MethodName := ⟨RX6, "isTicks", "(I)Z"⟩
def RX7 : String := "FencedStandbysModel"
def TX7 : u_T := fun k => match k with
  | 0 => ("FencedStandbysModel", "s", "[I", true)
  | 1 => ("FencedStandbysModel", "past", "[I", true)
  | 2 => ("FencedStandbysModel", "held", "[I", true)
  | 3 => ("FencedStandbysModel", "pasts", "I", false)
  | 4 => ("FencedStandbysModel", "runs", "Z", false)
  | 5 => ("FencedStandbysModel", "text", "[I", true)
  | 6 => ("FencedStandbysModel", "typed", "I", false)
  | 7 => ("FencedStandbysModel", "spot", "I", false)
  | 8 => ("FencedStandbysModel", "from", "I", false)
  | 9 => ("FencedStandbysModel", "reason", "I", false)
  | 10 => ("FencedStandbysModel", "cause", "I", false)
  | 11 => ("FencedStandbysModel", "orders", "I", false)
  | 12 => ("FencedStandbysModel", "order", "I", false)
  | _ => ("FencedStandbysModel", "told", "[I", true)
def tyX7 : Nat → FieldType := fun k => match k with
  | 0 => .array .int
  | 1 => .array .int
  | 2 => .array .int
  | 3 => .int
  | 4 => .boolean
  | 5 => .array .int
  | 6 => .int
  | 7 => .int
  | 8 => .int
  | 9 => .int
  | 10 => .int
  | 11 => .int
  | 12 => .int
  | _ => .array .int
abbrev wsX70 : List Cond := u_ws RX7 TX7 14
theorem nmX7 : ∀ a, a < 14 → ∀ b, b < 14 → a ≠ b → (TX7 a).2.1 ≠ (TX7 b).2.1 := by decide +kernel
theorem tyX7_ok : ∀ k, k < 14 → parseFieldDescriptor (TX7 k).2.2.1 = some (tyX7 k) := by decide +kernel
abbrev cX7_init : ByteArray := prog_9_method_1_code
def yX7_init : MethodName := ⟨RX7, "<init>", "()V"⟩
abbrev cX7_in : ByteArray := prog_9_method_3_code
def yX7_in : MethodName := ⟨RX7, "in", "(III)Z"⟩
abbrev cX7_copies : ByteArray := prog_9_method_4_code
def yX7_copies : MethodName := ⟨RX7, "copies", "([I[I)V"⟩
abbrev cX7_changes : ByteArray := prog_9_method_5_code
def yX7_changes : MethodName := ⟨RX7, "changes", "()V"⟩
abbrev cX7_isSlot : ByteArray := prog_9_method_6_code
def yX7_isSlot : MethodName := ⟨RX7, "isSlot", "(I)Z"⟩
abbrev cX7_isKey : ByteArray := prog_9_method_7_code
def yX7_isKey : MethodName := ⟨RX7, "isKey", "(I)Z"⟩
abbrev cX7_isStandby : ByteArray := prog_9_method_8_code
def yX7_isStandby : MethodName := ⟨RX7, "isStandby", "(I)Z"⟩
abbrev cX7_ofRecord : ByteArray := prog_9_method_9_code
def yX7_ofRecord : MethodName := ⟨RX7, "ofRecord", "(II)I"⟩
abbrev cX7_ofStandby : ByteArray := prog_9_method_10_code
def yX7_ofStandby : MethodName := ⟨RX7, "ofStandby", "(II)I"⟩
abbrev cX7_isGap : ByteArray := prog_9_method_11_code
def yX7_isGap : MethodName := ⟨RX7, "isGap", "(II)Z"⟩
abbrev cX7_open : ByteArray := prog_9_method_12_code
def yX7_open : MethodName := ⟨RX7, "open", "(I)I"⟩
abbrev cX7_bar : ByteArray := prog_9_method_13_code
def yX7_bar : MethodName := ⟨RX7, "bar", "(I)I"⟩
abbrev cX7_writes : ByteArray := prog_9_method_14_code
def yX7_writes : MethodName := ⟨RX7, "writes", "(IIII)I"⟩
abbrev cX7_put : ByteArray := prog_9_method_15_code
def yX7_put : MethodName := ⟨RX7, "put", "(III)I"⟩
abbrev cX7_commit : ByteArray := prog_9_method_16_code
def yX7_commit : MethodName := ⟨RX7, "commit", "(I)I"⟩
abbrev cX7_abort : ByteArray := prog_9_method_17_code
def yX7_abort : MethodName := ⟨RX7, "abort", "(I)I"⟩
abbrev cX7_lastPut : ByteArray := prog_9_method_18_code
def yX7_lastPut : MethodName := ⟨RX7, "lastPut", "(II)I"⟩
abbrev cX7_lastCommit : ByteArray := prog_9_method_19_code
def yX7_lastCommit : MethodName := ⟨RX7, "lastCommit", "(II)I"⟩
abbrev cX7_valueAt : ByteArray := prog_9_method_20_code
def yX7_valueAt : MethodName := ⟨RX7, "valueAt", "(II)I"⟩
abbrev cX7_commits : ByteArray := prog_9_method_21_code
def yX7_commits : MethodName := ⟨RX7, "commits", "(II)I"⟩
abbrev cX7_ship : ByteArray := prog_9_method_22_code
def yX7_ship : MethodName := ⟨RX7, "ship", "(II)I"⟩
abbrev cX7_gaps : ByteArray := prog_9_method_23_code
def yX7_gaps : MethodName := ⟨RX7, "gaps", "(I)I"⟩
abbrev cX7_lowestGap : ByteArray := prog_9_method_24_code
def yX7_lowestGap : MethodName := ⟨RX7, "lowestGap", "(I)I"⟩
abbrev cX7_fillsGaps : ByteArray := prog_9_method_25_code
def yX7_fillsGaps : MethodName := ⟨RX7, "fillsGaps", "(II)V"⟩
abbrev cX7_lose : ByteArray := prog_9_method_26_code
def yX7_lose : MethodName := ⟨RX7, "lose", "(II)I"⟩
abbrev cX7_resend : ByteArray := prog_9_method_27_code
def yX7_resend : MethodName := ⟨RX7, "resend", "(I)I"⟩
abbrev cX7_goes : ByteArray := prog_9_method_28_code
def yX7_goes : MethodName := ⟨RX7, "goes", "(IIII)I"⟩
abbrev cX7_tick : ByteArray := prog_9_method_29_code
def yX7_tick : MethodName := ⟨RX7, "tick", "(I)I"⟩
abbrev cX7_lays : ByteArray := prog_9_method_30_code
def yX7_lays : MethodName := ⟨RX7, "lays", "(III)V"⟩
abbrev cX7_wouldBeLost : ByteArray := prog_9_method_31_code
def yX7_wouldBeLost : MethodName := ⟨RX7, "wouldBeLost", "(I)I"⟩
abbrev cX7_promote : ByteArray := prog_9_method_32_code
def yX7_promote : MethodName := ⟨RX7, "promote", "(I)I"⟩
abbrev cX7_rebuild : ByteArray := prog_9_method_33_code
def yX7_rebuild : MethodName := ⟨RX7, "rebuild", "(I)I"⟩
abbrev cX7_set : ByteArray := prog_9_method_34_code
def yX7_set : MethodName := ⟨RX7, "set", "(II)I"⟩
abbrev cX7_isFence : ByteArray := prog_9_method_35_code
def yX7_isFence : MethodName := ⟨RX7, "isFence", "(I)Z"⟩
abbrev cX7_canServe : ByteArray := prog_9_method_36_code
def yX7_canServe : MethodName := ⟨RX7, "canServe", "(II)Z"⟩
abbrev cX7_read : ByteArray := prog_9_method_37_code
def yX7_read : MethodName := ⟨RX7, "read", "(III)I"⟩
abbrev cX7_primary : ByteArray := prog_9_method_38_code
def yX7_primary : MethodName := ⟨RX7, "primary", "(II)I"⟩
abbrev cX7_serves : ByteArray := prog_9_method_39_code
def yX7_serves : MethodName := ⟨RX7, "serves", "(I)I"⟩
abbrev cX7_fence : ByteArray := prog_9_method_40_code
def yX7_fence : MethodName := ⟨RX7, "fence", "(I)I"⟩
abbrev cX7_recordOf : ByteArray := prog_9_method_41_code
def yX7_recordOf : MethodName := ⟨RX7, "recordOf", "(II)I"⟩
abbrev cX7_unlike : ByteArray := prog_9_method_42_code
def yX7_unlike : MethodName := ⟨RX7, "unlike", "(I)I"⟩
abbrev cX7_standbyOf : ByteArray := prog_9_method_43_code
def yX7_standbyOf : MethodName := ⟨RX7, "standbyOf", "(II)I"⟩
abbrev cX7_slotOf : ByteArray := prog_9_method_44_code
def yX7_slotOf : MethodName := ⟨RX7, "slotOf", "(II)I"⟩
abbrev cX7_until : ByteArray := prog_9_method_45_code
def yX7_until : MethodName := ⟨RX7, "until", "(IIII)I"⟩
abbrev cX7_waits : ByteArray := prog_9_method_46_code
def yX7_waits : MethodName := ⟨RX7, "waits", "(II)I"⟩
abbrev cX7_wouldLose : ByteArray := prog_9_method_47_code
def yX7_wouldLose : MethodName := ⟨RX7, "wouldLose", "(I)I"⟩
abbrev cX7_rateFor : ByteArray := prog_9_method_48_code
def yX7_rateFor : MethodName := ⟨RX7, "rateFor", "(II)I"⟩
abbrev cX7_count : ByteArray := prog_9_method_49_code
def yX7_count : MethodName := ⟨RX7, "count", "(I)I"⟩
abbrev cX7_undo : ByteArray := prog_9_method_50_code
def yX7_undo : MethodName := ⟨RX7, "undo", "()I"⟩
abbrev cX7_type : ByteArray := prog_9_method_51_code
def yX7_type : MethodName := ⟨RX7, "type", "(I)I"⟩
abbrev cX7_clearText : ByteArray := prog_9_method_52_code
def yX7_clearText : MethodName := ⟨RX7, "clearText", "()I"⟩
abbrev cX7_isAt : ByteArray := prog_9_method_53_code
def yX7_isAt : MethodName := ⟨RX7, "isAt", "(II)Z"⟩
abbrev cX7_sign : ByteArray := prog_9_method_54_code
def yX7_sign : MethodName := ⟨RX7, "sign", "(I)Z"⟩
abbrev cX7_number : ByteArray := prog_9_method_55_code
def yX7_number : MethodName := ⟨RX7, "number", "(I)Z"⟩
abbrev cX7_reads : ByteArray := prog_9_method_56_code
def yX7_reads : MethodName := ⟨RX7, "reads", "()Z"⟩
abbrev cX7_calls : ByteArray := prog_9_method_57_code
def yX7_calls : MethodName := ⟨RX7, "calls", "()I"⟩
abbrev cX7_plays : ByteArray := prog_9_method_58_code
def yX7_plays : MethodName := ⟨RX7, "plays", "()Z"⟩
abbrev cX7_fault : ByteArray := prog_9_method_59_code
def yX7_fault : MethodName := ⟨RX7, "fault", "(I)I"⟩
abbrev cX7_play : ByteArray := prog_9_method_60_code
def yX7_play : MethodName := ⟨RX7, "play", "()I"⟩
def RJ9 : String := "java/lang/Math"
def TJ9 : u_T := fun k => match k with
  | _ => ("", "", "", false)
def tyJ9 : Nat → FieldType := fun k => match k with
  | _ => .int
abbrev wsJ90 : List Cond := u_ws RJ9 TJ9 0
theorem nmJ9 : ∀ a, a < 0 → ∀ b, b < 0 → a ≠ b → (TJ9 a).2.1 ≠ (TJ9 b).2.1 := by decide +kernel
theorem tyJ9_ok : ∀ k, k < 0 → parseFieldDescriptor (TJ9 k).2.2.1 = some (tyJ9 k) := by decide +kernel
abbrev cJ9_max_7cf53 : ByteArray := prog_10_method_65_code
def yJ9_max_7cf53 : MethodName := ⟨RJ9, "max", "(II)I"⟩
abbrev cJ9_min_7cf53 : ByteArray := prog_10_method_69_code
def yJ9_min_7cf53 : MethodName := ⟨RJ9, "min", "(II)I"⟩
def RJ0 : String := "java/lang/String"
def TJ0 : u_T := fun k => match k with
  | _ => ("", "", "", false)
def tyJ0 : Nat → FieldType := fun k => match k with
  | _ => .int
abbrev wsJ00 : List Cond := u_ws RJ0 TJ0 0
theorem nmJ0 : ∀ a, a < 0 → ∀ b, b < 0 → a ≠ b → (TJ0 a).2.1 ≠ (TJ0 b).2.1 := by decide +kernel
theorem tyJ0_ok : ∀ k, k < 0 → parseFieldDescriptor (TJ0 k).2.2.1 = some (tyJ0 k) := by decide +kernel
abbrev cJ0_length_8abf5 : ByteArray := prog_11_method_54_code
def yJ0_length_8abf5 : MethodName := ⟨RJ0, "length", "()I"⟩
abbrev cJ0_isEmpty_aae02 : ByteArray := prog_11_method_55_code
def yJ0_isEmpty_aae02 : MethodName := ⟨RJ0, "isEmpty", "()Z"⟩
abbrev cJ0_charAt_5068e : ByteArray := prog_11_method_56_code
def yJ0_charAt_5068e : MethodName := ⟨RJ0, "charAt", "(I)C"⟩
abbrev cJ0_coder_7d493 : ByteArray := prog_11_method_152_code
def yJ0_coder_7d493 : MethodName := ⟨RJ0, "coder", "()B"⟩
abbrev cJ0_isLatin1_aae02 : ByteArray := prog_11_method_154_code
def yJ0_isLatin1_aae02 : MethodName := ⟨RJ0, "isLatin1", "()Z"⟩
abbrev cJ0_checkIndex_df160 : ByteArray := prog_11_method_155_code
def yJ0_checkIndex_df160 : MethodName := ⟨RJ0, "checkIndex", "(II)V"⟩
def RJ1 : String := "java/lang/StringLatin1"
def TJ1 : u_T := fun k => match k with
  | _ => ("", "", "", false)
def tyJ1 : Nat → FieldType := fun k => match k with
  | _ => .int
abbrev wsJ10 : List Cond := u_ws RJ1 TJ1 0
theorem nmJ1 : ∀ a, a < 0 → ∀ b, b < 0 → a ≠ b → (TJ1 a).2.1 ≠ (TJ1 b).2.1 := by decide +kernel
theorem tyJ1_ok : ∀ k, k < 0 → parseFieldDescriptor (TJ1 k).2.2.1 = some (tyJ1 k) := by decide +kernel
abbrev cJ1_charAt_3b067 : ByteArray := prog_12_method_2_code
def yJ1_charAt_3b067 : MethodName := ⟨RJ1, "charAt", "([BI)C"⟩
def RJ2 : String := "java/lang/StringUTF16"
def TJ2 : u_T := fun k => match k with
  | _ => ("", "", "", false)
def tyJ2 : Nat → FieldType := fun k => match k with
  | _ => .int
abbrev wsJ20 : List Cond := u_ws RJ2 TJ2 0
theorem nmJ2 : ∀ a, a < 0 → ∀ b, b < 0 → a ≠ b → (TJ2 a).2.1 ≠ (TJ2 b).2.1 := by decide +kernel
theorem tyJ2_ok : ∀ k, k < 0 → parseFieldDescriptor (TJ2 k).2.2.1 = some (tyJ2 k) := by decide +kernel
abbrev cJ2_getChar_3b067 : ByteArray := prog_13_method_5_code
def yJ2_getChar_3b067 : MethodName := ⟨RJ2, "getChar", "([BI)C"⟩
abbrev cJ2_length_9d52b : ByteArray := prog_13_method_6_code
def yJ2_length_9d52b : MethodName := ⟨RJ2, "length", "([B)I"⟩
abbrev cJ2_charAt_3b067 : ByteArray := prog_13_method_83_code
def yJ2_charAt_3b067 : MethodName := ⟨RJ2, "charAt", "([BI)C"⟩
abbrev cJ2_checkIndex_2214a : ByteArray := prog_13_method_91_code
def yJ2_checkIndex_2214a : MethodName := ⟨RJ2, "checkIndex", "(I[B)V"⟩
def RJ10 : String := "java/lang/System"
def TJ10 : u_T := fun k => match k with
  | _ => ("", "", "", false)
def tyJ10 : Nat → FieldType := fun k => match k with
  | _ => .int
abbrev wsJ100 : List Cond := u_ws RJ10 TJ10 0
theorem nmJ10 : ∀ a, a < 0 → ∀ b, b < 0 → a ≠ b → (TJ10 a).2.1 ≠ (TJ10 b).2.1 := by decide +kernel
theorem tyJ10_ok : ∀ k, k < 0 → parseFieldDescriptor (TJ10 k).2.2.1 = some (tyJ10 k) := by decide +kernel
def RJ3 : String := "jdk/internal/util/Preconditions"
def TJ3 : u_T := fun k => match k with
  | _ => ("", "", "", false)
def tyJ3 : Nat → FieldType := fun k => match k with
  | _ => .int
abbrev wsJ30 : List Cond := u_ws RJ3 TJ3 0
theorem nmJ3 : ∀ a, a < 0 → ∀ b, b < 0 → a ≠ b → (TJ3 a).2.1 ≠ (TJ3 b).2.1 := by decide +kernel
theorem tyJ3_ok : ∀ k, k < 0 → parseFieldDescriptor (TJ3 k).2.2.1 = some (tyJ3 k) := by decide +kernel
abbrev cJ3_checkIndex_8e157 : ByteArray := prog_15_method_11_code
def yJ3_checkIndex_8e157 : MethodName := ⟨RJ3, "checkIndex", "(IILjava/util/function/BiFunction;)I"⟩
def RL : String := "FencedStandbysLaw"
abbrev cL_law : ByteArray := code
def yL_law : MethodName := ⟨RL, "law", "([I)Z"⟩
def wsX1_init : List Cond := .code yX1_init cX1_init 1 none :: ([.methodLink RX1 3 objectInit, .instanceMethod objectInit, .code objectInit ⟨#[0xb1]⟩ 1 none, .fieldLink RX1 9 "FencedStandbys$Log" "size" "I", .arrayClass .int, .fieldLink RX1 15 "FencedStandbys$Log" "kinds" "[I", .fieldLink RX1 19 "FencedStandbys$Log" "transactions" "[I", .fieldLink RX1 22 "FencedStandbys$Log" "keys" "[I", .fieldLink RX1 25 "FencedStandbys$Log" "values" "[I", .fieldLink RX1 28 "FencedStandbys$Log" "ticks" "[I"] ++ wsX10)
def wsX3_init : List Cond := .code yX3_init cX3_init 1 none :: ([.methodLink RX3 3 objectInit, .instanceMethod objectInit, .code objectInit ⟨#[0xb1]⟩ 1 none, .fieldLink RX3 9 "FencedStandbys$Standby" "received" "I", .fieldLink RX3 15 "FencedStandbys$Standby" "applied" "I", .fieldLink RX3 18 "FencedStandbys$Standby" "astray" "Z", .arrayClass .boolean, .fieldLink RX3 22 "FencedStandbys$Standby" "gaps" "[Z"] ++ wsX30)
def wsX4_init_r1 : List Cond := [Cond.methodLink RX4 3 objectInit, Cond.instanceMethod objectInit, Cond.code objectInit ⟨#[0xb1]⟩ 1 none, Cond.classLink RX4 9 RX1, Cond.instantiable RX1 6, Cond.initialized RX1, Cond.fieldLink RX4 12 "FencedStandbys$Store" "log" "LFencedStandbys$Log;", Cond.classLink RX4 18 RX3, Cond.instantiable RX3 4, Cond.initialized RX3, Cond.fieldLink RX4 21 "FencedStandbys$Store" "first" "LFencedStandbys$Standby;", Cond.fieldLink RX4 25 "FencedStandbys$Store" "second" "LFencedStandbys$Standby;", Cond.arrayClass .int, Cond.fieldLink RX4 28 "FencedStandbys$Store" "slots" "[I", Cond.fieldLink RX4 32 "FencedStandbys$Store" "tick" "I", Cond.fieldLink RX4 36 "FencedStandbys$Store" "timeline" "I", Cond.fieldLink RX4 39 "FencedStandbys$Store" "transactions" "I", Cond.fieldLink RX4 42 "FencedStandbys$Store" "commitsLost" "I", Cond.fieldLink RX4 45 "FencedStandbys$Store" "recordsLost" "I", Cond.fieldLink RX4 48 "FencedStandbys$Store" "recordsApplied" "I", Cond.fieldLink RX4 51 "FencedStandbys$Store" "rate" "I", Cond.fieldLink RX4 54 "FencedStandbys$Store" "delay" "I", Cond.instanceMethod yX1_init, Cond.code yX1_init cX1_init 1 none]
def wsX4_init_r2 : List Cond := [Cond.methodLink RX1 3 objectInit, Cond.fieldLink RX1 9 "FencedStandbys$Log" "size" "I", Cond.fieldLink RX1 15 "FencedStandbys$Log" "kinds" "[I", Cond.fieldLink RX1 19 "FencedStandbys$Log" "transactions" "[I", Cond.fieldLink RX1 22 "FencedStandbys$Log" "keys" "[I", Cond.fieldLink RX1 25 "FencedStandbys$Log" "values" "[I", Cond.fieldLink RX1 28 "FencedStandbys$Log" "ticks" "[I", Cond.instanceMethod yX3_init, Cond.code yX3_init cX3_init 1 none, Cond.methodLink RX3 3 objectInit, Cond.fieldLink RX3 9 "FencedStandbys$Standby" "received" "I", Cond.fieldLink RX3 15 "FencedStandbys$Standby" "applied" "I", Cond.fieldLink RX3 18 "FencedStandbys$Standby" "astray" "Z", Cond.arrayClass .boolean, Cond.fieldLink RX3 22 "FencedStandbys$Standby" "gaps" "[Z"]
def wsX4_init : List Cond := .code yX4_init cX4_init 1 none :: ((wsX4_init_r1 ++ wsX4_init_r2) ++ wsX10 ++ wsX40 ++ wsX30)
def wsX0_init_r1 : List Cond := [Cond.methodLink RX0 3 objectInit, Cond.instanceMethod objectInit, Cond.code objectInit ⟨#[0xb1]⟩ 1 none, Cond.classLink RX0 9 RX4, Cond.fieldLink RX0 11 "FencedStandbys$History" "states" "[LFencedStandbys$Store;", Cond.fieldLink RX0 17 "FencedStandbys$History" "size" "I", Cond.instantiable RX4 12, Cond.initialized RX4, Cond.instanceMethod yX4_init, Cond.code yX4_init cX4_init 1 none, Cond.methodLink RX4 3 objectInit, Cond.classLink RX4 9 RX1, Cond.instantiable RX1 6, Cond.initialized RX1, Cond.fieldLink RX4 12 "FencedStandbys$Store" "log" "LFencedStandbys$Log;", Cond.classLink RX4 18 RX3, Cond.instantiable RX3 4, Cond.initialized RX3, Cond.fieldLink RX4 21 "FencedStandbys$Store" "first" "LFencedStandbys$Standby;", Cond.fieldLink RX4 25 "FencedStandbys$Store" "second" "LFencedStandbys$Standby;", Cond.arrayClass .int, Cond.fieldLink RX4 28 "FencedStandbys$Store" "slots" "[I", Cond.fieldLink RX4 32 "FencedStandbys$Store" "tick" "I", Cond.fieldLink RX4 36 "FencedStandbys$Store" "timeline" "I"]
def wsX0_init_r2 : List Cond := [Cond.fieldLink RX4 39 "FencedStandbys$Store" "transactions" "I", Cond.fieldLink RX4 42 "FencedStandbys$Store" "commitsLost" "I", Cond.fieldLink RX4 45 "FencedStandbys$Store" "recordsLost" "I", Cond.fieldLink RX4 48 "FencedStandbys$Store" "recordsApplied" "I", Cond.fieldLink RX4 51 "FencedStandbys$Store" "rate" "I", Cond.fieldLink RX4 54 "FencedStandbys$Store" "delay" "I", Cond.instanceMethod yX1_init, Cond.code yX1_init cX1_init 1 none, Cond.methodLink RX1 3 objectInit, Cond.fieldLink RX1 9 "FencedStandbys$Log" "size" "I", Cond.fieldLink RX1 15 "FencedStandbys$Log" "kinds" "[I", Cond.fieldLink RX1 19 "FencedStandbys$Log" "transactions" "[I", Cond.fieldLink RX1 22 "FencedStandbys$Log" "keys" "[I", Cond.fieldLink RX1 25 "FencedStandbys$Log" "values" "[I", Cond.fieldLink RX1 28 "FencedStandbys$Log" "ticks" "[I", Cond.instanceMethod yX3_init, Cond.code yX3_init cX3_init 1 none, Cond.methodLink RX3 3 objectInit, Cond.fieldLink RX3 9 "FencedStandbys$Standby" "received" "I", Cond.fieldLink RX3 15 "FencedStandbys$Standby" "applied" "I", Cond.fieldLink RX3 18 "FencedStandbys$Standby" "astray" "Z", Cond.arrayClass .boolean, Cond.fieldLink RX3 22 "FencedStandbys$Standby" "gaps" "[Z"]
def wsX0_init : List Cond := .code yX0_init cX0_init 2 none :: ((wsX0_init_r1 ++ wsX0_init_r2) ++ wsX00 ++ wsX40 ++ wsX10 ++ wsX30)
def wsX1_copyFrom : List Cond := .code yX1_copyFrom cX1_copyFrom 3 none :: ([.fieldLink RX1 9 "FencedStandbys$Log" "size" "I", .methodLink RX1 70 Lib.Math.min.name, .static Lib.Math.min.name, .initialized "java/lang/Math", .code Lib.Math.min.name Lib.Math.min.code 2 (some .int), .methodLink RX1 75 Lib.Math.max.name, .static Lib.Math.max.name, .code Lib.Math.max.name Lib.Math.max.code 2 (some .int), .fieldLink RX1 15 "FencedStandbys$Log" "kinds" "[I", .methodLink RX1 78 arraycopyName, .native arraycopyName, .static arraycopyName, .initialized "java/lang/System", .fieldLink RX1 19 "FencedStandbys$Log" "transactions" "[I", .fieldLink RX1 22 "FencedStandbys$Log" "keys" "[I", .fieldLink RX1 25 "FencedStandbys$Log" "values" "[I", .fieldLink RX1 28 "FencedStandbys$Log" "ticks" "[I"] ++ wsX10)
def wsX3_copyFrom : List Cond := .code yX3_copyFrom cX3_copyFrom 2 none :: ([.fieldLink RX3 9 "FencedStandbys$Standby" "received" "I", .fieldLink RX3 15 "FencedStandbys$Standby" "applied" "I", .fieldLink RX3 18 "FencedStandbys$Standby" "astray" "Z", .fieldLink RX3 22 "FencedStandbys$Standby" "gaps" "[Z", .methodLink RX3 43 arraycopyName, .native arraycopyName, .static arraycopyName, .initialized "java/lang/System"] ++ wsX30)
def wsX4_copyFrom_r1 : List Cond := [Cond.fieldLink RX4 12 "FencedStandbys$Store" "log" "LFencedStandbys$Log;", Cond.fieldLink RX4 21 "FencedStandbys$Store" "first" "LFencedStandbys$Standby;", Cond.fieldLink RX4 25 "FencedStandbys$Store" "second" "LFencedStandbys$Standby;", Cond.fieldLink RX4 28 "FencedStandbys$Store" "slots" "[I", Cond.methodLink RX4 150 arraycopyName, Cond.native arraycopyName, Cond.static arraycopyName, Cond.initialized "java/lang/System", Cond.fieldLink RX4 32 "FencedStandbys$Store" "tick" "I", Cond.fieldLink RX4 36 "FencedStandbys$Store" "timeline" "I", Cond.fieldLink RX4 39 "FencedStandbys$Store" "transactions" "I", Cond.fieldLink RX4 42 "FencedStandbys$Store" "commitsLost" "I", Cond.fieldLink RX4 45 "FencedStandbys$Store" "recordsLost" "I", Cond.fieldLink RX4 48 "FencedStandbys$Store" "recordsApplied" "I", Cond.fieldLink RX4 51 "FencedStandbys$Store" "rate" "I", Cond.fieldLink RX4 54 "FencedStandbys$Store" "delay" "I", Cond.methodLink RX4 143 yX1_copyFrom, Cond.instanceMethod yX1_copyFrom, Cond.selects RX1 yX1_copyFrom yX1_copyFrom, Cond.initialized RX1, Cond.code yX1_copyFrom cX1_copyFrom 3 none, Cond.fieldLink RX1 9 "FencedStandbys$Log" "size" "I", Cond.methodLink RX1 70 Lib.Math.min.name, Cond.static Lib.Math.min.name]
def wsX4_copyFrom_r2 : List Cond := [Cond.initialized "java/lang/Math", Cond.code Lib.Math.min.name Lib.Math.min.code 2 (some .int), Cond.methodLink RX1 75 Lib.Math.max.name, Cond.static Lib.Math.max.name, Cond.code Lib.Math.max.name Lib.Math.max.code 2 (some .int), Cond.fieldLink RX1 15 "FencedStandbys$Log" "kinds" "[I", Cond.methodLink RX1 78 arraycopyName, Cond.fieldLink RX1 19 "FencedStandbys$Log" "transactions" "[I", Cond.fieldLink RX1 22 "FencedStandbys$Log" "keys" "[I", Cond.fieldLink RX1 25 "FencedStandbys$Log" "values" "[I", Cond.fieldLink RX1 28 "FencedStandbys$Log" "ticks" "[I", Cond.methodLink RX4 147 yX3_copyFrom, Cond.instanceMethod yX3_copyFrom, Cond.selects RX3 yX3_copyFrom yX3_copyFrom, Cond.initialized RX3, Cond.code yX3_copyFrom cX3_copyFrom 2 none, Cond.fieldLink RX3 9 "FencedStandbys$Standby" "received" "I", Cond.fieldLink RX3 15 "FencedStandbys$Standby" "applied" "I", Cond.fieldLink RX3 18 "FencedStandbys$Standby" "astray" "Z", Cond.fieldLink RX3 22 "FencedStandbys$Standby" "gaps" "[Z", Cond.methodLink RX3 43 arraycopyName]
def wsX4_copyFrom : List Cond := .code yX4_copyFrom cX4_copyFrom 2 none :: ((wsX4_copyFrom_r1 ++ wsX4_copyFrom_r2) ++ wsX40 ++ wsX10 ++ wsX30)
def wsX0_prepare_r1 : List Cond := [Cond.fieldLink RX0 17 "FencedStandbys$History" "size" "I", Cond.fieldLink RX0 11 "FencedStandbys$History" "states" "[LFencedStandbys$Store;", Cond.methodLink RX0 22 yX4_copyFrom, Cond.instanceMethod yX4_copyFrom, Cond.selects RX4 yX4_copyFrom yX4_copyFrom, Cond.initialized RX4, Cond.code yX4_copyFrom cX4_copyFrom 2 none, Cond.fieldLink RX4 12 "FencedStandbys$Store" "log" "LFencedStandbys$Log;", Cond.fieldLink RX4 21 "FencedStandbys$Store" "first" "LFencedStandbys$Standby;", Cond.fieldLink RX4 25 "FencedStandbys$Store" "second" "LFencedStandbys$Standby;", Cond.fieldLink RX4 28 "FencedStandbys$Store" "slots" "[I", Cond.methodLink RX4 150 arraycopyName, Cond.native arraycopyName, Cond.static arraycopyName, Cond.initialized "java/lang/System", Cond.fieldLink RX4 32 "FencedStandbys$Store" "tick" "I", Cond.fieldLink RX4 36 "FencedStandbys$Store" "timeline" "I", Cond.fieldLink RX4 39 "FencedStandbys$Store" "transactions" "I", Cond.fieldLink RX4 42 "FencedStandbys$Store" "commitsLost" "I", Cond.fieldLink RX4 45 "FencedStandbys$Store" "recordsLost" "I", Cond.fieldLink RX4 48 "FencedStandbys$Store" "recordsApplied" "I", Cond.fieldLink RX4 51 "FencedStandbys$Store" "rate" "I", Cond.fieldLink RX4 54 "FencedStandbys$Store" "delay" "I", Cond.methodLink RX4 143 yX1_copyFrom]
def wsX0_prepare_r2 : List Cond := [Cond.instanceMethod yX1_copyFrom, Cond.selects RX1 yX1_copyFrom yX1_copyFrom, Cond.initialized RX1, Cond.code yX1_copyFrom cX1_copyFrom 3 none, Cond.fieldLink RX1 9 "FencedStandbys$Log" "size" "I", Cond.methodLink RX1 70 Lib.Math.min.name, Cond.static Lib.Math.min.name, Cond.initialized "java/lang/Math", Cond.code Lib.Math.min.name Lib.Math.min.code 2 (some .int), Cond.methodLink RX1 75 Lib.Math.max.name, Cond.static Lib.Math.max.name, Cond.code Lib.Math.max.name Lib.Math.max.code 2 (some .int), Cond.fieldLink RX1 15 "FencedStandbys$Log" "kinds" "[I", Cond.methodLink RX1 78 arraycopyName, Cond.fieldLink RX1 19 "FencedStandbys$Log" "transactions" "[I", Cond.fieldLink RX1 22 "FencedStandbys$Log" "keys" "[I", Cond.fieldLink RX1 25 "FencedStandbys$Log" "values" "[I", Cond.fieldLink RX1 28 "FencedStandbys$Log" "ticks" "[I", Cond.methodLink RX4 147 yX3_copyFrom, Cond.instanceMethod yX3_copyFrom, Cond.selects RX3 yX3_copyFrom yX3_copyFrom, Cond.initialized RX3, Cond.code yX3_copyFrom cX3_copyFrom 2 none, Cond.fieldLink RX3 9 "FencedStandbys$Standby" "received" "I"]
def wsX0_prepare_r3 : List Cond := [Cond.fieldLink RX3 15 "FencedStandbys$Standby" "applied" "I", Cond.fieldLink RX3 18 "FencedStandbys$Standby" "astray" "Z", Cond.fieldLink RX3 22 "FencedStandbys$Standby" "gaps" "[Z", Cond.methodLink RX3 43 arraycopyName]
def wsX0_prepare : List Cond := .code yX0_prepare cX0_prepare 2 none :: ((wsX0_prepare_r1 ++ (wsX0_prepare_r2 ++ wsX0_prepare_r3)) ++ wsX00 ++ wsX40 ++ wsX10 ++ wsX30)
def wsX0_keep : List Cond := .code yX0_keep cX0_keep 3 none :: ([.fieldLink RX0 17 "FencedStandbys$History" "size" "I", .fieldLink RX0 11 "FencedStandbys$History" "states" "[LFencedStandbys$Store;"] ++ wsX00)
def wsX0_restore_r1 : List Cond := [Cond.fieldLink RX0 17 "FencedStandbys$History" "size" "I", Cond.fieldLink RX0 11 "FencedStandbys$History" "states" "[LFencedStandbys$Store;", Cond.methodLink RX0 22 yX4_copyFrom, Cond.instanceMethod yX4_copyFrom, Cond.selects RX4 yX4_copyFrom yX4_copyFrom, Cond.initialized RX4, Cond.code yX4_copyFrom cX4_copyFrom 2 none, Cond.fieldLink RX4 12 "FencedStandbys$Store" "log" "LFencedStandbys$Log;", Cond.fieldLink RX4 21 "FencedStandbys$Store" "first" "LFencedStandbys$Standby;", Cond.fieldLink RX4 25 "FencedStandbys$Store" "second" "LFencedStandbys$Standby;", Cond.fieldLink RX4 28 "FencedStandbys$Store" "slots" "[I", Cond.methodLink RX4 150 arraycopyName, Cond.native arraycopyName, Cond.static arraycopyName, Cond.initialized "java/lang/System", Cond.fieldLink RX4 32 "FencedStandbys$Store" "tick" "I", Cond.fieldLink RX4 36 "FencedStandbys$Store" "timeline" "I", Cond.fieldLink RX4 39 "FencedStandbys$Store" "transactions" "I", Cond.fieldLink RX4 42 "FencedStandbys$Store" "commitsLost" "I", Cond.fieldLink RX4 45 "FencedStandbys$Store" "recordsLost" "I", Cond.fieldLink RX4 48 "FencedStandbys$Store" "recordsApplied" "I", Cond.fieldLink RX4 51 "FencedStandbys$Store" "rate" "I", Cond.fieldLink RX4 54 "FencedStandbys$Store" "delay" "I", Cond.methodLink RX4 143 yX1_copyFrom]
def wsX0_restore_r2 : List Cond := [Cond.instanceMethod yX1_copyFrom, Cond.selects RX1 yX1_copyFrom yX1_copyFrom, Cond.initialized RX1, Cond.code yX1_copyFrom cX1_copyFrom 3 none, Cond.fieldLink RX1 9 "FencedStandbys$Log" "size" "I", Cond.methodLink RX1 70 Lib.Math.min.name, Cond.static Lib.Math.min.name, Cond.initialized "java/lang/Math", Cond.code Lib.Math.min.name Lib.Math.min.code 2 (some .int), Cond.methodLink RX1 75 Lib.Math.max.name, Cond.static Lib.Math.max.name, Cond.code Lib.Math.max.name Lib.Math.max.code 2 (some .int), Cond.fieldLink RX1 15 "FencedStandbys$Log" "kinds" "[I", Cond.methodLink RX1 78 arraycopyName, Cond.fieldLink RX1 19 "FencedStandbys$Log" "transactions" "[I", Cond.fieldLink RX1 22 "FencedStandbys$Log" "keys" "[I", Cond.fieldLink RX1 25 "FencedStandbys$Log" "values" "[I", Cond.fieldLink RX1 28 "FencedStandbys$Log" "ticks" "[I", Cond.methodLink RX4 147 yX3_copyFrom, Cond.instanceMethod yX3_copyFrom, Cond.selects RX3 yX3_copyFrom yX3_copyFrom, Cond.initialized RX3, Cond.code yX3_copyFrom cX3_copyFrom 2 none, Cond.fieldLink RX3 9 "FencedStandbys$Standby" "received" "I"]
def wsX0_restore_r3 : List Cond := [Cond.fieldLink RX3 15 "FencedStandbys$Standby" "applied" "I", Cond.fieldLink RX3 18 "FencedStandbys$Standby" "astray" "Z", Cond.fieldLink RX3 22 "FencedStandbys$Standby" "gaps" "[Z", Cond.methodLink RX3 43 arraycopyName]
def wsX0_restore : List Cond := .code yX0_restore cX0_restore 2 (some .boolean) :: ((wsX0_restore_r1 ++ (wsX0_restore_r2 ++ wsX0_restore_r3)) ++ wsX00 ++ wsX40 ++ wsX10 ++ wsX30)
def wsX1_has : List Cond := .code yX1_has cX1_has 2 (some .boolean) :: ([.fieldLink RX1 9 "FencedStandbys$Log" "size" "I"] ++ wsX10)
def wsX1_kindOf : List Cond := .code yX1_kindOf cX1_kindOf 2 (some .int) :: ([.fieldLink RX1 15 "FencedStandbys$Log" "kinds" "[I", .constant RX1 35 (-1000004), .methodLink RX1 31 yX1_has, .instanceMethod yX1_has, .selects RX1 yX1_has yX1_has, .initialized RX1, .code yX1_has cX1_has 2 (some .boolean), .fieldLink RX1 9 "FencedStandbys$Log" "size" "I"] ++ wsX10)
def wsX1_transactionOf : List Cond := .code yX1_transactionOf cX1_transactionOf 2 (some .int) :: ([.fieldLink RX1 19 "FencedStandbys$Log" "transactions" "[I", .constant RX1 35 (-1000004), .methodLink RX1 31 yX1_has, .instanceMethod yX1_has, .selects RX1 yX1_has yX1_has, .initialized RX1, .code yX1_has cX1_has 2 (some .boolean), .fieldLink RX1 9 "FencedStandbys$Log" "size" "I"] ++ wsX10)
def wsX1_keyOf : List Cond := .code yX1_keyOf cX1_keyOf 2 (some .int) :: ([.fieldLink RX1 22 "FencedStandbys$Log" "keys" "[I", .constant RX1 35 (-1000004), .methodLink RX1 31 yX1_has, .instanceMethod yX1_has, .selects RX1 yX1_has yX1_has, .initialized RX1, .code yX1_has cX1_has 2 (some .boolean), .fieldLink RX1 9 "FencedStandbys$Log" "size" "I"] ++ wsX10)
def wsX1_valueIn : List Cond := .code yX1_valueIn cX1_valueIn 2 (some .int) :: ([.fieldLink RX1 25 "FencedStandbys$Log" "values" "[I", .constant RX1 35 (-1000004), .methodLink RX1 31 yX1_has, .instanceMethod yX1_has, .selects RX1 yX1_has yX1_has, .initialized RX1, .code yX1_has cX1_has 2 (some .boolean), .fieldLink RX1 9 "FencedStandbys$Log" "size" "I"] ++ wsX10)
def wsX1_tickOf : List Cond := .code yX1_tickOf cX1_tickOf 2 (some .int) :: ([.fieldLink RX1 28 "FencedStandbys$Log" "ticks" "[I", .constant RX1 35 (-1000004), .methodLink RX1 31 yX1_has, .instanceMethod yX1_has, .selects RX1 yX1_has yX1_has, .initialized RX1, .code yX1_has cX1_has 2 (some .boolean), .fieldLink RX1 9 "FencedStandbys$Log" "size" "I"] ++ wsX10)
def wsX1_append : List Cond := .code yX1_append cX1_append 7 (some .int) :: ([.fieldLink RX1 9 "FencedStandbys$Log" "size" "I", .constant RX1 36 (-1000003), .fieldLink RX1 15 "FencedStandbys$Log" "kinds" "[I", .fieldLink RX1 19 "FencedStandbys$Log" "transactions" "[I", .fieldLink RX1 22 "FencedStandbys$Log" "keys" "[I", .fieldLink RX1 25 "FencedStandbys$Log" "values" "[I", .fieldLink RX1 28 "FencedStandbys$Log" "ticks" "[I"] ++ wsX10)
def wsX1_commitsBehind : List Cond := .code yX1_commitsBehind cX1_commitsBehind 4 (some .int) :: ([.fieldLink RX1 9 "FencedStandbys$Log" "size" "I", .methodLink RX1 37 yX1_kindOf, .instanceMethod yX1_kindOf, .selects RX1 yX1_kindOf yX1_kindOf, .initialized RX1, .code yX1_kindOf cX1_kindOf 2 (some .int), .fieldLink RX1 15 "FencedStandbys$Log" "kinds" "[I", .constant RX1 35 (-1000004), .methodLink RX1 31 yX1_has, .instanceMethod yX1_has, .selects RX1 yX1_has yX1_has, .code yX1_has cX1_has 2 (some .boolean)] ++ wsX10)
def wsX1_isPutOf : List Cond := .code yX1_isPutOf cX1_isPutOf 3 (some .boolean) :: ([.methodLink RX1 45 yX1_transactionOf, .instanceMethod yX1_transactionOf, .selects RX1 yX1_transactionOf yX1_transactionOf, .initialized RX1, .code yX1_transactionOf cX1_transactionOf 2 (some .int), .fieldLink RX1 19 "FencedStandbys$Log" "transactions" "[I", .constant RX1 35 (-1000004), .methodLink RX1 31 yX1_has, .instanceMethod yX1_has, .selects RX1 yX1_has yX1_has, .code yX1_has cX1_has 2 (some .boolean), .fieldLink RX1 9 "FencedStandbys$Log" "size" "I", .methodLink RX1 37 yX1_kindOf, .instanceMethod yX1_kindOf, .selects RX1 yX1_kindOf yX1_kindOf, .code yX1_kindOf cX1_kindOf 2 (some .int), .fieldLink RX1 15 "FencedStandbys$Log" "kinds" "[I"] ++ wsX10)
def wsX1_putsOf : List Cond := .code yX1_putsOf cX1_putsOf 4 (some .int) :: ([.fieldLink RX1 9 "FencedStandbys$Log" "size" "I", .methodLink RX1 41 yX1_isPutOf, .instanceMethod yX1_isPutOf, .selects RX1 yX1_isPutOf yX1_isPutOf, .initialized RX1, .code yX1_isPutOf cX1_isPutOf 3 (some .boolean), .methodLink RX1 45 yX1_transactionOf, .instanceMethod yX1_transactionOf, .selects RX1 yX1_transactionOf yX1_transactionOf, .code yX1_transactionOf cX1_transactionOf 2 (some .int), .fieldLink RX1 19 "FencedStandbys$Log" "transactions" "[I", .constant RX1 35 (-1000004), .methodLink RX1 31 yX1_has, .instanceMethod yX1_has, .selects RX1 yX1_has yX1_has, .code yX1_has cX1_has 2 (some .boolean), .methodLink RX1 37 yX1_kindOf, .instanceMethod yX1_kindOf, .selects RX1 yX1_kindOf yX1_kindOf, .code yX1_kindOf cX1_kindOf 2 (some .int), .fieldLink RX1 15 "FencedStandbys$Log" "kinds" "[I"] ++ wsX10)
def wsX1_lastPut_r1 : List Cond := [Cond.methodLink RX1 41 yX1_isPutOf, Cond.instanceMethod yX1_isPutOf, Cond.selects RX1 yX1_isPutOf yX1_isPutOf, Cond.initialized RX1, Cond.code yX1_isPutOf cX1_isPutOf 3 (some .boolean), Cond.methodLink RX1 45 yX1_transactionOf, Cond.instanceMethod yX1_transactionOf, Cond.selects RX1 yX1_transactionOf yX1_transactionOf, Cond.code yX1_transactionOf cX1_transactionOf 2 (some .int), Cond.fieldLink RX1 19 "FencedStandbys$Log" "transactions" "[I", Cond.constant RX1 35 (-1000004), Cond.methodLink RX1 31 yX1_has, Cond.instanceMethod yX1_has, Cond.selects RX1 yX1_has yX1_has, Cond.code yX1_has cX1_has 2 (some .boolean), Cond.fieldLink RX1 9 "FencedStandbys$Log" "size" "I", Cond.methodLink RX1 37 yX1_kindOf, Cond.instanceMethod yX1_kindOf, Cond.selects RX1 yX1_kindOf yX1_kindOf, Cond.code yX1_kindOf cX1_kindOf 2 (some .int), Cond.fieldLink RX1 15 "FencedStandbys$Log" "kinds" "[I", Cond.methodLink RX1 48 yX1_keyOf, Cond.instanceMethod yX1_keyOf, Cond.selects RX1 yX1_keyOf yX1_keyOf]
def wsX1_lastPut_r2 : List Cond := [Cond.code yX1_keyOf cX1_keyOf 2 (some .int), Cond.fieldLink RX1 22 "FencedStandbys$Log" "keys" "[I"]
def wsX1_lastPut : List Cond := .code yX1_lastPut cX1_lastPut 5 (some .int) :: ((wsX1_lastPut_r1 ++ wsX1_lastPut_r2) ++ wsX10)
def wsX1_lastCommit_r1 : List Cond := [Cond.methodLink RX1 37 yX1_kindOf, Cond.instanceMethod yX1_kindOf, Cond.selects RX1 yX1_kindOf yX1_kindOf, Cond.initialized RX1, Cond.code yX1_kindOf cX1_kindOf 2 (some .int), Cond.fieldLink RX1 15 "FencedStandbys$Log" "kinds" "[I", Cond.constant RX1 35 (-1000004), Cond.methodLink RX1 31 yX1_has, Cond.instanceMethod yX1_has, Cond.selects RX1 yX1_has yX1_has, Cond.code yX1_has cX1_has 2 (some .boolean), Cond.fieldLink RX1 9 "FencedStandbys$Log" "size" "I", Cond.methodLink RX1 45 yX1_transactionOf, Cond.instanceMethod yX1_transactionOf, Cond.selects RX1 yX1_transactionOf yX1_transactionOf, Cond.code yX1_transactionOf cX1_transactionOf 2 (some .int), Cond.fieldLink RX1 19 "FencedStandbys$Log" "transactions" "[I", Cond.methodLink RX1 51 yX1_lastPut, Cond.instanceMethod yX1_lastPut, Cond.selects RX1 yX1_lastPut yX1_lastPut, Cond.code yX1_lastPut cX1_lastPut 5 (some .int), Cond.methodLink RX1 41 yX1_isPutOf, Cond.instanceMethod yX1_isPutOf, Cond.selects RX1 yX1_isPutOf yX1_isPutOf]
def wsX1_lastCommit_r2 : List Cond := [Cond.code yX1_isPutOf cX1_isPutOf 3 (some .boolean), Cond.methodLink RX1 48 yX1_keyOf, Cond.instanceMethod yX1_keyOf, Cond.selects RX1 yX1_keyOf yX1_keyOf, Cond.code yX1_keyOf cX1_keyOf 2 (some .int), Cond.fieldLink RX1 22 "FencedStandbys$Log" "keys" "[I"]
def wsX1_lastCommit : List Cond := .code yX1_lastCommit cX1_lastCommit 4 (some .int) :: ((wsX1_lastCommit_r1 ++ wsX1_lastCommit_r2) ++ wsX10)
def wsX1_valueAt_r1 : List Cond := [Cond.methodLink RX1 55 yX1_lastCommit, Cond.instanceMethod yX1_lastCommit, Cond.selects RX1 yX1_lastCommit yX1_lastCommit, Cond.initialized RX1, Cond.code yX1_lastCommit cX1_lastCommit 4 (some .int), Cond.methodLink RX1 37 yX1_kindOf, Cond.instanceMethod yX1_kindOf, Cond.selects RX1 yX1_kindOf yX1_kindOf, Cond.code yX1_kindOf cX1_kindOf 2 (some .int), Cond.fieldLink RX1 15 "FencedStandbys$Log" "kinds" "[I", Cond.constant RX1 35 (-1000004), Cond.methodLink RX1 31 yX1_has, Cond.instanceMethod yX1_has, Cond.selects RX1 yX1_has yX1_has, Cond.code yX1_has cX1_has 2 (some .boolean), Cond.fieldLink RX1 9 "FencedStandbys$Log" "size" "I", Cond.methodLink RX1 45 yX1_transactionOf, Cond.instanceMethod yX1_transactionOf, Cond.selects RX1 yX1_transactionOf yX1_transactionOf, Cond.code yX1_transactionOf cX1_transactionOf 2 (some .int), Cond.fieldLink RX1 19 "FencedStandbys$Log" "transactions" "[I", Cond.methodLink RX1 51 yX1_lastPut, Cond.instanceMethod yX1_lastPut, Cond.selects RX1 yX1_lastPut yX1_lastPut]
def wsX1_valueAt_r2 : List Cond := [Cond.code yX1_lastPut cX1_lastPut 5 (some .int), Cond.methodLink RX1 41 yX1_isPutOf, Cond.instanceMethod yX1_isPutOf, Cond.selects RX1 yX1_isPutOf yX1_isPutOf, Cond.code yX1_isPutOf cX1_isPutOf 3 (some .boolean), Cond.methodLink RX1 48 yX1_keyOf, Cond.instanceMethod yX1_keyOf, Cond.selects RX1 yX1_keyOf yX1_keyOf, Cond.code yX1_keyOf cX1_keyOf 2 (some .int), Cond.fieldLink RX1 22 "FencedStandbys$Log" "keys" "[I", Cond.methodLink RX1 59 yX1_valueIn, Cond.instanceMethod yX1_valueIn, Cond.selects RX1 yX1_valueIn yX1_valueIn, Cond.code yX1_valueIn cX1_valueIn 2 (some .int), Cond.fieldLink RX1 25 "FencedStandbys$Log" "values" "[I"]
def wsX1_valueAt : List Cond := .code yX1_valueAt cX1_valueAt 4 (some .int) :: ((wsX1_valueAt_r1 ++ wsX1_valueAt_r2) ++ wsX10)
def wsX1_setValue : List Cond := .code yX1_setValue cX1_setValue 3 none :: ([])
def wsX1_applyPuts_r1 : List Cond := [Cond.methodLink RX1 41 yX1_isPutOf, Cond.instanceMethod yX1_isPutOf, Cond.selects RX1 yX1_isPutOf yX1_isPutOf, Cond.initialized RX1, Cond.code yX1_isPutOf cX1_isPutOf 3 (some .boolean), Cond.methodLink RX1 45 yX1_transactionOf, Cond.instanceMethod yX1_transactionOf, Cond.selects RX1 yX1_transactionOf yX1_transactionOf, Cond.code yX1_transactionOf cX1_transactionOf 2 (some .int), Cond.fieldLink RX1 19 "FencedStandbys$Log" "transactions" "[I", Cond.constant RX1 35 (-1000004), Cond.methodLink RX1 31 yX1_has, Cond.instanceMethod yX1_has, Cond.selects RX1 yX1_has yX1_has, Cond.code yX1_has cX1_has 2 (some .boolean), Cond.fieldLink RX1 9 "FencedStandbys$Log" "size" "I", Cond.methodLink RX1 37 yX1_kindOf, Cond.instanceMethod yX1_kindOf, Cond.selects RX1 yX1_kindOf yX1_kindOf, Cond.code yX1_kindOf cX1_kindOf 2 (some .int), Cond.fieldLink RX1 15 "FencedStandbys$Log" "kinds" "[I", Cond.methodLink RX1 48 yX1_keyOf, Cond.instanceMethod yX1_keyOf, Cond.selects RX1 yX1_keyOf yX1_keyOf]
def wsX1_applyPuts_r2 : List Cond := [Cond.code yX1_keyOf cX1_keyOf 2 (some .int), Cond.fieldLink RX1 22 "FencedStandbys$Log" "keys" "[I", Cond.methodLink RX1 59 yX1_valueIn, Cond.instanceMethod yX1_valueIn, Cond.selects RX1 yX1_valueIn yX1_valueIn, Cond.code yX1_valueIn cX1_valueIn 2 (some .int), Cond.fieldLink RX1 25 "FencedStandbys$Log" "values" "[I", Cond.methodLink RX1 66 yX1_setValue, Cond.static yX1_setValue, Cond.code yX1_setValue cX1_setValue 3 none]
def wsX1_applyPuts : List Cond := .code yX1_applyPuts cX1_applyPuts 5 none :: ((wsX1_applyPuts_r1 ++ wsX1_applyPuts_r2) ++ wsX10)
def wsX1_fillValues_r1 : List Cond := [Cond.methodLink RX1 37 yX1_kindOf, Cond.instanceMethod yX1_kindOf, Cond.selects RX1 yX1_kindOf yX1_kindOf, Cond.initialized RX1, Cond.code yX1_kindOf cX1_kindOf 2 (some .int), Cond.fieldLink RX1 15 "FencedStandbys$Log" "kinds" "[I", Cond.constant RX1 35 (-1000004), Cond.methodLink RX1 31 yX1_has, Cond.instanceMethod yX1_has, Cond.selects RX1 yX1_has yX1_has, Cond.code yX1_has cX1_has 2 (some .boolean), Cond.fieldLink RX1 9 "FencedStandbys$Log" "size" "I", Cond.methodLink RX1 45 yX1_transactionOf, Cond.instanceMethod yX1_transactionOf, Cond.selects RX1 yX1_transactionOf yX1_transactionOf, Cond.code yX1_transactionOf cX1_transactionOf 2 (some .int), Cond.fieldLink RX1 19 "FencedStandbys$Log" "transactions" "[I", Cond.methodLink RX1 62 yX1_applyPuts, Cond.instanceMethod yX1_applyPuts, Cond.selects RX1 yX1_applyPuts yX1_applyPuts, Cond.code yX1_applyPuts cX1_applyPuts 5 none, Cond.methodLink RX1 41 yX1_isPutOf, Cond.instanceMethod yX1_isPutOf, Cond.selects RX1 yX1_isPutOf yX1_isPutOf]
def wsX1_fillValues_r2 : List Cond := [Cond.code yX1_isPutOf cX1_isPutOf 3 (some .boolean), Cond.methodLink RX1 48 yX1_keyOf, Cond.instanceMethod yX1_keyOf, Cond.selects RX1 yX1_keyOf yX1_keyOf, Cond.code yX1_keyOf cX1_keyOf 2 (some .int), Cond.fieldLink RX1 22 "FencedStandbys$Log" "keys" "[I", Cond.methodLink RX1 59 yX1_valueIn, Cond.instanceMethod yX1_valueIn, Cond.selects RX1 yX1_valueIn yX1_valueIn, Cond.code yX1_valueIn cX1_valueIn 2 (some .int), Cond.fieldLink RX1 25 "FencedStandbys$Log" "values" "[I", Cond.methodLink RX1 66 yX1_setValue, Cond.static yX1_setValue, Cond.code yX1_setValue cX1_setValue 3 none]
def wsX1_fillValues : List Cond := .code yX1_fillValues cX1_fillValues 4 none :: ((wsX1_fillValues_r1 ++ wsX1_fillValues_r2) ++ wsX10)
def wsX2_init : List Cond := .code yX2_init cX2_init 1 none :: ([.methodLink RX2 3 objectInit, .instanceMethod objectInit, .code objectInit ⟨#[0xb1]⟩ 1 none, .arrayClass .char, .fieldLink RX2 9 "FencedStandbys$OrderText" "characters" "[C", .fieldLink RX2 15 "FencedStandbys$OrderText" "length" "I", .fieldLink RX2 19 "FencedStandbys$OrderText" "at" "I", .fieldLink RX2 22 "FencedStandbys$OrderText" "kind" "I", .arrayClass .int, .fieldLink RX2 25 "FencedStandbys$OrderText" "numbers" "[I", .fieldLink RX2 29 "FencedStandbys$OrderText" "numbersRead" "I"] ++ wsX20)
def wsX2_append : List Cond := .code yX2_append cX2_append 2 (some .boolean) :: ([.fieldLink RX2 15 "FencedStandbys$OrderText" "length" "I", .fieldLink RX2 9 "FencedStandbys$OrderText" "characters" "[C"] ++ wsX20)
def wsX2_characterAt : List Cond := .code yX2_characterAt cX2_characterAt 2 (some .char) :: ([.fieldLink RX2 15 "FencedStandbys$OrderText" "length" "I", .fieldLink RX2 9 "FencedStandbys$OrderText" "characters" "[C"] ++ wsX20)
def wsX2_number : List Cond := .code yX2_number cX2_number 2 (some .int) :: ([.fieldLink RX2 29 "FencedStandbys$OrderText" "numbersRead" "I", .fieldLink RX2 25 "FencedStandbys$OrderText" "numbers" "[I"] ++ wsX20)
def wsX2_formBehind : List Cond := .code yX2_formBehind cX2_formBehind 1 (some (.object "java/lang/String")) :: ([])
def wsJ0_isEmpty_aae02 : List Cond := .code yJ0_isEmpty_aae02 cJ0_isEmpty_aae02 1 (some .boolean) :: ([.fieldLink RJ0 9 "java/lang/String" "value" "[B"])
def wsJ0_coder_7d493 : List Cond := .code yJ0_coder_7d493 cJ0_coder_7d493 1 (some .byte) :: ([.fieldLink RJ0 38 "java/lang/String" "COMPACT_STRINGS" "Z", .fieldLink RJ0 15 "java/lang/String" "coder" "B"])
def wsJ0_length_8abf5 : List Cond := .code yJ0_length_8abf5 cJ0_length_8abf5 1 (some .int) :: ([.fieldLink RJ0 9 "java/lang/String" "value" "[B", .methodLink RJ0 335 yJ0_coder_7d493, .instanceMethod yJ0_coder_7d493, .selects RJ0 yJ0_coder_7d493 yJ0_coder_7d493, .initialized RJ0, .code yJ0_coder_7d493 cJ0_coder_7d493 1 (some .byte), .fieldLink RJ0 38 "java/lang/String" "COMPACT_STRINGS" "Z", .fieldLink RJ0 15 "java/lang/String" "coder" "B"])
def wsJ0_isLatin1_aae02 : List Cond := .code yJ0_isLatin1_aae02 cJ0_isLatin1_aae02 1 (some .boolean) :: ([.fieldLink RJ0 38 "java/lang/String" "COMPACT_STRINGS" "Z", .fieldLink RJ0 15 "java/lang/String" "coder" "B"])
def wsJ3_checkIndex_8e157 : List Cond := .code yJ3_checkIndex_8e157 cJ3_checkIndex_8e157 3 (some .int) :: ([])
def wsJ0_checkIndex_df160 : List Cond := .code yJ0_checkIndex_df160 cJ0_checkIndex_df160 2 none :: ([.fieldLink RJ0 1053 "jdk/internal/util/Preconditions" "SIOOBE_FORMATTER" "Ljava/util/function/BiFunction;", .methodLink RJ0 1059 yJ3_checkIndex_8e157, .static yJ3_checkIndex_8e157, .initialized RJ3, .code yJ3_checkIndex_8e157 cJ3_checkIndex_8e157 3 (some .int)])
def wsJ1_charAt_3b067 : List Cond := .code yJ1_charAt_3b067 cJ1_charAt_3b067 2 (some .char) :: ([.methodLink RJ1 9 yJ0_checkIndex_df160, .static yJ0_checkIndex_df160, .initialized RJ0, .code yJ0_checkIndex_df160 cJ0_checkIndex_df160 2 none, .fieldLink RJ0 1053 "jdk/internal/util/Preconditions" "SIOOBE_FORMATTER" "Ljava/util/function/BiFunction;", .methodLink RJ0 1059 yJ3_checkIndex_8e157, .static yJ3_checkIndex_8e157, .initialized RJ3, .code yJ3_checkIndex_8e157 cJ3_checkIndex_8e157 3 (some .int)])
def wsJ2_length_9d52b : List Cond := .code yJ2_length_9d52b cJ2_length_9d52b 1 (some .int) :: ([])
def wsJ2_checkIndex_2214a : List Cond := .code yJ2_checkIndex_2214a cJ2_checkIndex_2214a 2 none :: ([.methodLink RJ2 48 yJ2_length_9d52b, .static yJ2_length_9d52b, .initialized RJ2, .code yJ2_length_9d52b cJ2_length_9d52b 1 (some .int), .methodLink RJ2 414 yJ0_checkIndex_df160, .static yJ0_checkIndex_df160, .initialized RJ0, .code yJ0_checkIndex_df160 cJ0_checkIndex_df160 2 none, .fieldLink RJ0 1053 "jdk/internal/util/Preconditions" "SIOOBE_FORMATTER" "Ljava/util/function/BiFunction;", .methodLink RJ0 1059 yJ3_checkIndex_8e157, .static yJ3_checkIndex_8e157, .initialized RJ3, .code yJ3_checkIndex_8e157 cJ3_checkIndex_8e157 3 (some .int)])
def wsJ2_getChar_3b067 : List Cond := .code yJ2_getChar_3b067 cJ2_getChar_3b067 2 (some .char) :: ([.fieldLink RJ2 44 "java/lang/StringUTF16" "$assertionsDisabled" "Z", .fieldLink RJ2 59 "java/lang/StringUTF16" "HI_BYTE_SHIFT" "I", .fieldLink RJ2 63 "java/lang/StringUTF16" "LO_BYTE_SHIFT" "I", .methodLink RJ2 48 yJ2_length_9d52b, .static yJ2_length_9d52b, .initialized RJ2, .code yJ2_length_9d52b cJ2_length_9d52b 1 (some .int)])
def wsJ2_charAt_3b067 : List Cond := .code yJ2_charAt_3b067 cJ2_charAt_3b067 2 (some .char) :: ([.methodLink RJ2 67 yJ2_checkIndex_2214a, .static yJ2_checkIndex_2214a, .initialized RJ2, .code yJ2_checkIndex_2214a cJ2_checkIndex_2214a 2 none, .methodLink RJ2 48 yJ2_length_9d52b, .static yJ2_length_9d52b, .code yJ2_length_9d52b cJ2_length_9d52b 1 (some .int), .methodLink RJ2 414 yJ0_checkIndex_df160, .static yJ0_checkIndex_df160, .initialized RJ0, .code yJ0_checkIndex_df160 cJ0_checkIndex_df160 2 none, .fieldLink RJ0 1053 "jdk/internal/util/Preconditions" "SIOOBE_FORMATTER" "Ljava/util/function/BiFunction;", .methodLink RJ0 1059 yJ3_checkIndex_8e157, .static yJ3_checkIndex_8e157, .initialized RJ3, .code yJ3_checkIndex_8e157 cJ3_checkIndex_8e157 3 (some .int), .methodLink RJ2 71 yJ2_getChar_3b067, .static yJ2_getChar_3b067, .code yJ2_getChar_3b067 cJ2_getChar_3b067 2 (some .char), .fieldLink RJ2 44 "java/lang/StringUTF16" "$assertionsDisabled" "Z", .fieldLink RJ2 59 "java/lang/StringUTF16" "HI_BYTE_SHIFT" "I", .fieldLink RJ2 63 "java/lang/StringUTF16" "LO_BYTE_SHIFT" "I"])
def wsJ0_charAt_5068e_r1 : List Cond := [Cond.fieldLink RJ0 9 "java/lang/String" "value" "[B", Cond.methodLink RJ0 492 yJ0_isLatin1_aae02, Cond.instanceMethod yJ0_isLatin1_aae02, Cond.selects RJ0 yJ0_isLatin1_aae02 yJ0_isLatin1_aae02, Cond.initialized RJ0, Cond.code yJ0_isLatin1_aae02 cJ0_isLatin1_aae02 1 (some .boolean), Cond.fieldLink RJ0 38 "java/lang/String" "COMPACT_STRINGS" "Z", Cond.fieldLink RJ0 15 "java/lang/String" "coder" "B", Cond.methodLink RJ0 495 yJ1_charAt_3b067, Cond.static yJ1_charAt_3b067, Cond.initialized RJ1, Cond.code yJ1_charAt_3b067 cJ1_charAt_3b067 2 (some .char), Cond.methodLink RJ1 9 yJ0_checkIndex_df160, Cond.static yJ0_checkIndex_df160, Cond.code yJ0_checkIndex_df160 cJ0_checkIndex_df160 2 none, Cond.fieldLink RJ0 1053 "jdk/internal/util/Preconditions" "SIOOBE_FORMATTER" "Ljava/util/function/BiFunction;", Cond.methodLink RJ0 1059 yJ3_checkIndex_8e157, Cond.static yJ3_checkIndex_8e157, Cond.initialized RJ3, Cond.code yJ3_checkIndex_8e157 cJ3_checkIndex_8e157 3 (some .int), Cond.methodLink RJ0 498 yJ2_charAt_3b067, Cond.static yJ2_charAt_3b067, Cond.initialized RJ2, Cond.code yJ2_charAt_3b067 cJ2_charAt_3b067 2 (some .char)]
def wsJ0_charAt_5068e_r2 : List Cond := [Cond.methodLink RJ2 67 yJ2_checkIndex_2214a, Cond.static yJ2_checkIndex_2214a, Cond.code yJ2_checkIndex_2214a cJ2_checkIndex_2214a 2 none, Cond.methodLink RJ2 48 yJ2_length_9d52b, Cond.static yJ2_length_9d52b, Cond.code yJ2_length_9d52b cJ2_length_9d52b 1 (some .int), Cond.methodLink RJ2 414 yJ0_checkIndex_df160, Cond.methodLink RJ2 71 yJ2_getChar_3b067, Cond.static yJ2_getChar_3b067, Cond.code yJ2_getChar_3b067 cJ2_getChar_3b067 2 (some .char), Cond.fieldLink RJ2 44 "java/lang/StringUTF16" "$assertionsDisabled" "Z", Cond.fieldLink RJ2 59 "java/lang/StringUTF16" "HI_BYTE_SHIFT" "I", Cond.fieldLink RJ2 63 "java/lang/StringUTF16" "LO_BYTE_SHIFT" "I"]
def wsJ0_charAt_5068e : List Cond := .code yJ0_charAt_5068e cJ0_charAt_5068e 2 (some .char) :: ((wsJ0_charAt_5068e_r1 ++ wsJ0_charAt_5068e_r2))
def wsX2_isDigit : List Cond := .code yX2_isDigit cX2_isDigit 1 (some .boolean) :: ([])
def wsX2_readNumber : List Cond := .code yX2_readNumber cX2_readNumber 3 (some .boolean) :: ([.fieldLink RX2 19 "FencedStandbys$OrderText" "at" "I", .fieldLink RX2 29 "FencedStandbys$OrderText" "numbersRead" "I", .fieldLink RX2 25 "FencedStandbys$OrderText" "numbers" "[I", .methodLink RX2 32 yX2_characterAt, .instanceMethod yX2_characterAt, .selects RX2 yX2_characterAt yX2_characterAt, .initialized RX2, .code yX2_characterAt cX2_characterAt 2 (some .char), .fieldLink RX2 15 "FencedStandbys$OrderText" "length" "I", .fieldLink RX2 9 "FencedStandbys$OrderText" "characters" "[C", .methodLink RX2 67 yX2_isDigit, .static yX2_isDigit, .code yX2_isDigit cX2_isDigit 1 (some .boolean)] ++ wsX20)
def wsX2_readPart : List Cond := .code yX2_readPart cX2_readPart 2 (some .boolean) :: ([.fieldLink RX2 19 "FencedStandbys$OrderText" "at" "I", .methodLink RX2 64 yX2_readNumber, .instanceMethod yX2_readNumber, .selects RX2 yX2_readNumber yX2_readNumber, .initialized RX2, .code yX2_readNumber cX2_readNumber 3 (some .boolean), .fieldLink RX2 29 "FencedStandbys$OrderText" "numbersRead" "I", .fieldLink RX2 25 "FencedStandbys$OrderText" "numbers" "[I", .methodLink RX2 32 yX2_characterAt, .instanceMethod yX2_characterAt, .selects RX2 yX2_characterAt yX2_characterAt, .code yX2_characterAt cX2_characterAt 2 (some .char), .fieldLink RX2 15 "FencedStandbys$OrderText" "length" "I", .fieldLink RX2 9 "FencedStandbys$OrderText" "characters" "[C", .methodLink RX2 67 yX2_isDigit, .static yX2_isDigit, .code yX2_isDigit cX2_isDigit 1 (some .boolean)] ++ wsX20)
def wsX2_readOrder_r1 : List Cond := [Cond.fieldLink RX2 19 "FencedStandbys$OrderText" "at" "I", Cond.fieldLink RX2 29 "FencedStandbys$OrderText" "numbersRead" "I", Cond.fieldLink RX2 22 "FencedStandbys$OrderText" "kind" "I", Cond.methodLink RX2 32 yX2_characterAt, Cond.instanceMethod yX2_characterAt, Cond.selects RX2 yX2_characterAt yX2_characterAt, Cond.initialized RX2, Cond.code yX2_characterAt cX2_characterAt 2 (some .char), Cond.fieldLink RX2 15 "FencedStandbys$OrderText" "length" "I", Cond.fieldLink RX2 9 "FencedStandbys$OrderText" "characters" "[C", Cond.methodLink RX2 36 yX2_formBehind, Cond.static yX2_formBehind, Cond.code yX2_formBehind cX2_formBehind 1 (some (.object "java/lang/String")), Cond.methodLink RX2 40 yJ0_isEmpty_aae02, Cond.instanceMethod yJ0_isEmpty_aae02, Cond.selects RJ0 yJ0_isEmpty_aae02 yJ0_isEmpty_aae02, Cond.initialized RJ0, Cond.code yJ0_isEmpty_aae02 cJ0_isEmpty_aae02 1 (some .boolean), Cond.fieldLink RJ0 9 "java/lang/String" "value" "[B", Cond.methodLink RX2 46 yJ0_length_8abf5, Cond.instanceMethod yJ0_length_8abf5, Cond.selects RJ0 yJ0_length_8abf5 yJ0_length_8abf5, Cond.code yJ0_length_8abf5 cJ0_length_8abf5 1 (some .int), Cond.methodLink RJ0 335 yJ0_coder_7d493]
def wsX2_readOrder_r2 : List Cond := [Cond.instanceMethod yJ0_coder_7d493, Cond.selects RJ0 yJ0_coder_7d493 yJ0_coder_7d493, Cond.code yJ0_coder_7d493 cJ0_coder_7d493 1 (some .byte), Cond.fieldLink RJ0 38 "java/lang/String" "COMPACT_STRINGS" "Z", Cond.fieldLink RJ0 15 "java/lang/String" "coder" "B", Cond.methodLink RX2 49 yJ0_charAt_5068e, Cond.instanceMethod yJ0_charAt_5068e, Cond.selects RJ0 yJ0_charAt_5068e yJ0_charAt_5068e, Cond.code yJ0_charAt_5068e cJ0_charAt_5068e 2 (some .char), Cond.methodLink RJ0 492 yJ0_isLatin1_aae02, Cond.instanceMethod yJ0_isLatin1_aae02, Cond.selects RJ0 yJ0_isLatin1_aae02 yJ0_isLatin1_aae02, Cond.code yJ0_isLatin1_aae02 cJ0_isLatin1_aae02 1 (some .boolean), Cond.methodLink RJ0 495 yJ1_charAt_3b067, Cond.static yJ1_charAt_3b067, Cond.initialized RJ1, Cond.code yJ1_charAt_3b067 cJ1_charAt_3b067 2 (some .char), Cond.methodLink RJ1 9 yJ0_checkIndex_df160, Cond.static yJ0_checkIndex_df160, Cond.code yJ0_checkIndex_df160 cJ0_checkIndex_df160 2 none, Cond.fieldLink RJ0 1053 "jdk/internal/util/Preconditions" "SIOOBE_FORMATTER" "Ljava/util/function/BiFunction;", Cond.methodLink RJ0 1059 yJ3_checkIndex_8e157, Cond.static yJ3_checkIndex_8e157, Cond.initialized RJ3]
def wsX2_readOrder_r3 : List Cond := [Cond.code yJ3_checkIndex_8e157 cJ3_checkIndex_8e157 3 (some .int), Cond.methodLink RJ0 498 yJ2_charAt_3b067, Cond.static yJ2_charAt_3b067, Cond.initialized RJ2, Cond.code yJ2_charAt_3b067 cJ2_charAt_3b067 2 (some .char), Cond.methodLink RJ2 67 yJ2_checkIndex_2214a, Cond.static yJ2_checkIndex_2214a, Cond.code yJ2_checkIndex_2214a cJ2_checkIndex_2214a 2 none, Cond.methodLink RJ2 48 yJ2_length_9d52b, Cond.static yJ2_length_9d52b, Cond.code yJ2_length_9d52b cJ2_length_9d52b 1 (some .int), Cond.methodLink RJ2 414 yJ0_checkIndex_df160, Cond.methodLink RJ2 71 yJ2_getChar_3b067, Cond.static yJ2_getChar_3b067, Cond.code yJ2_getChar_3b067 cJ2_getChar_3b067 2 (some .char), Cond.fieldLink RJ2 44 "java/lang/StringUTF16" "$assertionsDisabled" "Z", Cond.fieldLink RJ2 59 "java/lang/StringUTF16" "HI_BYTE_SHIFT" "I", Cond.fieldLink RJ2 63 "java/lang/StringUTF16" "LO_BYTE_SHIFT" "I", Cond.methodLink RX2 52 yX2_readPart, Cond.instanceMethod yX2_readPart, Cond.selects RX2 yX2_readPart yX2_readPart, Cond.code yX2_readPart cX2_readPart 2 (some .boolean), Cond.methodLink RX2 64 yX2_readNumber, Cond.instanceMethod yX2_readNumber]
def wsX2_readOrder_r4 : List Cond := [Cond.selects RX2 yX2_readNumber yX2_readNumber, Cond.code yX2_readNumber cX2_readNumber 3 (some .boolean), Cond.fieldLink RX2 25 "FencedStandbys$OrderText" "numbers" "[I", Cond.methodLink RX2 67 yX2_isDigit, Cond.static yX2_isDigit, Cond.code yX2_isDigit cX2_isDigit 1 (some .boolean)]
def wsX2_readOrder : List Cond := .code yX2_readOrder cX2_readOrder 4 (some .boolean) :: ((wsX2_readOrder_r1 ++ (wsX2_readOrder_r2 ++ (wsX2_readOrder_r3 ++ wsX2_readOrder_r4))) ++ wsX20)
def wsX3_canServe : List Cond := .code yX3_canServe cX3_canServe 2 (some .boolean) :: ([.fieldLink RX3 18 "FencedStandbys$Standby" "astray" "Z", .fieldLink RX3 15 "FencedStandbys$Standby" "applied" "I"] ++ wsX30)
def wsX3_isGap : List Cond := .code yX3_isGap cX3_isGap 2 (some .boolean) :: ([.fieldLink RX3 22 "FencedStandbys$Standby" "gaps" "[Z"] ++ wsX30)
def wsX3_setGap : List Cond := .code yX3_setGap cX3_setGap 2 none :: ([.fieldLink RX3 22 "FencedStandbys$Standby" "gaps" "[Z"] ++ wsX30)
def wsX3_gapCount : List Cond := .code yX3_gapCount cX3_gapCount 3 (some .int) :: ([.fieldLink RX3 22 "FencedStandbys$Standby" "gaps" "[Z"] ++ wsX30)
def wsX3_lowestGap : List Cond := .code yX3_lowestGap cX3_lowestGap 2 (some .int) :: ([.fieldLink RX3 22 "FencedStandbys$Standby" "gaps" "[Z"] ++ wsX30)
def wsX3_reachable : List Cond := .code yX3_reachable cX3_reachable 2 (some .int) :: ([.fieldLink RX3 9 "FencedStandbys$Standby" "received" "I", .methodLink RX3 26 yX3_lowestGap, .instanceMethod yX3_lowestGap, .selects RX3 yX3_lowestGap yX3_lowestGap, .initialized RX3, .code yX3_lowestGap cX3_lowestGap 2 (some .int), .fieldLink RX3 22 "FencedStandbys$Standby" "gaps" "[Z"] ++ wsX30)
def wsX3_dropGapsBehind : List Cond := .code yX3_dropGapsBehind cX3_dropGapsBehind 3 none :: ([.methodLink RX3 30 Lib.Math.max.name, .static Lib.Math.max.name, .initialized "java/lang/Math", .code Lib.Math.max.name Lib.Math.max.code 2 (some .int), .fieldLink RX3 22 "FencedStandbys$Standby" "gaps" "[Z"] ++ wsX30)
def wsX3_standAt : List Cond := .code yX3_standAt cX3_standAt 3 none :: ([.fieldLink RX3 9 "FencedStandbys$Standby" "received" "I", .fieldLink RX3 15 "FencedStandbys$Standby" "applied" "I", .fieldLink RX3 18 "FencedStandbys$Standby" "astray" "Z", .methodLink RX3 36 yX3_dropGapsBehind, .instanceMethod yX3_dropGapsBehind, .selects RX3 yX3_dropGapsBehind yX3_dropGapsBehind, .initialized RX3, .code yX3_dropGapsBehind cX3_dropGapsBehind 3 none, .methodLink RX3 30 Lib.Math.max.name, .static Lib.Math.max.name, .initialized "java/lang/Math", .code Lib.Math.max.name Lib.Math.max.code 2 (some .int), .fieldLink RX3 22 "FencedStandbys$Standby" "gaps" "[Z"] ++ wsX30)
def wsX3_cutTo : List Cond := .code yX3_cutTo cX3_cutTo 2 none :: ([.fieldLink RX3 9 "FencedStandbys$Standby" "received" "I", .methodLink RX3 40 Lib.Math.min.name, .static Lib.Math.min.name, .initialized "java/lang/Math", .code Lib.Math.min.name Lib.Math.min.code 2 (some .int), .fieldLink RX3 15 "FencedStandbys$Standby" "applied" "I", .fieldLink RX3 18 "FencedStandbys$Standby" "astray" "Z", .methodLink RX3 36 yX3_dropGapsBehind, .instanceMethod yX3_dropGapsBehind, .selects RX3 yX3_dropGapsBehind yX3_dropGapsBehind, .initialized RX3, .code yX3_dropGapsBehind cX3_dropGapsBehind 3 none, .methodLink RX3 30 Lib.Math.max.name, .static Lib.Math.max.name, .code Lib.Math.max.name Lib.Math.max.code 2 (some .int), .fieldLink RX3 22 "FencedStandbys$Standby" "gaps" "[Z"] ++ wsX30)
def wsX4_standby : List Cond := .code yX4_standby cX4_standby 2 (some (.object "FencedStandbys$Standby")) :: ([.fieldLink RX4 21 "FencedStandbys$Store" "first" "LFencedStandbys$Standby;", .fieldLink RX4 25 "FencedStandbys$Store" "second" "LFencedStandbys$Standby;"] ++ wsX40)
def wsX4_isPosition : List Cond := .code yX4_isPosition cX4_isPosition 2 (some .boolean) :: ([.fieldLink RX4 12 "FencedStandbys$Store" "log" "LFencedStandbys$Log;", .fieldLink RX4 57 "FencedStandbys$Log" "size" "I"] ++ wsX40 ++ wsX10)
def wsX6_isSlot : List Cond := .code yX6_isSlot cX6_isSlot 1 (some .boolean) :: ([])
def wsX4_transactionIn : List Cond := .code yX4_transactionIn cX4_transactionIn 2 (some .int) :: ([.fieldLink RX4 28 "FencedStandbys$Store" "slots" "[I", .static yX6_isSlot, .initialized RX6, .code yX6_isSlot cX6_isSlot 1 (some .boolean)] ++ wsX40)
def wsX4_openIn : List Cond := .code yX4_openIn cX4_openIn 2 (some .int) :: ([.constant RX4 64 (-1000001), .fieldLink RX4 28 "FencedStandbys$Store" "slots" "[I", .constant RX4 65 (-1000002), .fieldLink RX4 39 "FencedStandbys$Store" "transactions" "I", .static yX6_isSlot, .initialized RX6, .code yX6_isSlot cX6_isSlot 1 (some .boolean)] ++ wsX40)
def wsX6_isKey : List Cond := .code yX6_isKey cX6_isKey 1 (some .boolean) :: ([])
def wsX4_write : List Cond := .code yX4_write cX4_write 5 (some .int) :: ([.constant RX4 65 (-1000002), .fieldLink RX4 12 "FencedStandbys$Store" "log" "LFencedStandbys$Log;", .fieldLink RX4 32 "FencedStandbys$Store" "tick" "I", .methodLink RX4 73 yX1_append, .instanceMethod yX1_append, .selects RX1 yX1_append yX1_append, .initialized RX1, .code yX1_append cX1_append 7 (some .int), .fieldLink RX1 9 "FencedStandbys$Log" "size" "I", .constant RX1 36 (-1000003), .fieldLink RX1 15 "FencedStandbys$Log" "kinds" "[I", .fieldLink RX1 19 "FencedStandbys$Log" "transactions" "[I", .fieldLink RX1 22 "FencedStandbys$Log" "keys" "[I", .fieldLink RX1 25 "FencedStandbys$Log" "values" "[I", .fieldLink RX1 28 "FencedStandbys$Log" "ticks" "[I"] ++ wsX40 ++ wsX10)
def wsX4_putBy_r1 : List Cond := [Cond.constant RX4 64 (-1000001), Cond.fieldLink RX4 28 "FencedStandbys$Store" "slots" "[I", Cond.static yX6_isSlot, Cond.initialized RX6, Cond.code yX6_isSlot cX6_isSlot 1 (some .boolean), Cond.static yX6_isKey, Cond.code yX6_isKey cX6_isKey 1 (some .boolean), Cond.methodLink RX4 69 yX4_write, Cond.instanceMethod yX4_write, Cond.selects RX4 yX4_write yX4_write, Cond.initialized RX4, Cond.code yX4_write cX4_write 5 (some .int), Cond.constant RX4 65 (-1000002), Cond.fieldLink RX4 12 "FencedStandbys$Store" "log" "LFencedStandbys$Log;", Cond.fieldLink RX4 32 "FencedStandbys$Store" "tick" "I", Cond.methodLink RX4 73 yX1_append, Cond.instanceMethod yX1_append, Cond.selects RX1 yX1_append yX1_append, Cond.initialized RX1, Cond.code yX1_append cX1_append 7 (some .int), Cond.fieldLink RX1 9 "FencedStandbys$Log" "size" "I", Cond.constant RX1 36 (-1000003), Cond.fieldLink RX1 15 "FencedStandbys$Log" "kinds" "[I", Cond.fieldLink RX1 19 "FencedStandbys$Log" "transactions" "[I"]
def wsX4_putBy_r2 : List Cond := [Cond.fieldLink RX1 22 "FencedStandbys$Log" "keys" "[I", Cond.fieldLink RX1 25 "FencedStandbys$Log" "values" "[I", Cond.fieldLink RX1 28 "FencedStandbys$Log" "ticks" "[I"]
def wsX4_putBy : List Cond := .code yX4_putBy cX4_putBy 4 (some .int) :: ((wsX4_putBy_r1 ++ wsX4_putBy_r2) ++ wsX40 ++ wsX10)
def wsX4_endIn_r1 : List Cond := [Cond.constant RX4 64 (-1000001), Cond.fieldLink RX4 28 "FencedStandbys$Store" "slots" "[I", Cond.static yX6_isSlot, Cond.initialized RX6, Cond.code yX6_isSlot cX6_isSlot 1 (some .boolean), Cond.methodLink RX4 69 yX4_write, Cond.instanceMethod yX4_write, Cond.selects RX4 yX4_write yX4_write, Cond.initialized RX4, Cond.code yX4_write cX4_write 5 (some .int), Cond.constant RX4 65 (-1000002), Cond.fieldLink RX4 12 "FencedStandbys$Store" "log" "LFencedStandbys$Log;", Cond.fieldLink RX4 32 "FencedStandbys$Store" "tick" "I", Cond.methodLink RX4 73 yX1_append, Cond.instanceMethod yX1_append, Cond.selects RX1 yX1_append yX1_append, Cond.initialized RX1, Cond.code yX1_append cX1_append 7 (some .int), Cond.fieldLink RX1 9 "FencedStandbys$Log" "size" "I", Cond.constant RX1 36 (-1000003), Cond.fieldLink RX1 15 "FencedStandbys$Log" "kinds" "[I", Cond.fieldLink RX1 19 "FencedStandbys$Log" "transactions" "[I", Cond.fieldLink RX1 22 "FencedStandbys$Log" "keys" "[I", Cond.fieldLink RX1 25 "FencedStandbys$Log" "values" "[I"]
def wsX4_endIn_r2 : List Cond := [Cond.fieldLink RX1 28 "FencedStandbys$Log" "ticks" "[I"]
def wsX4_endIn : List Cond := .code yX4_endIn cX4_endIn 4 (some .int) :: ((wsX4_endIn_r1 ++ wsX4_endIn_r2) ++ wsX40 ++ wsX10)
def wsX6_isStandby : List Cond := .code yX6_isStandby cX6_isStandby 1 (some .boolean) :: ([])
def wsX4_shipTo : List Cond := .code yX4_shipTo cX4_shipTo 5 (some .int) :: ([.constant RX4 64 (-1000001), .fieldLink RX4 84 "FencedStandbys$Standby" "astray" "Z", .constant RX4 65 (-1000002), .fieldLink RX4 12 "FencedStandbys$Store" "log" "LFencedStandbys$Log;", .fieldLink RX4 57 "FencedStandbys$Log" "size" "I", .fieldLink RX4 88 "FencedStandbys$Standby" "received" "I", .methodLink RX4 91 Lib.Math.min.name, .static Lib.Math.min.name, .initialized "java/lang/Math", .code Lib.Math.min.name Lib.Math.min.code 2 (some .int), .static yX6_isStandby, .initialized RX6, .code yX6_isStandby cX6_isStandby 1 (some .boolean), .methodLink RX4 80 yX4_standby, .instanceMethod yX4_standby, .selects RX4 yX4_standby yX4_standby, .initialized RX4, .code yX4_standby cX4_standby 2 (some (.object "FencedStandbys$Standby")), .fieldLink RX4 21 "FencedStandbys$Store" "first" "LFencedStandbys$Standby;", .fieldLink RX4 25 "FencedStandbys$Store" "second" "LFencedStandbys$Standby;"] ++ wsX30 ++ wsX40 ++ wsX10)
def wsX4_loseFor_r1 : List Cond := [Cond.constant RX4 64 (-1000001), Cond.fieldLink RX4 84 "FencedStandbys$Standby" "astray" "Z", Cond.fieldLink RX4 88 "FencedStandbys$Standby" "received" "I", Cond.fieldLink RX4 97 "FencedStandbys$Standby" "applied" "I", Cond.constant RX4 65 (-1000002), Cond.fieldLink RX4 45 "FencedStandbys$Store" "recordsLost" "I", Cond.static yX6_isStandby, Cond.initialized RX6, Cond.code yX6_isStandby cX6_isStandby 1 (some .boolean), Cond.methodLink RX4 80 yX4_standby, Cond.instanceMethod yX4_standby, Cond.selects RX4 yX4_standby yX4_standby, Cond.initialized RX4, Cond.code yX4_standby cX4_standby 2 (some (.object "FencedStandbys$Standby")), Cond.fieldLink RX4 21 "FencedStandbys$Store" "first" "LFencedStandbys$Standby;", Cond.fieldLink RX4 25 "FencedStandbys$Store" "second" "LFencedStandbys$Standby;", Cond.methodLink RX4 100 yX3_isGap, Cond.instanceMethod yX3_isGap, Cond.selects RX3 yX3_isGap yX3_isGap, Cond.initialized RX3, Cond.code yX3_isGap cX3_isGap 2 (some .boolean), Cond.fieldLink RX3 22 "FencedStandbys$Standby" "gaps" "[Z", Cond.methodLink RX4 103 yX3_setGap, Cond.instanceMethod yX3_setGap]
def wsX4_loseFor_r2 : List Cond := [Cond.selects RX3 yX3_setGap yX3_setGap, Cond.code yX3_setGap cX3_setGap 2 none, Cond.methodLink RX4 107 yX3_gapCount, Cond.instanceMethod yX3_gapCount, Cond.selects RX3 yX3_gapCount yX3_gapCount, Cond.code yX3_gapCount cX3_gapCount 3 (some .int)]
def wsX4_loseFor : List Cond := .code yX4_loseFor cX4_loseFor 4 (some .int) :: ((wsX4_loseFor_r1 ++ wsX4_loseFor_r2) ++ wsX30 ++ wsX40)
def wsX4_resendTo_r1 : List Cond := [Cond.constant RX4 64 (-1000001), Cond.fieldLink RX4 84 "FencedStandbys$Standby" "astray" "Z", Cond.constant RX4 65 (-1000002), Cond.static yX6_isStandby, Cond.initialized RX6, Cond.code yX6_isStandby cX6_isStandby 1 (some .boolean), Cond.methodLink RX4 80 yX4_standby, Cond.instanceMethod yX4_standby, Cond.selects RX4 yX4_standby yX4_standby, Cond.initialized RX4, Cond.code yX4_standby cX4_standby 2 (some (.object "FencedStandbys$Standby")), Cond.fieldLink RX4 21 "FencedStandbys$Store" "first" "LFencedStandbys$Standby;", Cond.fieldLink RX4 25 "FencedStandbys$Store" "second" "LFencedStandbys$Standby;", Cond.methodLink RX4 107 yX3_gapCount, Cond.instanceMethod yX3_gapCount, Cond.selects RX3 yX3_gapCount yX3_gapCount, Cond.initialized RX3, Cond.code yX3_gapCount cX3_gapCount 3 (some .int), Cond.fieldLink RX3 22 "FencedStandbys$Standby" "gaps" "[Z", Cond.methodLink RX4 111 yX3_dropGapsBehind, Cond.instanceMethod yX3_dropGapsBehind, Cond.selects RX3 yX3_dropGapsBehind yX3_dropGapsBehind, Cond.code yX3_dropGapsBehind cX3_dropGapsBehind 3 none, Cond.methodLink RX3 30 Lib.Math.max.name]
def wsX4_resendTo_r2 : List Cond := [Cond.static Lib.Math.max.name, Cond.initialized "java/lang/Math", Cond.code Lib.Math.max.name Lib.Math.max.code 2 (some .int)]
def wsX4_resendTo : List Cond := .code yX4_resendTo cX4_resendTo 4 (some .int) :: ((wsX4_resendTo_r1 ++ wsX4_resendTo_r2) ++ wsX30 ++ wsX40)
def wsX6_isTicks : List Cond := .code yX6_isTicks cX6_isTicks 1 (some .boolean) :: ([])
def wsX4_appliedAfter : List Cond := .code yX4_appliedAfter cX4_appliedAfter 8 (some .int) :: ([.fieldLink RX4 84 "FencedStandbys$Standby" "astray" "Z", .fieldLink RX4 88 "FencedStandbys$Standby" "received" "I", .fieldLink RX4 12 "FencedStandbys$Store" "log" "LFencedStandbys$Log;", .fieldLink RX4 54 "FencedStandbys$Store" "delay" "I", .methodLink RX4 100 yX3_isGap, .instanceMethod yX3_isGap, .selects RX3 yX3_isGap yX3_isGap, .initialized RX3, .code yX3_isGap cX3_isGap 2 (some .boolean), .fieldLink RX3 22 "FencedStandbys$Standby" "gaps" "[Z", .methodLink RX4 121 yX1_tickOf, .instanceMethod yX1_tickOf, .selects RX1 yX1_tickOf yX1_tickOf, .initialized RX1, .code yX1_tickOf cX1_tickOf 2 (some .int), .fieldLink RX1 28 "FencedStandbys$Log" "ticks" "[I", .constant RX1 35 (-1000004), .methodLink RX1 31 yX1_has, .instanceMethod yX1_has, .selects RX1 yX1_has yX1_has, .code yX1_has cX1_has 2 (some .boolean), .fieldLink RX1 9 "FencedStandbys$Log" "size" "I"] ++ wsX30 ++ wsX40 ++ wsX10)
def wsX4_pass_r1 : List Cond := [Cond.constant RX4 64 (-1000001), Cond.fieldLink RX4 32 "FencedStandbys$Store" "tick" "I", Cond.fieldLink RX4 97 "FencedStandbys$Standby" "applied" "I", Cond.fieldLink RX4 51 "FencedStandbys$Store" "rate" "I", Cond.fieldLink RX4 48 "FencedStandbys$Store" "recordsApplied" "I", Cond.static yX6_isTicks, Cond.initialized RX6, Cond.code yX6_isTicks cX6_isTicks 1 (some .boolean), Cond.methodLink RX4 80 yX4_standby, Cond.instanceMethod yX4_standby, Cond.selects RX4 yX4_standby yX4_standby, Cond.initialized RX4, Cond.code yX4_standby cX4_standby 2 (some (.object "FencedStandbys$Standby")), Cond.fieldLink RX4 21 "FencedStandbys$Store" "first" "LFencedStandbys$Standby;", Cond.fieldLink RX4 25 "FencedStandbys$Store" "second" "LFencedStandbys$Standby;", Cond.methodLink RX4 117 yX4_appliedAfter, Cond.instanceMethod yX4_appliedAfter, Cond.selects RX4 yX4_appliedAfter yX4_appliedAfter, Cond.code yX4_appliedAfter cX4_appliedAfter 8 (some .int), Cond.fieldLink RX4 84 "FencedStandbys$Standby" "astray" "Z", Cond.fieldLink RX4 88 "FencedStandbys$Standby" "received" "I", Cond.fieldLink RX4 12 "FencedStandbys$Store" "log" "LFencedStandbys$Log;", Cond.fieldLink RX4 54 "FencedStandbys$Store" "delay" "I", Cond.methodLink RX4 100 yX3_isGap]
def wsX4_pass_r2 : List Cond := [Cond.instanceMethod yX3_isGap, Cond.selects RX3 yX3_isGap yX3_isGap, Cond.initialized RX3, Cond.code yX3_isGap cX3_isGap 2 (some .boolean), Cond.fieldLink RX3 22 "FencedStandbys$Standby" "gaps" "[Z", Cond.methodLink RX4 121 yX1_tickOf, Cond.instanceMethod yX1_tickOf, Cond.selects RX1 yX1_tickOf yX1_tickOf, Cond.initialized RX1, Cond.code yX1_tickOf cX1_tickOf 2 (some .int), Cond.fieldLink RX1 28 "FencedStandbys$Log" "ticks" "[I", Cond.constant RX1 35 (-1000004), Cond.methodLink RX1 31 yX1_has, Cond.instanceMethod yX1_has, Cond.selects RX1 yX1_has yX1_has, Cond.code yX1_has cX1_has 2 (some .boolean), Cond.fieldLink RX1 9 "FencedStandbys$Log" "size" "I"]
def wsX4_pass : List Cond := .code yX4_pass cX4_pass 7 (some .int) :: ((wsX4_pass_r1 ++ wsX4_pass_r2) ++ wsX40 ++ wsX30 ++ wsX10)
def wsX4_ticksUntil_r1 : List Cond := [Cond.fieldLink RX4 97 "FencedStandbys$Standby" "applied" "I", Cond.fieldLink RX4 32 "FencedStandbys$Store" "tick" "I", Cond.fieldLink RX4 51 "FencedStandbys$Store" "rate" "I", Cond.constant RX4 125 (-1000004), Cond.methodLink RX4 117 yX4_appliedAfter, Cond.instanceMethod yX4_appliedAfter, Cond.selects RX4 yX4_appliedAfter yX4_appliedAfter, Cond.initialized RX4, Cond.code yX4_appliedAfter cX4_appliedAfter 8 (some .int), Cond.fieldLink RX4 84 "FencedStandbys$Standby" "astray" "Z", Cond.fieldLink RX4 88 "FencedStandbys$Standby" "received" "I", Cond.fieldLink RX4 12 "FencedStandbys$Store" "log" "LFencedStandbys$Log;", Cond.fieldLink RX4 54 "FencedStandbys$Store" "delay" "I", Cond.methodLink RX4 100 yX3_isGap, Cond.instanceMethod yX3_isGap, Cond.selects RX3 yX3_isGap yX3_isGap, Cond.initialized RX3, Cond.code yX3_isGap cX3_isGap 2 (some .boolean), Cond.fieldLink RX3 22 "FencedStandbys$Standby" "gaps" "[Z", Cond.methodLink RX4 121 yX1_tickOf, Cond.instanceMethod yX1_tickOf, Cond.selects RX1 yX1_tickOf yX1_tickOf, Cond.initialized RX1, Cond.code yX1_tickOf cX1_tickOf 2 (some .int)]
def wsX4_ticksUntil_r2 : List Cond := [Cond.fieldLink RX1 28 "FencedStandbys$Log" "ticks" "[I", Cond.constant RX1 35 (-1000004), Cond.methodLink RX1 31 yX1_has, Cond.instanceMethod yX1_has, Cond.selects RX1 yX1_has yX1_has, Cond.code yX1_has cX1_has 2 (some .boolean), Cond.fieldLink RX1 9 "FencedStandbys$Log" "size" "I"]
def wsX4_ticksUntil : List Cond := .code yX4_ticksUntil cX4_ticksUntil 5 (some .int) :: ((wsX4_ticksUntil_r1 ++ wsX4_ticksUntil_r2) ++ wsX30 ++ wsX40 ++ wsX10)
def wsX4_comesTo_r1 : List Cond := [Cond.fieldLink RX4 97 "FencedStandbys$Standby" "applied" "I", Cond.fieldLink RX4 32 "FencedStandbys$Store" "tick" "I", Cond.methodLink RX4 117 yX4_appliedAfter, Cond.instanceMethod yX4_appliedAfter, Cond.selects RX4 yX4_appliedAfter yX4_appliedAfter, Cond.initialized RX4, Cond.code yX4_appliedAfter cX4_appliedAfter 8 (some .int), Cond.fieldLink RX4 84 "FencedStandbys$Standby" "astray" "Z", Cond.fieldLink RX4 88 "FencedStandbys$Standby" "received" "I", Cond.fieldLink RX4 12 "FencedStandbys$Store" "log" "LFencedStandbys$Log;", Cond.fieldLink RX4 54 "FencedStandbys$Store" "delay" "I", Cond.methodLink RX4 100 yX3_isGap, Cond.instanceMethod yX3_isGap, Cond.selects RX3 yX3_isGap yX3_isGap, Cond.initialized RX3, Cond.code yX3_isGap cX3_isGap 2 (some .boolean), Cond.fieldLink RX3 22 "FencedStandbys$Standby" "gaps" "[Z", Cond.methodLink RX4 121 yX1_tickOf, Cond.instanceMethod yX1_tickOf, Cond.selects RX1 yX1_tickOf yX1_tickOf, Cond.initialized RX1, Cond.code yX1_tickOf cX1_tickOf 2 (some .int), Cond.fieldLink RX1 28 "FencedStandbys$Log" "ticks" "[I", Cond.constant RX1 35 (-1000004)]
def wsX4_comesTo_r2 : List Cond := [Cond.methodLink RX1 31 yX1_has, Cond.instanceMethod yX1_has, Cond.selects RX1 yX1_has yX1_has, Cond.code yX1_has cX1_has 2 (some .boolean), Cond.fieldLink RX1 9 "FencedStandbys$Log" "size" "I"]
def wsX4_comesTo : List Cond := .code yX4_comesTo cX4_comesTo 7 (some .boolean) :: ((wsX4_comesTo_r1 ++ wsX4_comesTo_r2) ++ wsX30 ++ wsX40 ++ wsX10)
def wsX4_leastRate_r1 : List Cond := [Cond.constant RX4 125 (-1000004), Cond.methodLink RX4 126 yX3_reachable, Cond.instanceMethod yX3_reachable, Cond.selects RX3 yX3_reachable yX3_reachable, Cond.initialized RX3, Cond.code yX3_reachable cX3_reachable 2 (some .int), Cond.fieldLink RX3 9 "FencedStandbys$Standby" "received" "I", Cond.methodLink RX3 26 yX3_lowestGap, Cond.instanceMethod yX3_lowestGap, Cond.selects RX3 yX3_lowestGap yX3_lowestGap, Cond.code yX3_lowestGap cX3_lowestGap 2 (some .int), Cond.fieldLink RX3 22 "FencedStandbys$Standby" "gaps" "[Z", Cond.methodLink RX4 129 yX4_comesTo, Cond.instanceMethod yX4_comesTo, Cond.selects RX4 yX4_comesTo yX4_comesTo, Cond.initialized RX4, Cond.code yX4_comesTo cX4_comesTo 7 (some .boolean), Cond.fieldLink RX4 97 "FencedStandbys$Standby" "applied" "I", Cond.fieldLink RX4 32 "FencedStandbys$Store" "tick" "I", Cond.methodLink RX4 117 yX4_appliedAfter, Cond.instanceMethod yX4_appliedAfter, Cond.selects RX4 yX4_appliedAfter yX4_appliedAfter, Cond.code yX4_appliedAfter cX4_appliedAfter 8 (some .int), Cond.fieldLink RX4 84 "FencedStandbys$Standby" "astray" "Z"]
def wsX4_leastRate_r2 : List Cond := [Cond.fieldLink RX4 88 "FencedStandbys$Standby" "received" "I", Cond.fieldLink RX4 12 "FencedStandbys$Store" "log" "LFencedStandbys$Log;", Cond.fieldLink RX4 54 "FencedStandbys$Store" "delay" "I", Cond.methodLink RX4 100 yX3_isGap, Cond.instanceMethod yX3_isGap, Cond.selects RX3 yX3_isGap yX3_isGap, Cond.code yX3_isGap cX3_isGap 2 (some .boolean), Cond.methodLink RX4 121 yX1_tickOf, Cond.instanceMethod yX1_tickOf, Cond.selects RX1 yX1_tickOf yX1_tickOf, Cond.initialized RX1, Cond.code yX1_tickOf cX1_tickOf 2 (some .int), Cond.fieldLink RX1 28 "FencedStandbys$Log" "ticks" "[I", Cond.constant RX1 35 (-1000004), Cond.methodLink RX1 31 yX1_has, Cond.instanceMethod yX1_has, Cond.selects RX1 yX1_has yX1_has, Cond.code yX1_has cX1_has 2 (some .boolean), Cond.fieldLink RX1 9 "FencedStandbys$Log" "size" "I"]
def wsX4_leastRate : List Cond := .code yX4_leastRate cX4_leastRate 5 (some .int) :: ((wsX4_leastRate_r1 ++ wsX4_leastRate_r2) ++ wsX30 ++ wsX40 ++ wsX10)
def wsX4_promoteTo_r1 : List Cond := [Cond.constant RX4 64 (-1000001), Cond.fieldLink RX4 84 "FencedStandbys$Standby" "astray" "Z", Cond.constant RX4 65 (-1000002), Cond.fieldLink RX4 97 "FencedStandbys$Standby" "applied" "I", Cond.fieldLink RX4 12 "FencedStandbys$Store" "log" "LFencedStandbys$Log;", Cond.fieldLink RX4 57 "FencedStandbys$Log" "size" "I", Cond.fieldLink RX4 28 "FencedStandbys$Store" "slots" "[I", Cond.fieldLink RX4 36 "FencedStandbys$Store" "timeline" "I", Cond.fieldLink RX4 42 "FencedStandbys$Store" "commitsLost" "I", Cond.static yX6_isStandby, Cond.initialized RX6, Cond.code yX6_isStandby cX6_isStandby 1 (some .boolean), Cond.methodLink RX4 80 yX4_standby, Cond.instanceMethod yX4_standby, Cond.selects RX4 yX4_standby yX4_standby, Cond.initialized RX4, Cond.code yX4_standby cX4_standby 2 (some (.object "FencedStandbys$Standby")), Cond.fieldLink RX4 21 "FencedStandbys$Store" "first" "LFencedStandbys$Standby;", Cond.fieldLink RX4 25 "FencedStandbys$Store" "second" "LFencedStandbys$Standby;", Cond.methodLink RX4 133 yX1_commitsBehind, Cond.instanceMethod yX1_commitsBehind, Cond.selects RX1 yX1_commitsBehind yX1_commitsBehind, Cond.initialized RX1, Cond.code yX1_commitsBehind cX1_commitsBehind 4 (some .int)]
def wsX4_promoteTo_r2 : List Cond := [Cond.fieldLink RX1 9 "FencedStandbys$Log" "size" "I", Cond.methodLink RX1 37 yX1_kindOf, Cond.instanceMethod yX1_kindOf, Cond.selects RX1 yX1_kindOf yX1_kindOf, Cond.code yX1_kindOf cX1_kindOf 2 (some .int), Cond.fieldLink RX1 15 "FencedStandbys$Log" "kinds" "[I", Cond.constant RX1 35 (-1000004), Cond.methodLink RX1 31 yX1_has, Cond.instanceMethod yX1_has, Cond.selects RX1 yX1_has yX1_has, Cond.code yX1_has cX1_has 2 (some .boolean), Cond.methodLink RX4 136 yX3_standAt, Cond.instanceMethod yX3_standAt, Cond.selects RX3 yX3_standAt yX3_standAt, Cond.initialized RX3, Cond.code yX3_standAt cX3_standAt 3 none, Cond.fieldLink RX3 9 "FencedStandbys$Standby" "received" "I", Cond.fieldLink RX3 15 "FencedStandbys$Standby" "applied" "I", Cond.fieldLink RX3 18 "FencedStandbys$Standby" "astray" "Z", Cond.methodLink RX3 36 yX3_dropGapsBehind, Cond.instanceMethod yX3_dropGapsBehind, Cond.selects RX3 yX3_dropGapsBehind yX3_dropGapsBehind, Cond.code yX3_dropGapsBehind cX3_dropGapsBehind 3 none, Cond.methodLink RX3 30 Lib.Math.max.name]
def wsX4_promoteTo_r3 : List Cond := [Cond.static Lib.Math.max.name, Cond.initialized "java/lang/Math", Cond.code Lib.Math.max.name Lib.Math.max.code 2 (some .int), Cond.fieldLink RX3 22 "FencedStandbys$Standby" "gaps" "[Z", Cond.methodLink RX4 140 yX3_cutTo, Cond.instanceMethod yX3_cutTo, Cond.selects RX3 yX3_cutTo yX3_cutTo, Cond.code yX3_cutTo cX3_cutTo 2 none, Cond.methodLink RX3 40 Lib.Math.min.name, Cond.static Lib.Math.min.name, Cond.code Lib.Math.min.name Lib.Math.min.code 2 (some .int)]
def wsX4_promoteTo : List Cond := .code yX4_promoteTo cX4_promoteTo 6 (some .int) :: ((wsX4_promoteTo_r1 ++ (wsX4_promoteTo_r2 ++ wsX4_promoteTo_r3)) ++ wsX30 ++ wsX40 ++ wsX10)
def wsX4_rebuildOf_r1 : List Cond := [Cond.constant RX4 64 (-1000001), Cond.fieldLink RX4 12 "FencedStandbys$Store" "log" "LFencedStandbys$Log;", Cond.fieldLink RX4 57 "FencedStandbys$Log" "size" "I", Cond.static yX6_isStandby, Cond.initialized RX6, Cond.code yX6_isStandby cX6_isStandby 1 (some .boolean), Cond.methodLink RX4 80 yX4_standby, Cond.instanceMethod yX4_standby, Cond.selects RX4 yX4_standby yX4_standby, Cond.initialized RX4, Cond.code yX4_standby cX4_standby 2 (some (.object "FencedStandbys$Standby")), Cond.fieldLink RX4 21 "FencedStandbys$Store" "first" "LFencedStandbys$Standby;", Cond.fieldLink RX4 25 "FencedStandbys$Store" "second" "LFencedStandbys$Standby;", Cond.methodLink RX4 136 yX3_standAt, Cond.instanceMethod yX3_standAt, Cond.selects RX3 yX3_standAt yX3_standAt, Cond.initialized RX3, Cond.code yX3_standAt cX3_standAt 3 none, Cond.fieldLink RX3 9 "FencedStandbys$Standby" "received" "I", Cond.fieldLink RX3 15 "FencedStandbys$Standby" "applied" "I", Cond.fieldLink RX3 18 "FencedStandbys$Standby" "astray" "Z", Cond.methodLink RX3 36 yX3_dropGapsBehind, Cond.instanceMethod yX3_dropGapsBehind, Cond.selects RX3 yX3_dropGapsBehind yX3_dropGapsBehind]
def wsX4_rebuildOf_r2 : List Cond := [Cond.code yX3_dropGapsBehind cX3_dropGapsBehind 3 none, Cond.methodLink RX3 30 Lib.Math.max.name, Cond.static Lib.Math.max.name, Cond.initialized "java/lang/Math", Cond.code Lib.Math.max.name Lib.Math.max.code 2 (some .int), Cond.fieldLink RX3 22 "FencedStandbys$Standby" "gaps" "[Z"]
def wsX4_rebuildOf : List Cond := .code yX4_rebuildOf cX4_rebuildOf 2 (some .int) :: ((wsX4_rebuildOf_r1 ++ wsX4_rebuildOf_r2) ++ wsX40 ++ wsX10 ++ wsX30)
def wsX4_setTo : List Cond := .code yX4_setTo cX4_setTo 4 (some .int) :: ([.fieldLink RX4 51 "FencedStandbys$Store" "rate" "I", .fieldLink RX4 54 "FencedStandbys$Store" "delay" "I", .constant RX4 64 (-1000001)] ++ wsX40)
def wsX5_init_r1 : List Cond := [Cond.methodLink RX5 3 objectInit, Cond.instanceMethod objectInit, Cond.code objectInit ⟨#[0xb1]⟩ 1 none, Cond.classLink RX5 9 RX4, Cond.instantiable RX4 12, Cond.initialized RX4, Cond.fieldLink RX5 12 "FencedStandbys$Trial" "store" "LFencedStandbys$Store;", Cond.fieldLink RX5 18 "FencedStandbys$Trial" "orders" "I", Cond.fieldLink RX5 22 "FencedStandbys$Trial" "position" "I", Cond.fieldLink RX5 25 "FencedStandbys$Trial" "reason" "I", Cond.fieldLink RX5 28 "FencedStandbys$Trial" "cause" "I", Cond.instanceMethod yX4_init, Cond.code yX4_init cX4_init 1 none, Cond.methodLink RX4 3 objectInit, Cond.classLink RX4 9 RX1, Cond.instantiable RX1 6, Cond.initialized RX1, Cond.fieldLink RX4 12 "FencedStandbys$Store" "log" "LFencedStandbys$Log;", Cond.classLink RX4 18 RX3, Cond.instantiable RX3 4, Cond.initialized RX3, Cond.fieldLink RX4 21 "FencedStandbys$Store" "first" "LFencedStandbys$Standby;", Cond.fieldLink RX4 25 "FencedStandbys$Store" "second" "LFencedStandbys$Standby;", Cond.arrayClass .int]
def wsX5_init_r2 : List Cond := [Cond.fieldLink RX4 28 "FencedStandbys$Store" "slots" "[I", Cond.fieldLink RX4 32 "FencedStandbys$Store" "tick" "I", Cond.fieldLink RX4 36 "FencedStandbys$Store" "timeline" "I", Cond.fieldLink RX4 39 "FencedStandbys$Store" "transactions" "I", Cond.fieldLink RX4 42 "FencedStandbys$Store" "commitsLost" "I", Cond.fieldLink RX4 45 "FencedStandbys$Store" "recordsLost" "I", Cond.fieldLink RX4 48 "FencedStandbys$Store" "recordsApplied" "I", Cond.fieldLink RX4 51 "FencedStandbys$Store" "rate" "I", Cond.fieldLink RX4 54 "FencedStandbys$Store" "delay" "I", Cond.instanceMethod yX1_init, Cond.code yX1_init cX1_init 1 none, Cond.methodLink RX1 3 objectInit, Cond.fieldLink RX1 9 "FencedStandbys$Log" "size" "I", Cond.fieldLink RX1 15 "FencedStandbys$Log" "kinds" "[I", Cond.fieldLink RX1 19 "FencedStandbys$Log" "transactions" "[I", Cond.fieldLink RX1 22 "FencedStandbys$Log" "keys" "[I", Cond.fieldLink RX1 25 "FencedStandbys$Log" "values" "[I", Cond.fieldLink RX1 28 "FencedStandbys$Log" "ticks" "[I", Cond.instanceMethod yX3_init, Cond.code yX3_init cX3_init 1 none, Cond.methodLink RX3 3 objectInit, Cond.fieldLink RX3 9 "FencedStandbys$Standby" "received" "I", Cond.fieldLink RX3 15 "FencedStandbys$Standby" "applied" "I", Cond.fieldLink RX3 18 "FencedStandbys$Standby" "astray" "Z"]
def wsX5_init_r3 : List Cond := [Cond.arrayClass .boolean, Cond.fieldLink RX3 22 "FencedStandbys$Standby" "gaps" "[Z"]
def wsX5_init : List Cond := .code yX5_init cX5_init 1 none :: ((wsX5_init_r1 ++ (wsX5_init_r2 ++ wsX5_init_r3)) ++ wsX40 ++ wsX50 ++ wsX10 ++ wsX30)
def wsX5_doOrder_r1 : List Cond := [Cond.fieldLink RX5 55 "FencedStandbys$OrderText" "kind" "I", Cond.fieldLink RX5 12 "FencedStandbys$Trial" "store" "LFencedStandbys$Store;", Cond.methodLink RX5 51 yX2_number, Cond.instanceMethod yX2_number, Cond.selects RX2 yX2_number yX2_number, Cond.initialized RX2, Cond.code yX2_number cX2_number 2 (some .int), Cond.fieldLink RX2 29 "FencedStandbys$OrderText" "numbersRead" "I", Cond.fieldLink RX2 25 "FencedStandbys$OrderText" "numbers" "[I", Cond.methodLink RX5 58 yX4_openIn, Cond.instanceMethod yX4_openIn, Cond.selects RX4 yX4_openIn yX4_openIn, Cond.initialized RX4, Cond.code yX4_openIn cX4_openIn 2 (some .int), Cond.constant RX4 64 (-1000001), Cond.fieldLink RX4 28 "FencedStandbys$Store" "slots" "[I", Cond.constant RX4 65 (-1000002), Cond.fieldLink RX4 39 "FencedStandbys$Store" "transactions" "I", Cond.static yX6_isSlot, Cond.initialized RX6, Cond.code yX6_isSlot cX6_isSlot 1 (some .boolean), Cond.methodLink RX5 61 yX4_putBy, Cond.instanceMethod yX4_putBy, Cond.selects RX4 yX4_putBy yX4_putBy]
def wsX5_doOrder_r2 : List Cond := [Cond.code yX4_putBy cX4_putBy 4 (some .int), Cond.static yX6_isKey, Cond.code yX6_isKey cX6_isKey 1 (some .boolean), Cond.methodLink RX4 69 yX4_write, Cond.instanceMethod yX4_write, Cond.selects RX4 yX4_write yX4_write, Cond.code yX4_write cX4_write 5 (some .int), Cond.fieldLink RX4 12 "FencedStandbys$Store" "log" "LFencedStandbys$Log;", Cond.fieldLink RX4 32 "FencedStandbys$Store" "tick" "I", Cond.methodLink RX4 73 yX1_append, Cond.instanceMethod yX1_append, Cond.selects RX1 yX1_append yX1_append, Cond.initialized RX1, Cond.code yX1_append cX1_append 7 (some .int), Cond.fieldLink RX1 9 "FencedStandbys$Log" "size" "I", Cond.constant RX1 36 (-1000003), Cond.fieldLink RX1 15 "FencedStandbys$Log" "kinds" "[I", Cond.fieldLink RX1 19 "FencedStandbys$Log" "transactions" "[I", Cond.fieldLink RX1 22 "FencedStandbys$Log" "keys" "[I", Cond.fieldLink RX1 25 "FencedStandbys$Log" "values" "[I", Cond.fieldLink RX1 28 "FencedStandbys$Log" "ticks" "[I", Cond.methodLink RX5 65 yX4_endIn, Cond.instanceMethod yX4_endIn, Cond.selects RX4 yX4_endIn yX4_endIn]
def wsX5_doOrder_r3 : List Cond := [Cond.code yX4_endIn cX4_endIn 4 (some .int), Cond.methodLink RX5 69 yX4_shipTo, Cond.instanceMethod yX4_shipTo, Cond.selects RX4 yX4_shipTo yX4_shipTo, Cond.code yX4_shipTo cX4_shipTo 5 (some .int), Cond.fieldLink RX4 84 "FencedStandbys$Standby" "astray" "Z", Cond.fieldLink RX4 57 "FencedStandbys$Log" "size" "I", Cond.fieldLink RX4 88 "FencedStandbys$Standby" "received" "I", Cond.methodLink RX4 91 Lib.Math.min.name, Cond.static Lib.Math.min.name, Cond.initialized "java/lang/Math", Cond.code Lib.Math.min.name Lib.Math.min.code 2 (some .int), Cond.static yX6_isStandby, Cond.code yX6_isStandby cX6_isStandby 1 (some .boolean), Cond.methodLink RX4 80 yX4_standby, Cond.instanceMethod yX4_standby, Cond.selects RX4 yX4_standby yX4_standby, Cond.code yX4_standby cX4_standby 2 (some (.object "FencedStandbys$Standby")), Cond.fieldLink RX4 21 "FencedStandbys$Store" "first" "LFencedStandbys$Standby;", Cond.fieldLink RX4 25 "FencedStandbys$Store" "second" "LFencedStandbys$Standby;", Cond.methodLink RX5 72 yX4_pass, Cond.instanceMethod yX4_pass, Cond.selects RX4 yX4_pass yX4_pass, Cond.code yX4_pass cX4_pass 7 (some .int)]
def wsX5_doOrder_r4 : List Cond := [Cond.fieldLink RX4 97 "FencedStandbys$Standby" "applied" "I", Cond.fieldLink RX4 51 "FencedStandbys$Store" "rate" "I", Cond.fieldLink RX4 48 "FencedStandbys$Store" "recordsApplied" "I", Cond.static yX6_isTicks, Cond.code yX6_isTicks cX6_isTicks 1 (some .boolean), Cond.methodLink RX4 117 yX4_appliedAfter, Cond.instanceMethod yX4_appliedAfter, Cond.selects RX4 yX4_appliedAfter yX4_appliedAfter, Cond.code yX4_appliedAfter cX4_appliedAfter 8 (some .int), Cond.fieldLink RX4 54 "FencedStandbys$Store" "delay" "I", Cond.methodLink RX4 100 yX3_isGap, Cond.instanceMethod yX3_isGap, Cond.selects RX3 yX3_isGap yX3_isGap, Cond.initialized RX3, Cond.code yX3_isGap cX3_isGap 2 (some .boolean), Cond.fieldLink RX3 22 "FencedStandbys$Standby" "gaps" "[Z", Cond.methodLink RX4 121 yX1_tickOf, Cond.instanceMethod yX1_tickOf, Cond.selects RX1 yX1_tickOf yX1_tickOf, Cond.code yX1_tickOf cX1_tickOf 2 (some .int), Cond.constant RX1 35 (-1000004), Cond.methodLink RX1 31 yX1_has, Cond.instanceMethod yX1_has, Cond.selects RX1 yX1_has yX1_has]
def wsX5_doOrder_r5 : List Cond := [Cond.code yX1_has cX1_has 2 (some .boolean)]
def wsX5_doOrder : List Cond := .code yX5_doOrder cX5_doOrder 3 (some .int) :: ((wsX5_doOrder_r1 ++ (wsX5_doOrder_r2 ++ (wsX5_doOrder_r3 ++ (wsX5_doOrder_r4 ++ wsX5_doOrder_r5)))) ++ wsX20 ++ wsX50 ++ wsX40 ++ wsX10 ++ wsX30)
def wsX5_run_r1 : List Cond := [Cond.fieldLink RX5 12 "FencedStandbys$Trial" "store" "LFencedStandbys$Store;", Cond.fieldLink RX5 22 "FencedStandbys$Trial" "position" "I", Cond.fieldLink RX5 25 "FencedStandbys$Trial" "reason" "I", Cond.fieldLink RX5 28 "FencedStandbys$Trial" "cause" "I", Cond.fieldLink RX5 18 "FencedStandbys$Trial" "orders" "I", Cond.fieldLink RX5 35 "FencedStandbys$OrderText" "length" "I", Cond.fieldLink RX5 44 "FencedStandbys$OrderText" "at" "I", Cond.methodLink RX5 31 yX4_copyFrom, Cond.instanceMethod yX4_copyFrom, Cond.selects RX4 yX4_copyFrom yX4_copyFrom, Cond.initialized RX4, Cond.code yX4_copyFrom cX4_copyFrom 2 none, Cond.fieldLink RX4 12 "FencedStandbys$Store" "log" "LFencedStandbys$Log;", Cond.fieldLink RX4 21 "FencedStandbys$Store" "first" "LFencedStandbys$Standby;", Cond.fieldLink RX4 25 "FencedStandbys$Store" "second" "LFencedStandbys$Standby;", Cond.fieldLink RX4 28 "FencedStandbys$Store" "slots" "[I", Cond.methodLink RX4 150 arraycopyName, Cond.native arraycopyName, Cond.static arraycopyName, Cond.initialized "java/lang/System", Cond.fieldLink RX4 32 "FencedStandbys$Store" "tick" "I", Cond.fieldLink RX4 36 "FencedStandbys$Store" "timeline" "I", Cond.fieldLink RX4 39 "FencedStandbys$Store" "transactions" "I", Cond.fieldLink RX4 42 "FencedStandbys$Store" "commitsLost" "I"]
def wsX5_run_r2 : List Cond := [Cond.fieldLink RX4 45 "FencedStandbys$Store" "recordsLost" "I", Cond.fieldLink RX4 48 "FencedStandbys$Store" "recordsApplied" "I", Cond.fieldLink RX4 51 "FencedStandbys$Store" "rate" "I", Cond.fieldLink RX4 54 "FencedStandbys$Store" "delay" "I", Cond.methodLink RX4 143 yX1_copyFrom, Cond.instanceMethod yX1_copyFrom, Cond.selects RX1 yX1_copyFrom yX1_copyFrom, Cond.initialized RX1, Cond.code yX1_copyFrom cX1_copyFrom 3 none, Cond.fieldLink RX1 9 "FencedStandbys$Log" "size" "I", Cond.methodLink RX1 70 Lib.Math.min.name, Cond.static Lib.Math.min.name, Cond.initialized "java/lang/Math", Cond.code Lib.Math.min.name Lib.Math.min.code 2 (some .int), Cond.methodLink RX1 75 Lib.Math.max.name, Cond.static Lib.Math.max.name, Cond.code Lib.Math.max.name Lib.Math.max.code 2 (some .int), Cond.fieldLink RX1 15 "FencedStandbys$Log" "kinds" "[I", Cond.methodLink RX1 78 arraycopyName, Cond.fieldLink RX1 19 "FencedStandbys$Log" "transactions" "[I", Cond.fieldLink RX1 22 "FencedStandbys$Log" "keys" "[I", Cond.fieldLink RX1 25 "FencedStandbys$Log" "values" "[I", Cond.fieldLink RX1 28 "FencedStandbys$Log" "ticks" "[I", Cond.methodLink RX4 147 yX3_copyFrom]
def wsX5_run_r3 : List Cond := [Cond.instanceMethod yX3_copyFrom, Cond.selects RX3 yX3_copyFrom yX3_copyFrom, Cond.initialized RX3, Cond.code yX3_copyFrom cX3_copyFrom 2 none, Cond.fieldLink RX3 9 "FencedStandbys$Standby" "received" "I", Cond.fieldLink RX3 15 "FencedStandbys$Standby" "applied" "I", Cond.fieldLink RX3 18 "FencedStandbys$Standby" "astray" "Z", Cond.fieldLink RX3 22 "FencedStandbys$Standby" "gaps" "[Z", Cond.methodLink RX3 43 arraycopyName, Cond.methodLink RX5 40 yX2_readOrder, Cond.instanceMethod yX2_readOrder, Cond.selects RX2 yX2_readOrder yX2_readOrder, Cond.initialized RX2, Cond.code yX2_readOrder cX2_readOrder 4 (some .boolean), Cond.fieldLink RX2 19 "FencedStandbys$OrderText" "at" "I", Cond.fieldLink RX2 29 "FencedStandbys$OrderText" "numbersRead" "I", Cond.fieldLink RX2 22 "FencedStandbys$OrderText" "kind" "I", Cond.methodLink RX2 32 yX2_characterAt, Cond.instanceMethod yX2_characterAt, Cond.selects RX2 yX2_characterAt yX2_characterAt, Cond.code yX2_characterAt cX2_characterAt 2 (some .char), Cond.fieldLink RX2 15 "FencedStandbys$OrderText" "length" "I", Cond.fieldLink RX2 9 "FencedStandbys$OrderText" "characters" "[C", Cond.methodLink RX2 36 yX2_formBehind]
def wsX5_run_r4 : List Cond := [Cond.static yX2_formBehind, Cond.code yX2_formBehind cX2_formBehind 1 (some (.object "java/lang/String")), Cond.methodLink RX2 40 yJ0_isEmpty_aae02, Cond.instanceMethod yJ0_isEmpty_aae02, Cond.selects RJ0 yJ0_isEmpty_aae02 yJ0_isEmpty_aae02, Cond.initialized RJ0, Cond.code yJ0_isEmpty_aae02 cJ0_isEmpty_aae02 1 (some .boolean), Cond.fieldLink RJ0 9 "java/lang/String" "value" "[B", Cond.methodLink RX2 46 yJ0_length_8abf5, Cond.instanceMethod yJ0_length_8abf5, Cond.selects RJ0 yJ0_length_8abf5 yJ0_length_8abf5, Cond.code yJ0_length_8abf5 cJ0_length_8abf5 1 (some .int), Cond.methodLink RJ0 335 yJ0_coder_7d493, Cond.instanceMethod yJ0_coder_7d493, Cond.selects RJ0 yJ0_coder_7d493 yJ0_coder_7d493, Cond.code yJ0_coder_7d493 cJ0_coder_7d493 1 (some .byte), Cond.fieldLink RJ0 38 "java/lang/String" "COMPACT_STRINGS" "Z", Cond.fieldLink RJ0 15 "java/lang/String" "coder" "B", Cond.methodLink RX2 49 yJ0_charAt_5068e, Cond.instanceMethod yJ0_charAt_5068e, Cond.selects RJ0 yJ0_charAt_5068e yJ0_charAt_5068e, Cond.code yJ0_charAt_5068e cJ0_charAt_5068e 2 (some .char), Cond.methodLink RJ0 492 yJ0_isLatin1_aae02, Cond.instanceMethod yJ0_isLatin1_aae02]
def wsX5_run_r5 : List Cond := [Cond.selects RJ0 yJ0_isLatin1_aae02 yJ0_isLatin1_aae02, Cond.code yJ0_isLatin1_aae02 cJ0_isLatin1_aae02 1 (some .boolean), Cond.methodLink RJ0 495 yJ1_charAt_3b067, Cond.static yJ1_charAt_3b067, Cond.initialized RJ1, Cond.code yJ1_charAt_3b067 cJ1_charAt_3b067 2 (some .char), Cond.methodLink RJ1 9 yJ0_checkIndex_df160, Cond.static yJ0_checkIndex_df160, Cond.code yJ0_checkIndex_df160 cJ0_checkIndex_df160 2 none, Cond.fieldLink RJ0 1053 "jdk/internal/util/Preconditions" "SIOOBE_FORMATTER" "Ljava/util/function/BiFunction;", Cond.methodLink RJ0 1059 yJ3_checkIndex_8e157, Cond.static yJ3_checkIndex_8e157, Cond.initialized RJ3, Cond.code yJ3_checkIndex_8e157 cJ3_checkIndex_8e157 3 (some .int), Cond.methodLink RJ0 498 yJ2_charAt_3b067, Cond.static yJ2_charAt_3b067, Cond.initialized RJ2, Cond.code yJ2_charAt_3b067 cJ2_charAt_3b067 2 (some .char), Cond.methodLink RJ2 67 yJ2_checkIndex_2214a, Cond.static yJ2_checkIndex_2214a, Cond.code yJ2_checkIndex_2214a cJ2_checkIndex_2214a 2 none, Cond.methodLink RJ2 48 yJ2_length_9d52b, Cond.static yJ2_length_9d52b, Cond.code yJ2_length_9d52b cJ2_length_9d52b 1 (some .int)]
def wsX5_run_r6 : List Cond := [Cond.methodLink RJ2 414 yJ0_checkIndex_df160, Cond.methodLink RJ2 71 yJ2_getChar_3b067, Cond.static yJ2_getChar_3b067, Cond.code yJ2_getChar_3b067 cJ2_getChar_3b067 2 (some .char), Cond.fieldLink RJ2 44 "java/lang/StringUTF16" "$assertionsDisabled" "Z", Cond.fieldLink RJ2 59 "java/lang/StringUTF16" "HI_BYTE_SHIFT" "I", Cond.fieldLink RJ2 63 "java/lang/StringUTF16" "LO_BYTE_SHIFT" "I", Cond.methodLink RX2 52 yX2_readPart, Cond.instanceMethod yX2_readPart, Cond.selects RX2 yX2_readPart yX2_readPart, Cond.code yX2_readPart cX2_readPart 2 (some .boolean), Cond.methodLink RX2 64 yX2_readNumber, Cond.instanceMethod yX2_readNumber, Cond.selects RX2 yX2_readNumber yX2_readNumber, Cond.code yX2_readNumber cX2_readNumber 3 (some .boolean), Cond.fieldLink RX2 25 "FencedStandbys$OrderText" "numbers" "[I", Cond.methodLink RX2 67 yX2_isDigit, Cond.static yX2_isDigit, Cond.code yX2_isDigit cX2_isDigit 1 (some .boolean), Cond.methodLink RX5 47 yX5_doOrder, Cond.instanceMethod yX5_doOrder, Cond.selects RX5 yX5_doOrder yX5_doOrder, Cond.initialized RX5, Cond.code yX5_doOrder cX5_doOrder 3 (some .int)]
def wsX5_run_r7 : List Cond := [Cond.fieldLink RX5 55 "FencedStandbys$OrderText" "kind" "I", Cond.methodLink RX5 51 yX2_number, Cond.instanceMethod yX2_number, Cond.selects RX2 yX2_number yX2_number, Cond.code yX2_number cX2_number 2 (some .int), Cond.methodLink RX5 58 yX4_openIn, Cond.instanceMethod yX4_openIn, Cond.selects RX4 yX4_openIn yX4_openIn, Cond.code yX4_openIn cX4_openIn 2 (some .int), Cond.constant RX4 64 (-1000001), Cond.constant RX4 65 (-1000002), Cond.static yX6_isSlot, Cond.initialized RX6, Cond.code yX6_isSlot cX6_isSlot 1 (some .boolean), Cond.methodLink RX5 61 yX4_putBy, Cond.instanceMethod yX4_putBy, Cond.selects RX4 yX4_putBy yX4_putBy, Cond.code yX4_putBy cX4_putBy 4 (some .int), Cond.static yX6_isKey, Cond.code yX6_isKey cX6_isKey 1 (some .boolean), Cond.methodLink RX4 69 yX4_write, Cond.instanceMethod yX4_write, Cond.selects RX4 yX4_write yX4_write, Cond.code yX4_write cX4_write 5 (some .int)]
def wsX5_run_r8 : List Cond := [Cond.methodLink RX4 73 yX1_append, Cond.instanceMethod yX1_append, Cond.selects RX1 yX1_append yX1_append, Cond.code yX1_append cX1_append 7 (some .int), Cond.constant RX1 36 (-1000003), Cond.methodLink RX5 65 yX4_endIn, Cond.instanceMethod yX4_endIn, Cond.selects RX4 yX4_endIn yX4_endIn, Cond.code yX4_endIn cX4_endIn 4 (some .int), Cond.methodLink RX5 69 yX4_shipTo, Cond.instanceMethod yX4_shipTo, Cond.selects RX4 yX4_shipTo yX4_shipTo, Cond.code yX4_shipTo cX4_shipTo 5 (some .int), Cond.fieldLink RX4 84 "FencedStandbys$Standby" "astray" "Z", Cond.fieldLink RX4 57 "FencedStandbys$Log" "size" "I", Cond.fieldLink RX4 88 "FencedStandbys$Standby" "received" "I", Cond.methodLink RX4 91 Lib.Math.min.name, Cond.static yX6_isStandby, Cond.code yX6_isStandby cX6_isStandby 1 (some .boolean), Cond.methodLink RX4 80 yX4_standby, Cond.instanceMethod yX4_standby, Cond.selects RX4 yX4_standby yX4_standby, Cond.code yX4_standby cX4_standby 2 (some (.object "FencedStandbys$Standby")), Cond.methodLink RX5 72 yX4_pass]
def wsX5_run_r9 : List Cond := [Cond.instanceMethod yX4_pass, Cond.selects RX4 yX4_pass yX4_pass, Cond.code yX4_pass cX4_pass 7 (some .int), Cond.fieldLink RX4 97 "FencedStandbys$Standby" "applied" "I", Cond.static yX6_isTicks, Cond.code yX6_isTicks cX6_isTicks 1 (some .boolean), Cond.methodLink RX4 117 yX4_appliedAfter, Cond.instanceMethod yX4_appliedAfter, Cond.selects RX4 yX4_appliedAfter yX4_appliedAfter, Cond.code yX4_appliedAfter cX4_appliedAfter 8 (some .int), Cond.methodLink RX4 100 yX3_isGap, Cond.instanceMethod yX3_isGap, Cond.selects RX3 yX3_isGap yX3_isGap, Cond.code yX3_isGap cX3_isGap 2 (some .boolean), Cond.methodLink RX4 121 yX1_tickOf, Cond.instanceMethod yX1_tickOf, Cond.selects RX1 yX1_tickOf yX1_tickOf, Cond.code yX1_tickOf cX1_tickOf 2 (some .int), Cond.constant RX1 35 (-1000004), Cond.methodLink RX1 31 yX1_has, Cond.instanceMethod yX1_has, Cond.selects RX1 yX1_has yX1_has, Cond.code yX1_has cX1_has 2 (some .boolean)]
def wsX5_run : List Cond := .code yX5_run cX5_run 4 none :: ((wsX5_run_r1 ++ (wsX5_run_r2 ++ (wsX5_run_r3 ++ (wsX5_run_r4 ++ (wsX5_run_r5 ++ (wsX5_run_r6 ++ (wsX5_run_r7 ++ (wsX5_run_r8 ++ wsX5_run_r9)))))))) ++ wsX50 ++ wsX20 ++ wsX40 ++ wsX10 ++ wsX30)
def wsX6_init_r1 : List Cond := [Cond.methodLink RX6 1 objectInit, Cond.instanceMethod objectInit, Cond.code objectInit ⟨#[0xb1]⟩ 1 none, Cond.classLink RX6 7 RX4, Cond.instantiable RX4 12, Cond.initialized RX4, Cond.fieldLink RX6 10 "FencedStandbys" "store" "LFencedStandbys$Store;", Cond.classLink RX6 16 RX0, Cond.instantiable RX0 2, Cond.initialized RX0, Cond.fieldLink RX6 19 "FencedStandbys" "history" "LFencedStandbys$History;", Cond.classLink RX6 23 RX2, Cond.instantiable RX2 6, Cond.initialized RX2, Cond.fieldLink RX6 26 "FencedStandbys" "text" "LFencedStandbys$OrderText;", Cond.classLink RX6 30 RX5, Cond.instantiable RX5 5, Cond.initialized RX5, Cond.fieldLink RX6 33 "FencedStandbys" "trial" "LFencedStandbys$Trial;", Cond.arrayClass .int, Cond.fieldLink RX6 37 "FencedStandbys" "valuesSeen" "[I", Cond.fieldLink RX6 41 "FencedStandbys" "valuesAtEnd" "[I", Cond.instanceMethod yX4_init, Cond.code yX4_init cX4_init 1 none]
def wsX6_init_r2 : List Cond := [Cond.methodLink RX4 3 objectInit, Cond.classLink RX4 9 RX1, Cond.instantiable RX1 6, Cond.initialized RX1, Cond.fieldLink RX4 12 "FencedStandbys$Store" "log" "LFencedStandbys$Log;", Cond.classLink RX4 18 RX3, Cond.instantiable RX3 4, Cond.initialized RX3, Cond.fieldLink RX4 21 "FencedStandbys$Store" "first" "LFencedStandbys$Standby;", Cond.fieldLink RX4 25 "FencedStandbys$Store" "second" "LFencedStandbys$Standby;", Cond.fieldLink RX4 28 "FencedStandbys$Store" "slots" "[I", Cond.fieldLink RX4 32 "FencedStandbys$Store" "tick" "I", Cond.fieldLink RX4 36 "FencedStandbys$Store" "timeline" "I", Cond.fieldLink RX4 39 "FencedStandbys$Store" "transactions" "I", Cond.fieldLink RX4 42 "FencedStandbys$Store" "commitsLost" "I", Cond.fieldLink RX4 45 "FencedStandbys$Store" "recordsLost" "I", Cond.fieldLink RX4 48 "FencedStandbys$Store" "recordsApplied" "I", Cond.fieldLink RX4 51 "FencedStandbys$Store" "rate" "I", Cond.fieldLink RX4 54 "FencedStandbys$Store" "delay" "I", Cond.instanceMethod yX1_init, Cond.code yX1_init cX1_init 1 none, Cond.methodLink RX1 3 objectInit, Cond.fieldLink RX1 9 "FencedStandbys$Log" "size" "I", Cond.fieldLink RX1 15 "FencedStandbys$Log" "kinds" "[I"]
def wsX6_init_r3 : List Cond := [Cond.fieldLink RX1 19 "FencedStandbys$Log" "transactions" "[I", Cond.fieldLink RX1 22 "FencedStandbys$Log" "keys" "[I", Cond.fieldLink RX1 25 "FencedStandbys$Log" "values" "[I", Cond.fieldLink RX1 28 "FencedStandbys$Log" "ticks" "[I", Cond.instanceMethod yX3_init, Cond.code yX3_init cX3_init 1 none, Cond.methodLink RX3 3 objectInit, Cond.fieldLink RX3 9 "FencedStandbys$Standby" "received" "I", Cond.fieldLink RX3 15 "FencedStandbys$Standby" "applied" "I", Cond.fieldLink RX3 18 "FencedStandbys$Standby" "astray" "Z", Cond.arrayClass .boolean, Cond.fieldLink RX3 22 "FencedStandbys$Standby" "gaps" "[Z", Cond.methodLink RX6 18 yX0_init, Cond.instanceMethod yX0_init, Cond.code yX0_init cX0_init 2 none, Cond.methodLink RX0 3 objectInit, Cond.classLink RX0 9 RX4, Cond.fieldLink RX0 11 "FencedStandbys$History" "states" "[LFencedStandbys$Store;", Cond.fieldLink RX0 17 "FencedStandbys$History" "size" "I", Cond.instanceMethod yX2_init, Cond.code yX2_init cX2_init 1 none, Cond.methodLink RX2 3 objectInit, Cond.arrayClass .char, Cond.fieldLink RX2 9 "FencedStandbys$OrderText" "characters" "[C"]
def wsX6_init_r4 : List Cond := [Cond.fieldLink RX2 15 "FencedStandbys$OrderText" "length" "I", Cond.fieldLink RX2 19 "FencedStandbys$OrderText" "at" "I", Cond.fieldLink RX2 22 "FencedStandbys$OrderText" "kind" "I", Cond.fieldLink RX2 25 "FencedStandbys$OrderText" "numbers" "[I", Cond.fieldLink RX2 29 "FencedStandbys$OrderText" "numbersRead" "I", Cond.instanceMethod yX5_init, Cond.code yX5_init cX5_init 1 none, Cond.methodLink RX5 3 objectInit, Cond.classLink RX5 9 RX4, Cond.fieldLink RX5 12 "FencedStandbys$Trial" "store" "LFencedStandbys$Store;", Cond.fieldLink RX5 18 "FencedStandbys$Trial" "orders" "I", Cond.fieldLink RX5 22 "FencedStandbys$Trial" "position" "I", Cond.fieldLink RX5 25 "FencedStandbys$Trial" "reason" "I", Cond.fieldLink RX5 28 "FencedStandbys$Trial" "cause" "I"]
def wsX6_init : List Cond := .code yX6_init cX6_init 1 none :: ((wsX6_init_r1 ++ (wsX6_init_r2 ++ (wsX6_init_r3 ++ wsX6_init_r4))) ++ wsX40 ++ wsX60 ++ wsX00 ++ wsX20 ++ wsX50 ++ wsX10 ++ wsX30)
def wsX6_changed : List Cond := .code yX6_changed cX6_changed 2 (some .int) :: ([.fieldLink RX6 19 "FencedStandbys" "history" "LFencedStandbys$History;", .methodLink RX6 252 yX0_keep, .instanceMethod yX0_keep, .selects RX0 yX0_keep yX0_keep, .initialized RX0, .code yX0_keep cX0_keep 3 none, .fieldLink RX0 17 "FencedStandbys$History" "size" "I", .fieldLink RX0 11 "FencedStandbys$History" "states" "[LFencedStandbys$Store;"] ++ wsX60 ++ wsX00)
def wsX6_open_r1 : List Cond := [Cond.fieldLink RX6 19 "FencedStandbys" "history" "LFencedStandbys$History;", Cond.fieldLink RX6 10 "FencedStandbys" "store" "LFencedStandbys$Store;", Cond.methodLink RX6 44 yX0_prepare, Cond.instanceMethod yX0_prepare, Cond.selects RX0 yX0_prepare yX0_prepare, Cond.initialized RX0, Cond.code yX0_prepare cX0_prepare 2 none, Cond.fieldLink RX0 17 "FencedStandbys$History" "size" "I", Cond.fieldLink RX0 11 "FencedStandbys$History" "states" "[LFencedStandbys$Store;", Cond.methodLink RX0 22 yX4_copyFrom, Cond.instanceMethod yX4_copyFrom, Cond.selects RX4 yX4_copyFrom yX4_copyFrom, Cond.initialized RX4, Cond.code yX4_copyFrom cX4_copyFrom 2 none, Cond.fieldLink RX4 12 "FencedStandbys$Store" "log" "LFencedStandbys$Log;", Cond.fieldLink RX4 21 "FencedStandbys$Store" "first" "LFencedStandbys$Standby;", Cond.fieldLink RX4 25 "FencedStandbys$Store" "second" "LFencedStandbys$Standby;", Cond.fieldLink RX4 28 "FencedStandbys$Store" "slots" "[I", Cond.methodLink RX4 150 arraycopyName, Cond.native arraycopyName, Cond.static arraycopyName, Cond.initialized "java/lang/System", Cond.fieldLink RX4 32 "FencedStandbys$Store" "tick" "I", Cond.fieldLink RX4 36 "FencedStandbys$Store" "timeline" "I"]
def wsX6_open_r2 : List Cond := [Cond.fieldLink RX4 39 "FencedStandbys$Store" "transactions" "I", Cond.fieldLink RX4 42 "FencedStandbys$Store" "commitsLost" "I", Cond.fieldLink RX4 45 "FencedStandbys$Store" "recordsLost" "I", Cond.fieldLink RX4 48 "FencedStandbys$Store" "recordsApplied" "I", Cond.fieldLink RX4 51 "FencedStandbys$Store" "rate" "I", Cond.fieldLink RX4 54 "FencedStandbys$Store" "delay" "I", Cond.methodLink RX4 143 yX1_copyFrom, Cond.instanceMethod yX1_copyFrom, Cond.selects RX1 yX1_copyFrom yX1_copyFrom, Cond.initialized RX1, Cond.code yX1_copyFrom cX1_copyFrom 3 none, Cond.fieldLink RX1 9 "FencedStandbys$Log" "size" "I", Cond.methodLink RX1 70 Lib.Math.min.name, Cond.static Lib.Math.min.name, Cond.initialized "java/lang/Math", Cond.code Lib.Math.min.name Lib.Math.min.code 2 (some .int), Cond.methodLink RX1 75 Lib.Math.max.name, Cond.static Lib.Math.max.name, Cond.code Lib.Math.max.name Lib.Math.max.code 2 (some .int), Cond.fieldLink RX1 15 "FencedStandbys$Log" "kinds" "[I", Cond.methodLink RX1 78 arraycopyName, Cond.fieldLink RX1 19 "FencedStandbys$Log" "transactions" "[I", Cond.fieldLink RX1 22 "FencedStandbys$Log" "keys" "[I", Cond.fieldLink RX1 25 "FencedStandbys$Log" "values" "[I"]
def wsX6_open_r3 : List Cond := [Cond.fieldLink RX1 28 "FencedStandbys$Log" "ticks" "[I", Cond.methodLink RX4 147 yX3_copyFrom, Cond.instanceMethod yX3_copyFrom, Cond.selects RX3 yX3_copyFrom yX3_copyFrom, Cond.initialized RX3, Cond.code yX3_copyFrom cX3_copyFrom 2 none, Cond.fieldLink RX3 9 "FencedStandbys$Standby" "received" "I", Cond.fieldLink RX3 15 "FencedStandbys$Standby" "applied" "I", Cond.fieldLink RX3 18 "FencedStandbys$Standby" "astray" "Z", Cond.fieldLink RX3 22 "FencedStandbys$Standby" "gaps" "[Z", Cond.methodLink RX3 43 arraycopyName, Cond.methodLink RX6 48 yX4_openIn, Cond.instanceMethod yX4_openIn, Cond.selects RX4 yX4_openIn yX4_openIn, Cond.code yX4_openIn cX4_openIn 2 (some .int), Cond.constant RX4 64 (-1000001), Cond.constant RX4 65 (-1000002), Cond.static yX6_isSlot, Cond.initialized RX6, Cond.code yX6_isSlot cX6_isSlot 1 (some .boolean), Cond.methodLink RX6 52 yX6_changed, Cond.instanceMethod yX6_changed, Cond.selects RX6 yX6_changed yX6_changed, Cond.code yX6_changed cX6_changed 2 (some .int)]
def wsX6_open_r4 : List Cond := [Cond.methodLink RX6 252 yX0_keep, Cond.instanceMethod yX0_keep, Cond.selects RX0 yX0_keep yX0_keep, Cond.code yX0_keep cX0_keep 3 none]
def wsX6_open : List Cond := .code yX6_open cX6_open 2 (some .int) :: ((wsX6_open_r1 ++ (wsX6_open_r2 ++ (wsX6_open_r3 ++ wsX6_open_r4))) ++ wsX60 ++ wsX00 ++ wsX40 ++ wsX10 ++ wsX30)
def wsX6_put_r1 : List Cond := [Cond.fieldLink RX6 19 "FencedStandbys" "history" "LFencedStandbys$History;", Cond.fieldLink RX6 10 "FencedStandbys" "store" "LFencedStandbys$Store;", Cond.methodLink RX6 44 yX0_prepare, Cond.instanceMethod yX0_prepare, Cond.selects RX0 yX0_prepare yX0_prepare, Cond.initialized RX0, Cond.code yX0_prepare cX0_prepare 2 none, Cond.fieldLink RX0 17 "FencedStandbys$History" "size" "I", Cond.fieldLink RX0 11 "FencedStandbys$History" "states" "[LFencedStandbys$Store;", Cond.methodLink RX0 22 yX4_copyFrom, Cond.instanceMethod yX4_copyFrom, Cond.selects RX4 yX4_copyFrom yX4_copyFrom, Cond.initialized RX4, Cond.code yX4_copyFrom cX4_copyFrom 2 none, Cond.fieldLink RX4 12 "FencedStandbys$Store" "log" "LFencedStandbys$Log;", Cond.fieldLink RX4 21 "FencedStandbys$Store" "first" "LFencedStandbys$Standby;", Cond.fieldLink RX4 25 "FencedStandbys$Store" "second" "LFencedStandbys$Standby;", Cond.fieldLink RX4 28 "FencedStandbys$Store" "slots" "[I", Cond.methodLink RX4 150 arraycopyName, Cond.native arraycopyName, Cond.static arraycopyName, Cond.initialized "java/lang/System", Cond.fieldLink RX4 32 "FencedStandbys$Store" "tick" "I", Cond.fieldLink RX4 36 "FencedStandbys$Store" "timeline" "I"]
def wsX6_put_r2 : List Cond := [Cond.fieldLink RX4 39 "FencedStandbys$Store" "transactions" "I", Cond.fieldLink RX4 42 "FencedStandbys$Store" "commitsLost" "I", Cond.fieldLink RX4 45 "FencedStandbys$Store" "recordsLost" "I", Cond.fieldLink RX4 48 "FencedStandbys$Store" "recordsApplied" "I", Cond.fieldLink RX4 51 "FencedStandbys$Store" "rate" "I", Cond.fieldLink RX4 54 "FencedStandbys$Store" "delay" "I", Cond.methodLink RX4 143 yX1_copyFrom, Cond.instanceMethod yX1_copyFrom, Cond.selects RX1 yX1_copyFrom yX1_copyFrom, Cond.initialized RX1, Cond.code yX1_copyFrom cX1_copyFrom 3 none, Cond.fieldLink RX1 9 "FencedStandbys$Log" "size" "I", Cond.methodLink RX1 70 Lib.Math.min.name, Cond.static Lib.Math.min.name, Cond.initialized "java/lang/Math", Cond.code Lib.Math.min.name Lib.Math.min.code 2 (some .int), Cond.methodLink RX1 75 Lib.Math.max.name, Cond.static Lib.Math.max.name, Cond.code Lib.Math.max.name Lib.Math.max.code 2 (some .int), Cond.fieldLink RX1 15 "FencedStandbys$Log" "kinds" "[I", Cond.methodLink RX1 78 arraycopyName, Cond.fieldLink RX1 19 "FencedStandbys$Log" "transactions" "[I", Cond.fieldLink RX1 22 "FencedStandbys$Log" "keys" "[I", Cond.fieldLink RX1 25 "FencedStandbys$Log" "values" "[I"]
def wsX6_put_r3 : List Cond := [Cond.fieldLink RX1 28 "FencedStandbys$Log" "ticks" "[I", Cond.methodLink RX4 147 yX3_copyFrom, Cond.instanceMethod yX3_copyFrom, Cond.selects RX3 yX3_copyFrom yX3_copyFrom, Cond.initialized RX3, Cond.code yX3_copyFrom cX3_copyFrom 2 none, Cond.fieldLink RX3 9 "FencedStandbys$Standby" "received" "I", Cond.fieldLink RX3 15 "FencedStandbys$Standby" "applied" "I", Cond.fieldLink RX3 18 "FencedStandbys$Standby" "astray" "Z", Cond.fieldLink RX3 22 "FencedStandbys$Standby" "gaps" "[Z", Cond.methodLink RX3 43 arraycopyName, Cond.methodLink RX6 55 yX4_putBy, Cond.instanceMethod yX4_putBy, Cond.selects RX4 yX4_putBy yX4_putBy, Cond.code yX4_putBy cX4_putBy 4 (some .int), Cond.constant RX4 64 (-1000001), Cond.static yX6_isSlot, Cond.initialized RX6, Cond.code yX6_isSlot cX6_isSlot 1 (some .boolean), Cond.static yX6_isKey, Cond.code yX6_isKey cX6_isKey 1 (some .boolean), Cond.methodLink RX4 69 yX4_write, Cond.instanceMethod yX4_write, Cond.selects RX4 yX4_write yX4_write]
def wsX6_put_r4 : List Cond := [Cond.code yX4_write cX4_write 5 (some .int), Cond.constant RX4 65 (-1000002), Cond.methodLink RX4 73 yX1_append, Cond.instanceMethod yX1_append, Cond.selects RX1 yX1_append yX1_append, Cond.code yX1_append cX1_append 7 (some .int), Cond.constant RX1 36 (-1000003), Cond.methodLink RX6 52 yX6_changed, Cond.instanceMethod yX6_changed, Cond.selects RX6 yX6_changed yX6_changed, Cond.code yX6_changed cX6_changed 2 (some .int), Cond.methodLink RX6 252 yX0_keep, Cond.instanceMethod yX0_keep, Cond.selects RX0 yX0_keep yX0_keep, Cond.code yX0_keep cX0_keep 3 none]
def wsX6_put : List Cond := .code yX6_put cX6_put 4 (some .int) :: ((wsX6_put_r1 ++ (wsX6_put_r2 ++ (wsX6_put_r3 ++ wsX6_put_r4))) ++ wsX60 ++ wsX00 ++ wsX40 ++ wsX10 ++ wsX30)
def wsX6_commit_r1 : List Cond := [Cond.fieldLink RX6 19 "FencedStandbys" "history" "LFencedStandbys$History;", Cond.fieldLink RX6 10 "FencedStandbys" "store" "LFencedStandbys$Store;", Cond.methodLink RX6 44 yX0_prepare, Cond.instanceMethod yX0_prepare, Cond.selects RX0 yX0_prepare yX0_prepare, Cond.initialized RX0, Cond.code yX0_prepare cX0_prepare 2 none, Cond.fieldLink RX0 17 "FencedStandbys$History" "size" "I", Cond.fieldLink RX0 11 "FencedStandbys$History" "states" "[LFencedStandbys$Store;", Cond.methodLink RX0 22 yX4_copyFrom, Cond.instanceMethod yX4_copyFrom, Cond.selects RX4 yX4_copyFrom yX4_copyFrom, Cond.initialized RX4, Cond.code yX4_copyFrom cX4_copyFrom 2 none, Cond.fieldLink RX4 12 "FencedStandbys$Store" "log" "LFencedStandbys$Log;", Cond.fieldLink RX4 21 "FencedStandbys$Store" "first" "LFencedStandbys$Standby;", Cond.fieldLink RX4 25 "FencedStandbys$Store" "second" "LFencedStandbys$Standby;", Cond.fieldLink RX4 28 "FencedStandbys$Store" "slots" "[I", Cond.methodLink RX4 150 arraycopyName, Cond.native arraycopyName, Cond.static arraycopyName, Cond.initialized "java/lang/System", Cond.fieldLink RX4 32 "FencedStandbys$Store" "tick" "I", Cond.fieldLink RX4 36 "FencedStandbys$Store" "timeline" "I"]
def wsX6_commit_r2 : List Cond := [Cond.fieldLink RX4 39 "FencedStandbys$Store" "transactions" "I", Cond.fieldLink RX4 42 "FencedStandbys$Store" "commitsLost" "I", Cond.fieldLink RX4 45 "FencedStandbys$Store" "recordsLost" "I", Cond.fieldLink RX4 48 "FencedStandbys$Store" "recordsApplied" "I", Cond.fieldLink RX4 51 "FencedStandbys$Store" "rate" "I", Cond.fieldLink RX4 54 "FencedStandbys$Store" "delay" "I", Cond.methodLink RX4 143 yX1_copyFrom, Cond.instanceMethod yX1_copyFrom, Cond.selects RX1 yX1_copyFrom yX1_copyFrom, Cond.initialized RX1, Cond.code yX1_copyFrom cX1_copyFrom 3 none, Cond.fieldLink RX1 9 "FencedStandbys$Log" "size" "I", Cond.methodLink RX1 70 Lib.Math.min.name, Cond.static Lib.Math.min.name, Cond.initialized "java/lang/Math", Cond.code Lib.Math.min.name Lib.Math.min.code 2 (some .int), Cond.methodLink RX1 75 Lib.Math.max.name, Cond.static Lib.Math.max.name, Cond.code Lib.Math.max.name Lib.Math.max.code 2 (some .int), Cond.fieldLink RX1 15 "FencedStandbys$Log" "kinds" "[I", Cond.methodLink RX1 78 arraycopyName, Cond.fieldLink RX1 19 "FencedStandbys$Log" "transactions" "[I", Cond.fieldLink RX1 22 "FencedStandbys$Log" "keys" "[I", Cond.fieldLink RX1 25 "FencedStandbys$Log" "values" "[I"]
def wsX6_commit_r3 : List Cond := [Cond.fieldLink RX1 28 "FencedStandbys$Log" "ticks" "[I", Cond.methodLink RX4 147 yX3_copyFrom, Cond.instanceMethod yX3_copyFrom, Cond.selects RX3 yX3_copyFrom yX3_copyFrom, Cond.initialized RX3, Cond.code yX3_copyFrom cX3_copyFrom 2 none, Cond.fieldLink RX3 9 "FencedStandbys$Standby" "received" "I", Cond.fieldLink RX3 15 "FencedStandbys$Standby" "applied" "I", Cond.fieldLink RX3 18 "FencedStandbys$Standby" "astray" "Z", Cond.fieldLink RX3 22 "FencedStandbys$Standby" "gaps" "[Z", Cond.methodLink RX3 43 arraycopyName, Cond.methodLink RX6 59 yX4_endIn, Cond.instanceMethod yX4_endIn, Cond.selects RX4 yX4_endIn yX4_endIn, Cond.code yX4_endIn cX4_endIn 4 (some .int), Cond.constant RX4 64 (-1000001), Cond.static yX6_isSlot, Cond.initialized RX6, Cond.code yX6_isSlot cX6_isSlot 1 (some .boolean), Cond.methodLink RX4 69 yX4_write, Cond.instanceMethod yX4_write, Cond.selects RX4 yX4_write yX4_write, Cond.code yX4_write cX4_write 5 (some .int), Cond.constant RX4 65 (-1000002)]
def wsX6_commit_r4 : List Cond := [Cond.methodLink RX4 73 yX1_append, Cond.instanceMethod yX1_append, Cond.selects RX1 yX1_append yX1_append, Cond.code yX1_append cX1_append 7 (some .int), Cond.constant RX1 36 (-1000003), Cond.methodLink RX6 52 yX6_changed, Cond.instanceMethod yX6_changed, Cond.selects RX6 yX6_changed yX6_changed, Cond.code yX6_changed cX6_changed 2 (some .int), Cond.methodLink RX6 252 yX0_keep, Cond.instanceMethod yX0_keep, Cond.selects RX0 yX0_keep yX0_keep, Cond.code yX0_keep cX0_keep 3 none]
def wsX6_commit : List Cond := .code yX6_commit cX6_commit 2 (some .int) :: ((wsX6_commit_r1 ++ (wsX6_commit_r2 ++ (wsX6_commit_r3 ++ wsX6_commit_r4))) ++ wsX60 ++ wsX00 ++ wsX40 ++ wsX10 ++ wsX30)
def wsX6_abort_r1 : List Cond := [Cond.fieldLink RX6 19 "FencedStandbys" "history" "LFencedStandbys$History;", Cond.fieldLink RX6 10 "FencedStandbys" "store" "LFencedStandbys$Store;", Cond.methodLink RX6 44 yX0_prepare, Cond.instanceMethod yX0_prepare, Cond.selects RX0 yX0_prepare yX0_prepare, Cond.initialized RX0, Cond.code yX0_prepare cX0_prepare 2 none, Cond.fieldLink RX0 17 "FencedStandbys$History" "size" "I", Cond.fieldLink RX0 11 "FencedStandbys$History" "states" "[LFencedStandbys$Store;", Cond.methodLink RX0 22 yX4_copyFrom, Cond.instanceMethod yX4_copyFrom, Cond.selects RX4 yX4_copyFrom yX4_copyFrom, Cond.initialized RX4, Cond.code yX4_copyFrom cX4_copyFrom 2 none, Cond.fieldLink RX4 12 "FencedStandbys$Store" "log" "LFencedStandbys$Log;", Cond.fieldLink RX4 21 "FencedStandbys$Store" "first" "LFencedStandbys$Standby;", Cond.fieldLink RX4 25 "FencedStandbys$Store" "second" "LFencedStandbys$Standby;", Cond.fieldLink RX4 28 "FencedStandbys$Store" "slots" "[I", Cond.methodLink RX4 150 arraycopyName, Cond.native arraycopyName, Cond.static arraycopyName, Cond.initialized "java/lang/System", Cond.fieldLink RX4 32 "FencedStandbys$Store" "tick" "I", Cond.fieldLink RX4 36 "FencedStandbys$Store" "timeline" "I"]
def wsX6_abort_r2 : List Cond := [Cond.fieldLink RX4 39 "FencedStandbys$Store" "transactions" "I", Cond.fieldLink RX4 42 "FencedStandbys$Store" "commitsLost" "I", Cond.fieldLink RX4 45 "FencedStandbys$Store" "recordsLost" "I", Cond.fieldLink RX4 48 "FencedStandbys$Store" "recordsApplied" "I", Cond.fieldLink RX4 51 "FencedStandbys$Store" "rate" "I", Cond.fieldLink RX4 54 "FencedStandbys$Store" "delay" "I", Cond.methodLink RX4 143 yX1_copyFrom, Cond.instanceMethod yX1_copyFrom, Cond.selects RX1 yX1_copyFrom yX1_copyFrom, Cond.initialized RX1, Cond.code yX1_copyFrom cX1_copyFrom 3 none, Cond.fieldLink RX1 9 "FencedStandbys$Log" "size" "I", Cond.methodLink RX1 70 Lib.Math.min.name, Cond.static Lib.Math.min.name, Cond.initialized "java/lang/Math", Cond.code Lib.Math.min.name Lib.Math.min.code 2 (some .int), Cond.methodLink RX1 75 Lib.Math.max.name, Cond.static Lib.Math.max.name, Cond.code Lib.Math.max.name Lib.Math.max.code 2 (some .int), Cond.fieldLink RX1 15 "FencedStandbys$Log" "kinds" "[I", Cond.methodLink RX1 78 arraycopyName, Cond.fieldLink RX1 19 "FencedStandbys$Log" "transactions" "[I", Cond.fieldLink RX1 22 "FencedStandbys$Log" "keys" "[I", Cond.fieldLink RX1 25 "FencedStandbys$Log" "values" "[I"]
def wsX6_abort_r3 : List Cond := [Cond.fieldLink RX1 28 "FencedStandbys$Log" "ticks" "[I", Cond.methodLink RX4 147 yX3_copyFrom, Cond.instanceMethod yX3_copyFrom, Cond.selects RX3 yX3_copyFrom yX3_copyFrom, Cond.initialized RX3, Cond.code yX3_copyFrom cX3_copyFrom 2 none, Cond.fieldLink RX3 9 "FencedStandbys$Standby" "received" "I", Cond.fieldLink RX3 15 "FencedStandbys$Standby" "applied" "I", Cond.fieldLink RX3 18 "FencedStandbys$Standby" "astray" "Z", Cond.fieldLink RX3 22 "FencedStandbys$Standby" "gaps" "[Z", Cond.methodLink RX3 43 arraycopyName, Cond.methodLink RX6 59 yX4_endIn, Cond.instanceMethod yX4_endIn, Cond.selects RX4 yX4_endIn yX4_endIn, Cond.code yX4_endIn cX4_endIn 4 (some .int), Cond.constant RX4 64 (-1000001), Cond.static yX6_isSlot, Cond.initialized RX6, Cond.code yX6_isSlot cX6_isSlot 1 (some .boolean), Cond.methodLink RX4 69 yX4_write, Cond.instanceMethod yX4_write, Cond.selects RX4 yX4_write yX4_write, Cond.code yX4_write cX4_write 5 (some .int), Cond.constant RX4 65 (-1000002)]
def wsX6_abort_r4 : List Cond := [Cond.methodLink RX4 73 yX1_append, Cond.instanceMethod yX1_append, Cond.selects RX1 yX1_append yX1_append, Cond.code yX1_append cX1_append 7 (some .int), Cond.constant RX1 36 (-1000003), Cond.methodLink RX6 52 yX6_changed, Cond.instanceMethod yX6_changed, Cond.selects RX6 yX6_changed yX6_changed, Cond.code yX6_changed cX6_changed 2 (some .int), Cond.methodLink RX6 252 yX0_keep, Cond.instanceMethod yX0_keep, Cond.selects RX0 yX0_keep yX0_keep, Cond.code yX0_keep cX0_keep 3 none]
def wsX6_abort : List Cond := .code yX6_abort cX6_abort 2 (some .int) :: ((wsX6_abort_r1 ++ (wsX6_abort_r2 ++ (wsX6_abort_r3 ++ wsX6_abort_r4))) ++ wsX60 ++ wsX00 ++ wsX40 ++ wsX10 ++ wsX30)
def wsX6_ship_r1 : List Cond := [Cond.fieldLink RX6 19 "FencedStandbys" "history" "LFencedStandbys$History;", Cond.fieldLink RX6 10 "FencedStandbys" "store" "LFencedStandbys$Store;", Cond.methodLink RX6 44 yX0_prepare, Cond.instanceMethod yX0_prepare, Cond.selects RX0 yX0_prepare yX0_prepare, Cond.initialized RX0, Cond.code yX0_prepare cX0_prepare 2 none, Cond.fieldLink RX0 17 "FencedStandbys$History" "size" "I", Cond.fieldLink RX0 11 "FencedStandbys$History" "states" "[LFencedStandbys$Store;", Cond.methodLink RX0 22 yX4_copyFrom, Cond.instanceMethod yX4_copyFrom, Cond.selects RX4 yX4_copyFrom yX4_copyFrom, Cond.initialized RX4, Cond.code yX4_copyFrom cX4_copyFrom 2 none, Cond.fieldLink RX4 12 "FencedStandbys$Store" "log" "LFencedStandbys$Log;", Cond.fieldLink RX4 21 "FencedStandbys$Store" "first" "LFencedStandbys$Standby;", Cond.fieldLink RX4 25 "FencedStandbys$Store" "second" "LFencedStandbys$Standby;", Cond.fieldLink RX4 28 "FencedStandbys$Store" "slots" "[I", Cond.methodLink RX4 150 arraycopyName, Cond.native arraycopyName, Cond.static arraycopyName, Cond.initialized "java/lang/System", Cond.fieldLink RX4 32 "FencedStandbys$Store" "tick" "I", Cond.fieldLink RX4 36 "FencedStandbys$Store" "timeline" "I"]
def wsX6_ship_r2 : List Cond := [Cond.fieldLink RX4 39 "FencedStandbys$Store" "transactions" "I", Cond.fieldLink RX4 42 "FencedStandbys$Store" "commitsLost" "I", Cond.fieldLink RX4 45 "FencedStandbys$Store" "recordsLost" "I", Cond.fieldLink RX4 48 "FencedStandbys$Store" "recordsApplied" "I", Cond.fieldLink RX4 51 "FencedStandbys$Store" "rate" "I", Cond.fieldLink RX4 54 "FencedStandbys$Store" "delay" "I", Cond.methodLink RX4 143 yX1_copyFrom, Cond.instanceMethod yX1_copyFrom, Cond.selects RX1 yX1_copyFrom yX1_copyFrom, Cond.initialized RX1, Cond.code yX1_copyFrom cX1_copyFrom 3 none, Cond.fieldLink RX1 9 "FencedStandbys$Log" "size" "I", Cond.methodLink RX1 70 Lib.Math.min.name, Cond.static Lib.Math.min.name, Cond.initialized "java/lang/Math", Cond.code Lib.Math.min.name Lib.Math.min.code 2 (some .int), Cond.methodLink RX1 75 Lib.Math.max.name, Cond.static Lib.Math.max.name, Cond.code Lib.Math.max.name Lib.Math.max.code 2 (some .int), Cond.fieldLink RX1 15 "FencedStandbys$Log" "kinds" "[I", Cond.methodLink RX1 78 arraycopyName, Cond.fieldLink RX1 19 "FencedStandbys$Log" "transactions" "[I", Cond.fieldLink RX1 22 "FencedStandbys$Log" "keys" "[I", Cond.fieldLink RX1 25 "FencedStandbys$Log" "values" "[I"]
def wsX6_ship_r3 : List Cond := [Cond.fieldLink RX1 28 "FencedStandbys$Log" "ticks" "[I", Cond.methodLink RX4 147 yX3_copyFrom, Cond.instanceMethod yX3_copyFrom, Cond.selects RX3 yX3_copyFrom yX3_copyFrom, Cond.initialized RX3, Cond.code yX3_copyFrom cX3_copyFrom 2 none, Cond.fieldLink RX3 9 "FencedStandbys$Standby" "received" "I", Cond.fieldLink RX3 15 "FencedStandbys$Standby" "applied" "I", Cond.fieldLink RX3 18 "FencedStandbys$Standby" "astray" "Z", Cond.fieldLink RX3 22 "FencedStandbys$Standby" "gaps" "[Z", Cond.methodLink RX3 43 arraycopyName, Cond.methodLink RX6 63 yX4_shipTo, Cond.instanceMethod yX4_shipTo, Cond.selects RX4 yX4_shipTo yX4_shipTo, Cond.code yX4_shipTo cX4_shipTo 5 (some .int), Cond.constant RX4 64 (-1000001), Cond.fieldLink RX4 84 "FencedStandbys$Standby" "astray" "Z", Cond.constant RX4 65 (-1000002), Cond.fieldLink RX4 57 "FencedStandbys$Log" "size" "I", Cond.fieldLink RX4 88 "FencedStandbys$Standby" "received" "I", Cond.methodLink RX4 91 Lib.Math.min.name, Cond.static yX6_isStandby, Cond.initialized RX6, Cond.code yX6_isStandby cX6_isStandby 1 (some .boolean)]
def wsX6_ship_r4 : List Cond := [Cond.methodLink RX4 80 yX4_standby, Cond.instanceMethod yX4_standby, Cond.selects RX4 yX4_standby yX4_standby, Cond.code yX4_standby cX4_standby 2 (some (.object "FencedStandbys$Standby")), Cond.methodLink RX6 52 yX6_changed, Cond.instanceMethod yX6_changed, Cond.selects RX6 yX6_changed yX6_changed, Cond.code yX6_changed cX6_changed 2 (some .int), Cond.methodLink RX6 252 yX0_keep, Cond.instanceMethod yX0_keep, Cond.selects RX0 yX0_keep yX0_keep, Cond.code yX0_keep cX0_keep 3 none]
def wsX6_ship : List Cond := .code yX6_ship cX6_ship 3 (some .int) :: ((wsX6_ship_r1 ++ (wsX6_ship_r2 ++ (wsX6_ship_r3 ++ wsX6_ship_r4))) ++ wsX60 ++ wsX00 ++ wsX40 ++ wsX10 ++ wsX30)
def wsX6_lose_r1 : List Cond := [Cond.fieldLink RX6 19 "FencedStandbys" "history" "LFencedStandbys$History;", Cond.fieldLink RX6 10 "FencedStandbys" "store" "LFencedStandbys$Store;", Cond.methodLink RX6 44 yX0_prepare, Cond.instanceMethod yX0_prepare, Cond.selects RX0 yX0_prepare yX0_prepare, Cond.initialized RX0, Cond.code yX0_prepare cX0_prepare 2 none, Cond.fieldLink RX0 17 "FencedStandbys$History" "size" "I", Cond.fieldLink RX0 11 "FencedStandbys$History" "states" "[LFencedStandbys$Store;", Cond.methodLink RX0 22 yX4_copyFrom, Cond.instanceMethod yX4_copyFrom, Cond.selects RX4 yX4_copyFrom yX4_copyFrom, Cond.initialized RX4, Cond.code yX4_copyFrom cX4_copyFrom 2 none, Cond.fieldLink RX4 12 "FencedStandbys$Store" "log" "LFencedStandbys$Log;", Cond.fieldLink RX4 21 "FencedStandbys$Store" "first" "LFencedStandbys$Standby;", Cond.fieldLink RX4 25 "FencedStandbys$Store" "second" "LFencedStandbys$Standby;", Cond.fieldLink RX4 28 "FencedStandbys$Store" "slots" "[I", Cond.methodLink RX4 150 arraycopyName, Cond.native arraycopyName, Cond.static arraycopyName, Cond.initialized "java/lang/System", Cond.fieldLink RX4 32 "FencedStandbys$Store" "tick" "I", Cond.fieldLink RX4 36 "FencedStandbys$Store" "timeline" "I"]
def wsX6_lose_r2 : List Cond := [Cond.fieldLink RX4 39 "FencedStandbys$Store" "transactions" "I", Cond.fieldLink RX4 42 "FencedStandbys$Store" "commitsLost" "I", Cond.fieldLink RX4 45 "FencedStandbys$Store" "recordsLost" "I", Cond.fieldLink RX4 48 "FencedStandbys$Store" "recordsApplied" "I", Cond.fieldLink RX4 51 "FencedStandbys$Store" "rate" "I", Cond.fieldLink RX4 54 "FencedStandbys$Store" "delay" "I", Cond.methodLink RX4 143 yX1_copyFrom, Cond.instanceMethod yX1_copyFrom, Cond.selects RX1 yX1_copyFrom yX1_copyFrom, Cond.initialized RX1, Cond.code yX1_copyFrom cX1_copyFrom 3 none, Cond.fieldLink RX1 9 "FencedStandbys$Log" "size" "I", Cond.methodLink RX1 70 Lib.Math.min.name, Cond.static Lib.Math.min.name, Cond.initialized "java/lang/Math", Cond.code Lib.Math.min.name Lib.Math.min.code 2 (some .int), Cond.methodLink RX1 75 Lib.Math.max.name, Cond.static Lib.Math.max.name, Cond.code Lib.Math.max.name Lib.Math.max.code 2 (some .int), Cond.fieldLink RX1 15 "FencedStandbys$Log" "kinds" "[I", Cond.methodLink RX1 78 arraycopyName, Cond.fieldLink RX1 19 "FencedStandbys$Log" "transactions" "[I", Cond.fieldLink RX1 22 "FencedStandbys$Log" "keys" "[I", Cond.fieldLink RX1 25 "FencedStandbys$Log" "values" "[I"]
def wsX6_lose_r3 : List Cond := [Cond.fieldLink RX1 28 "FencedStandbys$Log" "ticks" "[I", Cond.methodLink RX4 147 yX3_copyFrom, Cond.instanceMethod yX3_copyFrom, Cond.selects RX3 yX3_copyFrom yX3_copyFrom, Cond.initialized RX3, Cond.code yX3_copyFrom cX3_copyFrom 2 none, Cond.fieldLink RX3 9 "FencedStandbys$Standby" "received" "I", Cond.fieldLink RX3 15 "FencedStandbys$Standby" "applied" "I", Cond.fieldLink RX3 18 "FencedStandbys$Standby" "astray" "Z", Cond.fieldLink RX3 22 "FencedStandbys$Standby" "gaps" "[Z", Cond.methodLink RX3 43 arraycopyName, Cond.methodLink RX6 66 yX4_loseFor, Cond.instanceMethod yX4_loseFor, Cond.selects RX4 yX4_loseFor yX4_loseFor, Cond.code yX4_loseFor cX4_loseFor 4 (some .int), Cond.constant RX4 64 (-1000001), Cond.fieldLink RX4 84 "FencedStandbys$Standby" "astray" "Z", Cond.fieldLink RX4 88 "FencedStandbys$Standby" "received" "I", Cond.fieldLink RX4 97 "FencedStandbys$Standby" "applied" "I", Cond.constant RX4 65 (-1000002), Cond.static yX6_isStandby, Cond.initialized RX6, Cond.code yX6_isStandby cX6_isStandby 1 (some .boolean), Cond.methodLink RX4 80 yX4_standby]
def wsX6_lose_r4 : List Cond := [Cond.instanceMethod yX4_standby, Cond.selects RX4 yX4_standby yX4_standby, Cond.code yX4_standby cX4_standby 2 (some (.object "FencedStandbys$Standby")), Cond.methodLink RX4 100 yX3_isGap, Cond.instanceMethod yX3_isGap, Cond.selects RX3 yX3_isGap yX3_isGap, Cond.code yX3_isGap cX3_isGap 2 (some .boolean), Cond.methodLink RX4 103 yX3_setGap, Cond.instanceMethod yX3_setGap, Cond.selects RX3 yX3_setGap yX3_setGap, Cond.code yX3_setGap cX3_setGap 2 none, Cond.methodLink RX4 107 yX3_gapCount, Cond.instanceMethod yX3_gapCount, Cond.selects RX3 yX3_gapCount yX3_gapCount, Cond.code yX3_gapCount cX3_gapCount 3 (some .int), Cond.methodLink RX6 52 yX6_changed, Cond.instanceMethod yX6_changed, Cond.selects RX6 yX6_changed yX6_changed, Cond.code yX6_changed cX6_changed 2 (some .int), Cond.methodLink RX6 252 yX0_keep, Cond.instanceMethod yX0_keep, Cond.selects RX0 yX0_keep yX0_keep, Cond.code yX0_keep cX0_keep 3 none]
def wsX6_lose : List Cond := .code yX6_lose cX6_lose 3 (some .int) :: ((wsX6_lose_r1 ++ (wsX6_lose_r2 ++ (wsX6_lose_r3 ++ wsX6_lose_r4))) ++ wsX60 ++ wsX00 ++ wsX40 ++ wsX10 ++ wsX30)
def wsX6_resend_r1 : List Cond := [Cond.fieldLink RX6 19 "FencedStandbys" "history" "LFencedStandbys$History;", Cond.fieldLink RX6 10 "FencedStandbys" "store" "LFencedStandbys$Store;", Cond.methodLink RX6 44 yX0_prepare, Cond.instanceMethod yX0_prepare, Cond.selects RX0 yX0_prepare yX0_prepare, Cond.initialized RX0, Cond.code yX0_prepare cX0_prepare 2 none, Cond.fieldLink RX0 17 "FencedStandbys$History" "size" "I", Cond.fieldLink RX0 11 "FencedStandbys$History" "states" "[LFencedStandbys$Store;", Cond.methodLink RX0 22 yX4_copyFrom, Cond.instanceMethod yX4_copyFrom, Cond.selects RX4 yX4_copyFrom yX4_copyFrom, Cond.initialized RX4, Cond.code yX4_copyFrom cX4_copyFrom 2 none, Cond.fieldLink RX4 12 "FencedStandbys$Store" "log" "LFencedStandbys$Log;", Cond.fieldLink RX4 21 "FencedStandbys$Store" "first" "LFencedStandbys$Standby;", Cond.fieldLink RX4 25 "FencedStandbys$Store" "second" "LFencedStandbys$Standby;", Cond.fieldLink RX4 28 "FencedStandbys$Store" "slots" "[I", Cond.methodLink RX4 150 arraycopyName, Cond.native arraycopyName, Cond.static arraycopyName, Cond.initialized "java/lang/System", Cond.fieldLink RX4 32 "FencedStandbys$Store" "tick" "I", Cond.fieldLink RX4 36 "FencedStandbys$Store" "timeline" "I"]
def wsX6_resend_r2 : List Cond := [Cond.fieldLink RX4 39 "FencedStandbys$Store" "transactions" "I", Cond.fieldLink RX4 42 "FencedStandbys$Store" "commitsLost" "I", Cond.fieldLink RX4 45 "FencedStandbys$Store" "recordsLost" "I", Cond.fieldLink RX4 48 "FencedStandbys$Store" "recordsApplied" "I", Cond.fieldLink RX4 51 "FencedStandbys$Store" "rate" "I", Cond.fieldLink RX4 54 "FencedStandbys$Store" "delay" "I", Cond.methodLink RX4 143 yX1_copyFrom, Cond.instanceMethod yX1_copyFrom, Cond.selects RX1 yX1_copyFrom yX1_copyFrom, Cond.initialized RX1, Cond.code yX1_copyFrom cX1_copyFrom 3 none, Cond.fieldLink RX1 9 "FencedStandbys$Log" "size" "I", Cond.methodLink RX1 70 Lib.Math.min.name, Cond.static Lib.Math.min.name, Cond.initialized "java/lang/Math", Cond.code Lib.Math.min.name Lib.Math.min.code 2 (some .int), Cond.methodLink RX1 75 Lib.Math.max.name, Cond.static Lib.Math.max.name, Cond.code Lib.Math.max.name Lib.Math.max.code 2 (some .int), Cond.fieldLink RX1 15 "FencedStandbys$Log" "kinds" "[I", Cond.methodLink RX1 78 arraycopyName, Cond.fieldLink RX1 19 "FencedStandbys$Log" "transactions" "[I", Cond.fieldLink RX1 22 "FencedStandbys$Log" "keys" "[I", Cond.fieldLink RX1 25 "FencedStandbys$Log" "values" "[I"]
def wsX6_resend_r3 : List Cond := [Cond.fieldLink RX1 28 "FencedStandbys$Log" "ticks" "[I", Cond.methodLink RX4 147 yX3_copyFrom, Cond.instanceMethod yX3_copyFrom, Cond.selects RX3 yX3_copyFrom yX3_copyFrom, Cond.initialized RX3, Cond.code yX3_copyFrom cX3_copyFrom 2 none, Cond.fieldLink RX3 9 "FencedStandbys$Standby" "received" "I", Cond.fieldLink RX3 15 "FencedStandbys$Standby" "applied" "I", Cond.fieldLink RX3 18 "FencedStandbys$Standby" "astray" "Z", Cond.fieldLink RX3 22 "FencedStandbys$Standby" "gaps" "[Z", Cond.methodLink RX3 43 arraycopyName, Cond.methodLink RX6 69 yX4_resendTo, Cond.instanceMethod yX4_resendTo, Cond.selects RX4 yX4_resendTo yX4_resendTo, Cond.code yX4_resendTo cX4_resendTo 4 (some .int), Cond.constant RX4 64 (-1000001), Cond.fieldLink RX4 84 "FencedStandbys$Standby" "astray" "Z", Cond.constant RX4 65 (-1000002), Cond.static yX6_isStandby, Cond.initialized RX6, Cond.code yX6_isStandby cX6_isStandby 1 (some .boolean), Cond.methodLink RX4 80 yX4_standby, Cond.instanceMethod yX4_standby, Cond.selects RX4 yX4_standby yX4_standby]
def wsX6_resend_r4 : List Cond := [Cond.code yX4_standby cX4_standby 2 (some (.object "FencedStandbys$Standby")), Cond.methodLink RX4 107 yX3_gapCount, Cond.instanceMethod yX3_gapCount, Cond.selects RX3 yX3_gapCount yX3_gapCount, Cond.code yX3_gapCount cX3_gapCount 3 (some .int), Cond.methodLink RX4 111 yX3_dropGapsBehind, Cond.instanceMethod yX3_dropGapsBehind, Cond.selects RX3 yX3_dropGapsBehind yX3_dropGapsBehind, Cond.code yX3_dropGapsBehind cX3_dropGapsBehind 3 none, Cond.methodLink RX3 30 Lib.Math.max.name, Cond.methodLink RX6 52 yX6_changed, Cond.instanceMethod yX6_changed, Cond.selects RX6 yX6_changed yX6_changed, Cond.code yX6_changed cX6_changed 2 (some .int), Cond.methodLink RX6 252 yX0_keep, Cond.instanceMethod yX0_keep, Cond.selects RX0 yX0_keep yX0_keep, Cond.code yX0_keep cX0_keep 3 none]
def wsX6_resend : List Cond := .code yX6_resend cX6_resend 2 (some .int) :: ((wsX6_resend_r1 ++ (wsX6_resend_r2 ++ (wsX6_resend_r3 ++ wsX6_resend_r4))) ++ wsX60 ++ wsX00 ++ wsX40 ++ wsX10 ++ wsX30)
def wsX6_tick_r1 : List Cond := [Cond.fieldLink RX6 19 "FencedStandbys" "history" "LFencedStandbys$History;", Cond.fieldLink RX6 10 "FencedStandbys" "store" "LFencedStandbys$Store;", Cond.methodLink RX6 44 yX0_prepare, Cond.instanceMethod yX0_prepare, Cond.selects RX0 yX0_prepare yX0_prepare, Cond.initialized RX0, Cond.code yX0_prepare cX0_prepare 2 none, Cond.fieldLink RX0 17 "FencedStandbys$History" "size" "I", Cond.fieldLink RX0 11 "FencedStandbys$History" "states" "[LFencedStandbys$Store;", Cond.methodLink RX0 22 yX4_copyFrom, Cond.instanceMethod yX4_copyFrom, Cond.selects RX4 yX4_copyFrom yX4_copyFrom, Cond.initialized RX4, Cond.code yX4_copyFrom cX4_copyFrom 2 none, Cond.fieldLink RX4 12 "FencedStandbys$Store" "log" "LFencedStandbys$Log;", Cond.fieldLink RX4 21 "FencedStandbys$Store" "first" "LFencedStandbys$Standby;", Cond.fieldLink RX4 25 "FencedStandbys$Store" "second" "LFencedStandbys$Standby;", Cond.fieldLink RX4 28 "FencedStandbys$Store" "slots" "[I", Cond.methodLink RX4 150 arraycopyName, Cond.native arraycopyName, Cond.static arraycopyName, Cond.initialized "java/lang/System", Cond.fieldLink RX4 32 "FencedStandbys$Store" "tick" "I", Cond.fieldLink RX4 36 "FencedStandbys$Store" "timeline" "I"]
def wsX6_tick_r2 : List Cond := [Cond.fieldLink RX4 39 "FencedStandbys$Store" "transactions" "I", Cond.fieldLink RX4 42 "FencedStandbys$Store" "commitsLost" "I", Cond.fieldLink RX4 45 "FencedStandbys$Store" "recordsLost" "I", Cond.fieldLink RX4 48 "FencedStandbys$Store" "recordsApplied" "I", Cond.fieldLink RX4 51 "FencedStandbys$Store" "rate" "I", Cond.fieldLink RX4 54 "FencedStandbys$Store" "delay" "I", Cond.methodLink RX4 143 yX1_copyFrom, Cond.instanceMethod yX1_copyFrom, Cond.selects RX1 yX1_copyFrom yX1_copyFrom, Cond.initialized RX1, Cond.code yX1_copyFrom cX1_copyFrom 3 none, Cond.fieldLink RX1 9 "FencedStandbys$Log" "size" "I", Cond.methodLink RX1 70 Lib.Math.min.name, Cond.static Lib.Math.min.name, Cond.initialized "java/lang/Math", Cond.code Lib.Math.min.name Lib.Math.min.code 2 (some .int), Cond.methodLink RX1 75 Lib.Math.max.name, Cond.static Lib.Math.max.name, Cond.code Lib.Math.max.name Lib.Math.max.code 2 (some .int), Cond.fieldLink RX1 15 "FencedStandbys$Log" "kinds" "[I", Cond.methodLink RX1 78 arraycopyName, Cond.fieldLink RX1 19 "FencedStandbys$Log" "transactions" "[I", Cond.fieldLink RX1 22 "FencedStandbys$Log" "keys" "[I", Cond.fieldLink RX1 25 "FencedStandbys$Log" "values" "[I"]
def wsX6_tick_r3 : List Cond := [Cond.fieldLink RX1 28 "FencedStandbys$Log" "ticks" "[I", Cond.methodLink RX4 147 yX3_copyFrom, Cond.instanceMethod yX3_copyFrom, Cond.selects RX3 yX3_copyFrom yX3_copyFrom, Cond.initialized RX3, Cond.code yX3_copyFrom cX3_copyFrom 2 none, Cond.fieldLink RX3 9 "FencedStandbys$Standby" "received" "I", Cond.fieldLink RX3 15 "FencedStandbys$Standby" "applied" "I", Cond.fieldLink RX3 18 "FencedStandbys$Standby" "astray" "Z", Cond.fieldLink RX3 22 "FencedStandbys$Standby" "gaps" "[Z", Cond.methodLink RX3 43 arraycopyName, Cond.methodLink RX6 72 yX4_pass, Cond.instanceMethod yX4_pass, Cond.selects RX4 yX4_pass yX4_pass, Cond.code yX4_pass cX4_pass 7 (some .int), Cond.constant RX4 64 (-1000001), Cond.fieldLink RX4 97 "FencedStandbys$Standby" "applied" "I", Cond.static yX6_isTicks, Cond.initialized RX6, Cond.code yX6_isTicks cX6_isTicks 1 (some .boolean), Cond.methodLink RX4 80 yX4_standby, Cond.instanceMethod yX4_standby, Cond.selects RX4 yX4_standby yX4_standby, Cond.code yX4_standby cX4_standby 2 (some (.object "FencedStandbys$Standby"))]
def wsX6_tick_r4 : List Cond := [Cond.methodLink RX4 117 yX4_appliedAfter, Cond.instanceMethod yX4_appliedAfter, Cond.selects RX4 yX4_appliedAfter yX4_appliedAfter, Cond.code yX4_appliedAfter cX4_appliedAfter 8 (some .int), Cond.fieldLink RX4 84 "FencedStandbys$Standby" "astray" "Z", Cond.fieldLink RX4 88 "FencedStandbys$Standby" "received" "I", Cond.methodLink RX4 100 yX3_isGap, Cond.instanceMethod yX3_isGap, Cond.selects RX3 yX3_isGap yX3_isGap, Cond.code yX3_isGap cX3_isGap 2 (some .boolean), Cond.methodLink RX4 121 yX1_tickOf, Cond.instanceMethod yX1_tickOf, Cond.selects RX1 yX1_tickOf yX1_tickOf, Cond.code yX1_tickOf cX1_tickOf 2 (some .int), Cond.constant RX1 35 (-1000004), Cond.methodLink RX1 31 yX1_has, Cond.instanceMethod yX1_has, Cond.selects RX1 yX1_has yX1_has, Cond.code yX1_has cX1_has 2 (some .boolean), Cond.methodLink RX6 52 yX6_changed, Cond.instanceMethod yX6_changed, Cond.selects RX6 yX6_changed yX6_changed, Cond.code yX6_changed cX6_changed 2 (some .int), Cond.methodLink RX6 252 yX0_keep]
def wsX6_tick_r5 : List Cond := [Cond.instanceMethod yX0_keep, Cond.selects RX0 yX0_keep yX0_keep, Cond.code yX0_keep cX0_keep 3 none]
def wsX6_tick : List Cond := .code yX6_tick cX6_tick 2 (some .int) :: ((wsX6_tick_r1 ++ (wsX6_tick_r2 ++ (wsX6_tick_r3 ++ (wsX6_tick_r4 ++ wsX6_tick_r5)))) ++ wsX60 ++ wsX00 ++ wsX40 ++ wsX10 ++ wsX30)
def wsX6_promote_r1 : List Cond := [Cond.fieldLink RX6 19 "FencedStandbys" "history" "LFencedStandbys$History;", Cond.fieldLink RX6 10 "FencedStandbys" "store" "LFencedStandbys$Store;", Cond.methodLink RX6 44 yX0_prepare, Cond.instanceMethod yX0_prepare, Cond.selects RX0 yX0_prepare yX0_prepare, Cond.initialized RX0, Cond.code yX0_prepare cX0_prepare 2 none, Cond.fieldLink RX0 17 "FencedStandbys$History" "size" "I", Cond.fieldLink RX0 11 "FencedStandbys$History" "states" "[LFencedStandbys$Store;", Cond.methodLink RX0 22 yX4_copyFrom, Cond.instanceMethod yX4_copyFrom, Cond.selects RX4 yX4_copyFrom yX4_copyFrom, Cond.initialized RX4, Cond.code yX4_copyFrom cX4_copyFrom 2 none, Cond.fieldLink RX4 12 "FencedStandbys$Store" "log" "LFencedStandbys$Log;", Cond.fieldLink RX4 21 "FencedStandbys$Store" "first" "LFencedStandbys$Standby;", Cond.fieldLink RX4 25 "FencedStandbys$Store" "second" "LFencedStandbys$Standby;", Cond.fieldLink RX4 28 "FencedStandbys$Store" "slots" "[I", Cond.methodLink RX4 150 arraycopyName, Cond.native arraycopyName, Cond.static arraycopyName, Cond.initialized "java/lang/System", Cond.fieldLink RX4 32 "FencedStandbys$Store" "tick" "I", Cond.fieldLink RX4 36 "FencedStandbys$Store" "timeline" "I"]
def wsX6_promote_r2 : List Cond := [Cond.fieldLink RX4 39 "FencedStandbys$Store" "transactions" "I", Cond.fieldLink RX4 42 "FencedStandbys$Store" "commitsLost" "I", Cond.fieldLink RX4 45 "FencedStandbys$Store" "recordsLost" "I", Cond.fieldLink RX4 48 "FencedStandbys$Store" "recordsApplied" "I", Cond.fieldLink RX4 51 "FencedStandbys$Store" "rate" "I", Cond.fieldLink RX4 54 "FencedStandbys$Store" "delay" "I", Cond.methodLink RX4 143 yX1_copyFrom, Cond.instanceMethod yX1_copyFrom, Cond.selects RX1 yX1_copyFrom yX1_copyFrom, Cond.initialized RX1, Cond.code yX1_copyFrom cX1_copyFrom 3 none, Cond.fieldLink RX1 9 "FencedStandbys$Log" "size" "I", Cond.methodLink RX1 70 Lib.Math.min.name, Cond.static Lib.Math.min.name, Cond.initialized "java/lang/Math", Cond.code Lib.Math.min.name Lib.Math.min.code 2 (some .int), Cond.methodLink RX1 75 Lib.Math.max.name, Cond.static Lib.Math.max.name, Cond.code Lib.Math.max.name Lib.Math.max.code 2 (some .int), Cond.fieldLink RX1 15 "FencedStandbys$Log" "kinds" "[I", Cond.methodLink RX1 78 arraycopyName, Cond.fieldLink RX1 19 "FencedStandbys$Log" "transactions" "[I", Cond.fieldLink RX1 22 "FencedStandbys$Log" "keys" "[I", Cond.fieldLink RX1 25 "FencedStandbys$Log" "values" "[I"]
def wsX6_promote_r3 : List Cond := [Cond.fieldLink RX1 28 "FencedStandbys$Log" "ticks" "[I", Cond.methodLink RX4 147 yX3_copyFrom, Cond.instanceMethod yX3_copyFrom, Cond.selects RX3 yX3_copyFrom yX3_copyFrom, Cond.initialized RX3, Cond.code yX3_copyFrom cX3_copyFrom 2 none, Cond.fieldLink RX3 9 "FencedStandbys$Standby" "received" "I", Cond.fieldLink RX3 15 "FencedStandbys$Standby" "applied" "I", Cond.fieldLink RX3 18 "FencedStandbys$Standby" "astray" "Z", Cond.fieldLink RX3 22 "FencedStandbys$Standby" "gaps" "[Z", Cond.methodLink RX3 43 arraycopyName, Cond.methodLink RX6 75 yX4_promoteTo, Cond.instanceMethod yX4_promoteTo, Cond.selects RX4 yX4_promoteTo yX4_promoteTo, Cond.code yX4_promoteTo cX4_promoteTo 6 (some .int), Cond.constant RX4 64 (-1000001), Cond.fieldLink RX4 84 "FencedStandbys$Standby" "astray" "Z", Cond.constant RX4 65 (-1000002), Cond.fieldLink RX4 97 "FencedStandbys$Standby" "applied" "I", Cond.fieldLink RX4 57 "FencedStandbys$Log" "size" "I", Cond.static yX6_isStandby, Cond.initialized RX6, Cond.code yX6_isStandby cX6_isStandby 1 (some .boolean), Cond.methodLink RX4 80 yX4_standby]
def wsX6_promote_r4 : List Cond := [Cond.instanceMethod yX4_standby, Cond.selects RX4 yX4_standby yX4_standby, Cond.code yX4_standby cX4_standby 2 (some (.object "FencedStandbys$Standby")), Cond.methodLink RX4 133 yX1_commitsBehind, Cond.instanceMethod yX1_commitsBehind, Cond.selects RX1 yX1_commitsBehind yX1_commitsBehind, Cond.code yX1_commitsBehind cX1_commitsBehind 4 (some .int), Cond.methodLink RX1 37 yX1_kindOf, Cond.instanceMethod yX1_kindOf, Cond.selects RX1 yX1_kindOf yX1_kindOf, Cond.code yX1_kindOf cX1_kindOf 2 (some .int), Cond.constant RX1 35 (-1000004), Cond.methodLink RX1 31 yX1_has, Cond.instanceMethod yX1_has, Cond.selects RX1 yX1_has yX1_has, Cond.code yX1_has cX1_has 2 (some .boolean), Cond.methodLink RX4 136 yX3_standAt, Cond.instanceMethod yX3_standAt, Cond.selects RX3 yX3_standAt yX3_standAt, Cond.code yX3_standAt cX3_standAt 3 none, Cond.methodLink RX3 36 yX3_dropGapsBehind, Cond.instanceMethod yX3_dropGapsBehind, Cond.selects RX3 yX3_dropGapsBehind yX3_dropGapsBehind, Cond.code yX3_dropGapsBehind cX3_dropGapsBehind 3 none]
def wsX6_promote_r5 : List Cond := [Cond.methodLink RX3 30 Lib.Math.max.name, Cond.methodLink RX4 140 yX3_cutTo, Cond.instanceMethod yX3_cutTo, Cond.selects RX3 yX3_cutTo yX3_cutTo, Cond.code yX3_cutTo cX3_cutTo 2 none, Cond.methodLink RX3 40 Lib.Math.min.name, Cond.methodLink RX6 52 yX6_changed, Cond.instanceMethod yX6_changed, Cond.selects RX6 yX6_changed yX6_changed, Cond.code yX6_changed cX6_changed 2 (some .int), Cond.methodLink RX6 252 yX0_keep, Cond.instanceMethod yX0_keep, Cond.selects RX0 yX0_keep yX0_keep, Cond.code yX0_keep cX0_keep 3 none]
def wsX6_promote : List Cond := .code yX6_promote cX6_promote 2 (some .int) :: ((wsX6_promote_r1 ++ (wsX6_promote_r2 ++ (wsX6_promote_r3 ++ (wsX6_promote_r4 ++ wsX6_promote_r5)))) ++ wsX60 ++ wsX00 ++ wsX40 ++ wsX10 ++ wsX30)
def wsX6_rebuild_r1 : List Cond := [Cond.fieldLink RX6 19 "FencedStandbys" "history" "LFencedStandbys$History;", Cond.fieldLink RX6 10 "FencedStandbys" "store" "LFencedStandbys$Store;", Cond.methodLink RX6 44 yX0_prepare, Cond.instanceMethod yX0_prepare, Cond.selects RX0 yX0_prepare yX0_prepare, Cond.initialized RX0, Cond.code yX0_prepare cX0_prepare 2 none, Cond.fieldLink RX0 17 "FencedStandbys$History" "size" "I", Cond.fieldLink RX0 11 "FencedStandbys$History" "states" "[LFencedStandbys$Store;", Cond.methodLink RX0 22 yX4_copyFrom, Cond.instanceMethod yX4_copyFrom, Cond.selects RX4 yX4_copyFrom yX4_copyFrom, Cond.initialized RX4, Cond.code yX4_copyFrom cX4_copyFrom 2 none, Cond.fieldLink RX4 12 "FencedStandbys$Store" "log" "LFencedStandbys$Log;", Cond.fieldLink RX4 21 "FencedStandbys$Store" "first" "LFencedStandbys$Standby;", Cond.fieldLink RX4 25 "FencedStandbys$Store" "second" "LFencedStandbys$Standby;", Cond.fieldLink RX4 28 "FencedStandbys$Store" "slots" "[I", Cond.methodLink RX4 150 arraycopyName, Cond.native arraycopyName, Cond.static arraycopyName, Cond.initialized "java/lang/System", Cond.fieldLink RX4 32 "FencedStandbys$Store" "tick" "I", Cond.fieldLink RX4 36 "FencedStandbys$Store" "timeline" "I"]
def wsX6_rebuild_r2 : List Cond := [Cond.fieldLink RX4 39 "FencedStandbys$Store" "transactions" "I", Cond.fieldLink RX4 42 "FencedStandbys$Store" "commitsLost" "I", Cond.fieldLink RX4 45 "FencedStandbys$Store" "recordsLost" "I", Cond.fieldLink RX4 48 "FencedStandbys$Store" "recordsApplied" "I", Cond.fieldLink RX4 51 "FencedStandbys$Store" "rate" "I", Cond.fieldLink RX4 54 "FencedStandbys$Store" "delay" "I", Cond.methodLink RX4 143 yX1_copyFrom, Cond.instanceMethod yX1_copyFrom, Cond.selects RX1 yX1_copyFrom yX1_copyFrom, Cond.initialized RX1, Cond.code yX1_copyFrom cX1_copyFrom 3 none, Cond.fieldLink RX1 9 "FencedStandbys$Log" "size" "I", Cond.methodLink RX1 70 Lib.Math.min.name, Cond.static Lib.Math.min.name, Cond.initialized "java/lang/Math", Cond.code Lib.Math.min.name Lib.Math.min.code 2 (some .int), Cond.methodLink RX1 75 Lib.Math.max.name, Cond.static Lib.Math.max.name, Cond.code Lib.Math.max.name Lib.Math.max.code 2 (some .int), Cond.fieldLink RX1 15 "FencedStandbys$Log" "kinds" "[I", Cond.methodLink RX1 78 arraycopyName, Cond.fieldLink RX1 19 "FencedStandbys$Log" "transactions" "[I", Cond.fieldLink RX1 22 "FencedStandbys$Log" "keys" "[I", Cond.fieldLink RX1 25 "FencedStandbys$Log" "values" "[I"]
def wsX6_rebuild_r3 : List Cond := [Cond.fieldLink RX1 28 "FencedStandbys$Log" "ticks" "[I", Cond.methodLink RX4 147 yX3_copyFrom, Cond.instanceMethod yX3_copyFrom, Cond.selects RX3 yX3_copyFrom yX3_copyFrom, Cond.initialized RX3, Cond.code yX3_copyFrom cX3_copyFrom 2 none, Cond.fieldLink RX3 9 "FencedStandbys$Standby" "received" "I", Cond.fieldLink RX3 15 "FencedStandbys$Standby" "applied" "I", Cond.fieldLink RX3 18 "FencedStandbys$Standby" "astray" "Z", Cond.fieldLink RX3 22 "FencedStandbys$Standby" "gaps" "[Z", Cond.methodLink RX3 43 arraycopyName, Cond.methodLink RX6 78 yX4_rebuildOf, Cond.instanceMethod yX4_rebuildOf, Cond.selects RX4 yX4_rebuildOf yX4_rebuildOf, Cond.code yX4_rebuildOf cX4_rebuildOf 2 (some .int), Cond.constant RX4 64 (-1000001), Cond.fieldLink RX4 57 "FencedStandbys$Log" "size" "I", Cond.static yX6_isStandby, Cond.initialized RX6, Cond.code yX6_isStandby cX6_isStandby 1 (some .boolean), Cond.methodLink RX4 80 yX4_standby, Cond.instanceMethod yX4_standby, Cond.selects RX4 yX4_standby yX4_standby, Cond.code yX4_standby cX4_standby 2 (some (.object "FencedStandbys$Standby"))]
def wsX6_rebuild_r4 : List Cond := [Cond.methodLink RX4 136 yX3_standAt, Cond.instanceMethod yX3_standAt, Cond.selects RX3 yX3_standAt yX3_standAt, Cond.code yX3_standAt cX3_standAt 3 none, Cond.methodLink RX3 36 yX3_dropGapsBehind, Cond.instanceMethod yX3_dropGapsBehind, Cond.selects RX3 yX3_dropGapsBehind yX3_dropGapsBehind, Cond.code yX3_dropGapsBehind cX3_dropGapsBehind 3 none, Cond.methodLink RX3 30 Lib.Math.max.name, Cond.methodLink RX6 52 yX6_changed, Cond.instanceMethod yX6_changed, Cond.selects RX6 yX6_changed yX6_changed, Cond.code yX6_changed cX6_changed 2 (some .int), Cond.methodLink RX6 252 yX0_keep, Cond.instanceMethod yX0_keep, Cond.selects RX0 yX0_keep yX0_keep, Cond.code yX0_keep cX0_keep 3 none]
def wsX6_rebuild : List Cond := .code yX6_rebuild cX6_rebuild 2 (some .int) :: ((wsX6_rebuild_r1 ++ (wsX6_rebuild_r2 ++ (wsX6_rebuild_r3 ++ wsX6_rebuild_r4))) ++ wsX60 ++ wsX00 ++ wsX40 ++ wsX10 ++ wsX30)
def wsX6_set_r1 : List Cond := [Cond.fieldLink RX6 19 "FencedStandbys" "history" "LFencedStandbys$History;", Cond.fieldLink RX6 10 "FencedStandbys" "store" "LFencedStandbys$Store;", Cond.methodLink RX6 44 yX0_prepare, Cond.instanceMethod yX0_prepare, Cond.selects RX0 yX0_prepare yX0_prepare, Cond.initialized RX0, Cond.code yX0_prepare cX0_prepare 2 none, Cond.fieldLink RX0 17 "FencedStandbys$History" "size" "I", Cond.fieldLink RX0 11 "FencedStandbys$History" "states" "[LFencedStandbys$Store;", Cond.methodLink RX0 22 yX4_copyFrom, Cond.instanceMethod yX4_copyFrom, Cond.selects RX4 yX4_copyFrom yX4_copyFrom, Cond.initialized RX4, Cond.code yX4_copyFrom cX4_copyFrom 2 none, Cond.fieldLink RX4 12 "FencedStandbys$Store" "log" "LFencedStandbys$Log;", Cond.fieldLink RX4 21 "FencedStandbys$Store" "first" "LFencedStandbys$Standby;", Cond.fieldLink RX4 25 "FencedStandbys$Store" "second" "LFencedStandbys$Standby;", Cond.fieldLink RX4 28 "FencedStandbys$Store" "slots" "[I", Cond.methodLink RX4 150 arraycopyName, Cond.native arraycopyName, Cond.static arraycopyName, Cond.initialized "java/lang/System", Cond.fieldLink RX4 32 "FencedStandbys$Store" "tick" "I", Cond.fieldLink RX4 36 "FencedStandbys$Store" "timeline" "I"]
def wsX6_set_r2 : List Cond := [Cond.fieldLink RX4 39 "FencedStandbys$Store" "transactions" "I", Cond.fieldLink RX4 42 "FencedStandbys$Store" "commitsLost" "I", Cond.fieldLink RX4 45 "FencedStandbys$Store" "recordsLost" "I", Cond.fieldLink RX4 48 "FencedStandbys$Store" "recordsApplied" "I", Cond.fieldLink RX4 51 "FencedStandbys$Store" "rate" "I", Cond.fieldLink RX4 54 "FencedStandbys$Store" "delay" "I", Cond.methodLink RX4 143 yX1_copyFrom, Cond.instanceMethod yX1_copyFrom, Cond.selects RX1 yX1_copyFrom yX1_copyFrom, Cond.initialized RX1, Cond.code yX1_copyFrom cX1_copyFrom 3 none, Cond.fieldLink RX1 9 "FencedStandbys$Log" "size" "I", Cond.methodLink RX1 70 Lib.Math.min.name, Cond.static Lib.Math.min.name, Cond.initialized "java/lang/Math", Cond.code Lib.Math.min.name Lib.Math.min.code 2 (some .int), Cond.methodLink RX1 75 Lib.Math.max.name, Cond.static Lib.Math.max.name, Cond.code Lib.Math.max.name Lib.Math.max.code 2 (some .int), Cond.fieldLink RX1 15 "FencedStandbys$Log" "kinds" "[I", Cond.methodLink RX1 78 arraycopyName, Cond.fieldLink RX1 19 "FencedStandbys$Log" "transactions" "[I", Cond.fieldLink RX1 22 "FencedStandbys$Log" "keys" "[I", Cond.fieldLink RX1 25 "FencedStandbys$Log" "values" "[I"]
def wsX6_set_r3 : List Cond := [Cond.fieldLink RX1 28 "FencedStandbys$Log" "ticks" "[I", Cond.methodLink RX4 147 yX3_copyFrom, Cond.instanceMethod yX3_copyFrom, Cond.selects RX3 yX3_copyFrom yX3_copyFrom, Cond.initialized RX3, Cond.code yX3_copyFrom cX3_copyFrom 2 none, Cond.fieldLink RX3 9 "FencedStandbys$Standby" "received" "I", Cond.fieldLink RX3 15 "FencedStandbys$Standby" "applied" "I", Cond.fieldLink RX3 18 "FencedStandbys$Standby" "astray" "Z", Cond.fieldLink RX3 22 "FencedStandbys$Standby" "gaps" "[Z", Cond.methodLink RX3 43 arraycopyName, Cond.methodLink RX6 81 yX4_setTo, Cond.instanceMethod yX4_setTo, Cond.selects RX4 yX4_setTo yX4_setTo, Cond.code yX4_setTo cX4_setTo 4 (some .int), Cond.constant RX4 64 (-1000001), Cond.methodLink RX6 52 yX6_changed, Cond.instanceMethod yX6_changed, Cond.selects RX6 yX6_changed yX6_changed, Cond.initialized RX6, Cond.code yX6_changed cX6_changed 2 (some .int), Cond.methodLink RX6 252 yX0_keep, Cond.instanceMethod yX0_keep, Cond.selects RX0 yX0_keep yX0_keep]
def wsX6_set_r4 : List Cond := [Cond.code yX0_keep cX0_keep 3 none]
def wsX6_set : List Cond := .code yX6_set cX6_set 3 (some .int) :: ((wsX6_set_r1 ++ (wsX6_set_r2 ++ (wsX6_set_r3 ++ wsX6_set_r4))) ++ wsX60 ++ wsX00 ++ wsX40 ++ wsX10 ++ wsX30)
def wsX6_read_r1 : List Cond := [Cond.fieldLink RX6 10 "FencedStandbys" "store" "LFencedStandbys$Store;", Cond.constant RX6 94 (-1000001), Cond.constant RX6 104 (-1000002), Cond.fieldLink RX6 105 "FencedStandbys$Store" "log" "LFencedStandbys$Log;", Cond.fieldLink RX6 109 "FencedStandbys$Standby" "applied" "I", Cond.methodLink RX6 84 yX6_isStandby, Cond.static yX6_isStandby, Cond.initialized RX6, Cond.code yX6_isStandby cX6_isStandby 1 (some .boolean), Cond.methodLink RX6 88 yX6_isKey, Cond.static yX6_isKey, Cond.code yX6_isKey cX6_isKey 1 (some .boolean), Cond.methodLink RX6 91 yX4_isPosition, Cond.instanceMethod yX4_isPosition, Cond.selects RX4 yX4_isPosition yX4_isPosition, Cond.initialized RX4, Cond.code yX4_isPosition cX4_isPosition 2 (some .boolean), Cond.fieldLink RX4 12 "FencedStandbys$Store" "log" "LFencedStandbys$Log;", Cond.fieldLink RX4 57 "FencedStandbys$Log" "size" "I", Cond.methodLink RX6 95 yX4_standby, Cond.instanceMethod yX4_standby, Cond.selects RX4 yX4_standby yX4_standby, Cond.code yX4_standby cX4_standby 2 (some (.object "FencedStandbys$Standby")), Cond.fieldLink RX4 21 "FencedStandbys$Store" "first" "LFencedStandbys$Standby;"]
def wsX6_read_r2 : List Cond := [Cond.fieldLink RX4 25 "FencedStandbys$Store" "second" "LFencedStandbys$Standby;", Cond.methodLink RX6 99 yX3_canServe, Cond.instanceMethod yX3_canServe, Cond.selects RX3 yX3_canServe yX3_canServe, Cond.initialized RX3, Cond.code yX3_canServe cX3_canServe 2 (some .boolean), Cond.fieldLink RX3 18 "FencedStandbys$Standby" "astray" "Z", Cond.fieldLink RX3 15 "FencedStandbys$Standby" "applied" "I", Cond.methodLink RX6 113 yX1_valueAt, Cond.instanceMethod yX1_valueAt, Cond.selects RX1 yX1_valueAt yX1_valueAt, Cond.initialized RX1, Cond.code yX1_valueAt cX1_valueAt 4 (some .int), Cond.methodLink RX1 55 yX1_lastCommit, Cond.instanceMethod yX1_lastCommit, Cond.selects RX1 yX1_lastCommit yX1_lastCommit, Cond.code yX1_lastCommit cX1_lastCommit 4 (some .int), Cond.methodLink RX1 37 yX1_kindOf, Cond.instanceMethod yX1_kindOf, Cond.selects RX1 yX1_kindOf yX1_kindOf, Cond.code yX1_kindOf cX1_kindOf 2 (some .int), Cond.fieldLink RX1 15 "FencedStandbys$Log" "kinds" "[I", Cond.constant RX1 35 (-1000004), Cond.methodLink RX1 31 yX1_has]
def wsX6_read_r3 : List Cond := [Cond.instanceMethod yX1_has, Cond.selects RX1 yX1_has yX1_has, Cond.code yX1_has cX1_has 2 (some .boolean), Cond.fieldLink RX1 9 "FencedStandbys$Log" "size" "I", Cond.methodLink RX1 45 yX1_transactionOf, Cond.instanceMethod yX1_transactionOf, Cond.selects RX1 yX1_transactionOf yX1_transactionOf, Cond.code yX1_transactionOf cX1_transactionOf 2 (some .int), Cond.fieldLink RX1 19 "FencedStandbys$Log" "transactions" "[I", Cond.methodLink RX1 51 yX1_lastPut, Cond.instanceMethod yX1_lastPut, Cond.selects RX1 yX1_lastPut yX1_lastPut, Cond.code yX1_lastPut cX1_lastPut 5 (some .int), Cond.methodLink RX1 41 yX1_isPutOf, Cond.instanceMethod yX1_isPutOf, Cond.selects RX1 yX1_isPutOf yX1_isPutOf, Cond.code yX1_isPutOf cX1_isPutOf 3 (some .boolean), Cond.methodLink RX1 48 yX1_keyOf, Cond.instanceMethod yX1_keyOf, Cond.selects RX1 yX1_keyOf yX1_keyOf, Cond.code yX1_keyOf cX1_keyOf 2 (some .int), Cond.fieldLink RX1 22 "FencedStandbys$Log" "keys" "[I", Cond.methodLink RX1 59 yX1_valueIn, Cond.instanceMethod yX1_valueIn]
def wsX6_read_r4 : List Cond := [Cond.selects RX1 yX1_valueIn yX1_valueIn, Cond.code yX1_valueIn cX1_valueIn 2 (some .int), Cond.fieldLink RX1 25 "FencedStandbys$Log" "values" "[I"]
def wsX6_read : List Cond := .code yX6_read cX6_read 5 (some .int) :: ((wsX6_read_r1 ++ (wsX6_read_r2 ++ (wsX6_read_r3 ++ wsX6_read_r4))) ++ wsX60 ++ wsX40 ++ wsX30 ++ wsX10)
def wsX6_primary_r1 : List Cond := [Cond.constant RX6 94 (-1000001), Cond.fieldLink RX6 10 "FencedStandbys" "store" "LFencedStandbys$Store;", Cond.fieldLink RX6 105 "FencedStandbys$Store" "log" "LFencedStandbys$Log;", Cond.fieldLink RX6 121 "FencedStandbys$Log" "size" "I", Cond.constant RX6 104 (-1000002), Cond.methodLink RX6 118 yX6_isSlot, Cond.static yX6_isSlot, Cond.initialized RX6, Cond.code yX6_isSlot cX6_isSlot 1 (some .boolean), Cond.methodLink RX6 88 yX6_isKey, Cond.static yX6_isKey, Cond.code yX6_isKey cX6_isKey 1 (some .boolean), Cond.methodLink RX6 113 yX1_valueAt, Cond.instanceMethod yX1_valueAt, Cond.selects RX1 yX1_valueAt yX1_valueAt, Cond.initialized RX1, Cond.code yX1_valueAt cX1_valueAt 4 (some .int), Cond.methodLink RX1 55 yX1_lastCommit, Cond.instanceMethod yX1_lastCommit, Cond.selects RX1 yX1_lastCommit yX1_lastCommit, Cond.code yX1_lastCommit cX1_lastCommit 4 (some .int), Cond.methodLink RX1 37 yX1_kindOf, Cond.instanceMethod yX1_kindOf, Cond.selects RX1 yX1_kindOf yX1_kindOf]
def wsX6_primary_r2 : List Cond := [Cond.code yX1_kindOf cX1_kindOf 2 (some .int), Cond.fieldLink RX1 15 "FencedStandbys$Log" "kinds" "[I", Cond.constant RX1 35 (-1000004), Cond.methodLink RX1 31 yX1_has, Cond.instanceMethod yX1_has, Cond.selects RX1 yX1_has yX1_has, Cond.code yX1_has cX1_has 2 (some .boolean), Cond.fieldLink RX1 9 "FencedStandbys$Log" "size" "I", Cond.methodLink RX1 45 yX1_transactionOf, Cond.instanceMethod yX1_transactionOf, Cond.selects RX1 yX1_transactionOf yX1_transactionOf, Cond.code yX1_transactionOf cX1_transactionOf 2 (some .int), Cond.fieldLink RX1 19 "FencedStandbys$Log" "transactions" "[I", Cond.methodLink RX1 51 yX1_lastPut, Cond.instanceMethod yX1_lastPut, Cond.selects RX1 yX1_lastPut yX1_lastPut, Cond.code yX1_lastPut cX1_lastPut 5 (some .int), Cond.methodLink RX1 41 yX1_isPutOf, Cond.instanceMethod yX1_isPutOf, Cond.selects RX1 yX1_isPutOf yX1_isPutOf, Cond.code yX1_isPutOf cX1_isPutOf 3 (some .boolean), Cond.methodLink RX1 48 yX1_keyOf, Cond.instanceMethod yX1_keyOf, Cond.selects RX1 yX1_keyOf yX1_keyOf]
def wsX6_primary_r3 : List Cond := [Cond.code yX1_keyOf cX1_keyOf 2 (some .int), Cond.fieldLink RX1 22 "FencedStandbys$Log" "keys" "[I", Cond.methodLink RX1 59 yX1_valueIn, Cond.instanceMethod yX1_valueIn, Cond.selects RX1 yX1_valueIn yX1_valueIn, Cond.code yX1_valueIn cX1_valueIn 2 (some .int), Cond.fieldLink RX1 25 "FencedStandbys$Log" "values" "[I", Cond.methodLink RX6 124 yX4_transactionIn, Cond.instanceMethod yX4_transactionIn, Cond.selects RX4 yX4_transactionIn yX4_transactionIn, Cond.initialized RX4, Cond.code yX4_transactionIn cX4_transactionIn 2 (some .int), Cond.fieldLink RX4 28 "FencedStandbys$Store" "slots" "[I", Cond.methodLink RX6 127 yX1_lastPut, Cond.methodLink RX6 130 yX1_valueIn]
def wsX6_primary : List Cond := .code yX6_primary cX6_primary 6 (some .int) :: ((wsX6_primary_r1 ++ (wsX6_primary_r2 ++ wsX6_primary_r3)) ++ wsX60 ++ wsX40 ++ wsX10)
def wsX6_serves : List Cond := .code yX6_serves cX6_serves 4 (some .int) :: ([.fieldLink RX6 10 "FencedStandbys" "store" "LFencedStandbys$Store;", .constant RX6 94 (-1000001), .fieldLink RX6 133 "FencedStandbys$Store" "first" "LFencedStandbys$Standby;", .fieldLink RX6 137 "FencedStandbys$Store" "second" "LFencedStandbys$Standby;", .fieldLink RX6 109 "FencedStandbys$Standby" "applied" "I", .constant RX6 140 (-1000004), .methodLink RX6 91 yX4_isPosition, .instanceMethod yX4_isPosition, .selects RX4 yX4_isPosition yX4_isPosition, .initialized RX4, .code yX4_isPosition cX4_isPosition 2 (some .boolean), .fieldLink RX4 12 "FencedStandbys$Store" "log" "LFencedStandbys$Log;", .fieldLink RX4 57 "FencedStandbys$Log" "size" "I", .methodLink RX6 99 yX3_canServe, .instanceMethod yX3_canServe, .selects RX3 yX3_canServe yX3_canServe, .initialized RX3, .code yX3_canServe cX3_canServe 2 (some .boolean), .fieldLink RX3 18 "FencedStandbys$Standby" "astray" "Z", .fieldLink RX3 15 "FencedStandbys$Standby" "applied" "I"] ++ wsX60 ++ wsX40 ++ wsX30 ++ wsX10)
def wsX6_found : List Cond := .code yX6_found cX6_found 1 (some .int) :: ([.constant RX6 140 (-1000004)])
def wsX6_fence_r1 : List Cond := [Cond.constant RX6 94 (-1000001), Cond.fieldLink RX6 10 "FencedStandbys" "store" "LFencedStandbys$Store;", Cond.fieldLink RX6 105 "FencedStandbys$Store" "log" "LFencedStandbys$Log;", Cond.fieldLink RX6 121 "FencedStandbys$Log" "size" "I", Cond.methodLink RX6 88 yX6_isKey, Cond.static yX6_isKey, Cond.initialized RX6, Cond.code yX6_isKey cX6_isKey 1 (some .boolean), Cond.methodLink RX6 141 yX1_lastCommit, Cond.instanceMethod yX1_lastCommit, Cond.selects RX1 yX1_lastCommit yX1_lastCommit, Cond.initialized RX1, Cond.code yX1_lastCommit cX1_lastCommit 4 (some .int), Cond.methodLink RX1 37 yX1_kindOf, Cond.instanceMethod yX1_kindOf, Cond.selects RX1 yX1_kindOf yX1_kindOf, Cond.code yX1_kindOf cX1_kindOf 2 (some .int), Cond.fieldLink RX1 15 "FencedStandbys$Log" "kinds" "[I", Cond.constant RX1 35 (-1000004), Cond.methodLink RX1 31 yX1_has, Cond.instanceMethod yX1_has, Cond.selects RX1 yX1_has yX1_has, Cond.code yX1_has cX1_has 2 (some .boolean), Cond.fieldLink RX1 9 "FencedStandbys$Log" "size" "I"]
def wsX6_fence_r2 : List Cond := [Cond.methodLink RX1 45 yX1_transactionOf, Cond.instanceMethod yX1_transactionOf, Cond.selects RX1 yX1_transactionOf yX1_transactionOf, Cond.code yX1_transactionOf cX1_transactionOf 2 (some .int), Cond.fieldLink RX1 19 "FencedStandbys$Log" "transactions" "[I", Cond.methodLink RX1 51 yX1_lastPut, Cond.instanceMethod yX1_lastPut, Cond.selects RX1 yX1_lastPut yX1_lastPut, Cond.code yX1_lastPut cX1_lastPut 5 (some .int), Cond.methodLink RX1 41 yX1_isPutOf, Cond.instanceMethod yX1_isPutOf, Cond.selects RX1 yX1_isPutOf yX1_isPutOf, Cond.code yX1_isPutOf cX1_isPutOf 3 (some .boolean), Cond.methodLink RX1 48 yX1_keyOf, Cond.instanceMethod yX1_keyOf, Cond.selects RX1 yX1_keyOf yX1_keyOf, Cond.code yX1_keyOf cX1_keyOf 2 (some .int), Cond.fieldLink RX1 22 "FencedStandbys$Log" "keys" "[I", Cond.methodLink RX6 144 yX6_found, Cond.static yX6_found, Cond.code yX6_found cX6_found 1 (some .int), Cond.constant RX6 140 (-1000004)]
def wsX6_fence : List Cond := .code yX6_fence cX6_fence 2 (some .int) :: ((wsX6_fence_r1 ++ wsX6_fence_r2) ++ wsX60 ++ wsX40 ++ wsX10)
def wsX6_recordOf_r1 : List Cond := [Cond.constant RX6 94 (-1000001), Cond.fieldLink RX6 10 "FencedStandbys" "store" "LFencedStandbys$Store;", Cond.fieldLink RX6 105 "FencedStandbys$Store" "log" "LFencedStandbys$Log;", Cond.constant RX6 140 (-1000004), Cond.methodLink RX6 147 yX1_has, Cond.instanceMethod yX1_has, Cond.selects RX1 yX1_has yX1_has, Cond.initialized RX1, Cond.code yX1_has cX1_has 2 (some .boolean), Cond.fieldLink RX1 9 "FencedStandbys$Log" "size" "I", Cond.methodLink RX6 150 yX1_kindOf, Cond.instanceMethod yX1_kindOf, Cond.selects RX1 yX1_kindOf yX1_kindOf, Cond.code yX1_kindOf cX1_kindOf 2 (some .int), Cond.fieldLink RX1 15 "FencedStandbys$Log" "kinds" "[I", Cond.constant RX1 35 (-1000004), Cond.methodLink RX1 31 yX1_has, Cond.methodLink RX6 153 yX1_transactionOf, Cond.instanceMethod yX1_transactionOf, Cond.selects RX1 yX1_transactionOf yX1_transactionOf, Cond.code yX1_transactionOf cX1_transactionOf 2 (some .int), Cond.fieldLink RX1 19 "FencedStandbys$Log" "transactions" "[I", Cond.methodLink RX6 156 yX1_keyOf, Cond.instanceMethod yX1_keyOf]
def wsX6_recordOf_r2 : List Cond := [Cond.selects RX1 yX1_keyOf yX1_keyOf, Cond.code yX1_keyOf cX1_keyOf 2 (some .int), Cond.fieldLink RX1 22 "FencedStandbys$Log" "keys" "[I", Cond.methodLink RX6 130 yX1_valueIn, Cond.instanceMethod yX1_valueIn, Cond.selects RX1 yX1_valueIn yX1_valueIn, Cond.code yX1_valueIn cX1_valueIn 2 (some .int), Cond.fieldLink RX1 25 "FencedStandbys$Log" "values" "[I", Cond.methodLink RX6 159 yX1_tickOf, Cond.instanceMethod yX1_tickOf, Cond.selects RX1 yX1_tickOf yX1_tickOf, Cond.code yX1_tickOf cX1_tickOf 2 (some .int), Cond.fieldLink RX1 28 "FencedStandbys$Log" "ticks" "[I"]
def wsX6_recordOf : List Cond := .code yX6_recordOf cX6_recordOf 5 (some .int) :: ((wsX6_recordOf_r1 ++ wsX6_recordOf_r2) ++ wsX60 ++ wsX40 ++ wsX10)
def wsX6_keysNotAsAtEnd_r1 : List Cond := [Cond.fieldLink RX6 10 "FencedStandbys" "store" "LFencedStandbys$Store;", Cond.fieldLink RX6 105 "FencedStandbys$Store" "log" "LFencedStandbys$Log;", Cond.fieldLink RX6 37 "FencedStandbys" "valuesSeen" "[I", Cond.fieldLink RX6 121 "FencedStandbys$Log" "size" "I", Cond.fieldLink RX6 41 "FencedStandbys" "valuesAtEnd" "[I", Cond.methodLink RX6 255 yX1_fillValues, Cond.instanceMethod yX1_fillValues, Cond.selects RX1 yX1_fillValues yX1_fillValues, Cond.initialized RX1, Cond.code yX1_fillValues cX1_fillValues 4 none, Cond.methodLink RX1 37 yX1_kindOf, Cond.instanceMethod yX1_kindOf, Cond.selects RX1 yX1_kindOf yX1_kindOf, Cond.code yX1_kindOf cX1_kindOf 2 (some .int), Cond.fieldLink RX1 15 "FencedStandbys$Log" "kinds" "[I", Cond.constant RX1 35 (-1000004), Cond.methodLink RX1 31 yX1_has, Cond.instanceMethod yX1_has, Cond.selects RX1 yX1_has yX1_has, Cond.code yX1_has cX1_has 2 (some .boolean), Cond.fieldLink RX1 9 "FencedStandbys$Log" "size" "I", Cond.methodLink RX1 45 yX1_transactionOf, Cond.instanceMethod yX1_transactionOf, Cond.selects RX1 yX1_transactionOf yX1_transactionOf]
def wsX6_keysNotAsAtEnd_r2 : List Cond := [Cond.code yX1_transactionOf cX1_transactionOf 2 (some .int), Cond.fieldLink RX1 19 "FencedStandbys$Log" "transactions" "[I", Cond.methodLink RX1 62 yX1_applyPuts, Cond.instanceMethod yX1_applyPuts, Cond.selects RX1 yX1_applyPuts yX1_applyPuts, Cond.code yX1_applyPuts cX1_applyPuts 5 none, Cond.methodLink RX1 41 yX1_isPutOf, Cond.instanceMethod yX1_isPutOf, Cond.selects RX1 yX1_isPutOf yX1_isPutOf, Cond.code yX1_isPutOf cX1_isPutOf 3 (some .boolean), Cond.methodLink RX1 48 yX1_keyOf, Cond.instanceMethod yX1_keyOf, Cond.selects RX1 yX1_keyOf yX1_keyOf, Cond.code yX1_keyOf cX1_keyOf 2 (some .int), Cond.fieldLink RX1 22 "FencedStandbys$Log" "keys" "[I", Cond.methodLink RX1 59 yX1_valueIn, Cond.instanceMethod yX1_valueIn, Cond.selects RX1 yX1_valueIn yX1_valueIn, Cond.code yX1_valueIn cX1_valueIn 2 (some .int), Cond.fieldLink RX1 25 "FencedStandbys$Log" "values" "[I", Cond.methodLink RX1 66 yX1_setValue, Cond.static yX1_setValue, Cond.code yX1_setValue cX1_setValue 3 none]
def wsX6_keysNotAsAtEnd : List Cond := .code yX6_keysNotAsAtEnd cX6_keysNotAsAtEnd 4 (some .int) :: ((wsX6_keysNotAsAtEnd_r1 ++ wsX6_keysNotAsAtEnd_r2) ++ wsX60 ++ wsX40 ++ wsX10)
def wsX6_standbyOf_r1 : List Cond := [Cond.constant RX6 94 (-1000001), Cond.fieldLink RX6 10 "FencedStandbys" "store" "LFencedStandbys$Store;", Cond.fieldLink RX6 105 "FencedStandbys$Store" "log" "LFencedStandbys$Log;", Cond.fieldLink RX6 162 "FencedStandbys$Standby" "received" "I", Cond.fieldLink RX6 109 "FencedStandbys$Standby" "applied" "I", Cond.fieldLink RX6 172 "FencedStandbys$Standby" "astray" "Z", Cond.fieldLink RX6 121 "FencedStandbys$Log" "size" "I", Cond.fieldLink RX6 179 "FencedStandbys$Store" "tick" "I", Cond.constant RX6 140 (-1000004), Cond.methodLink RX6 84 yX6_isStandby, Cond.static yX6_isStandby, Cond.initialized RX6, Cond.code yX6_isStandby cX6_isStandby 1 (some .boolean), Cond.methodLink RX6 95 yX4_standby, Cond.instanceMethod yX4_standby, Cond.selects RX4 yX4_standby yX4_standby, Cond.initialized RX4, Cond.code yX4_standby cX4_standby 2 (some (.object "FencedStandbys$Standby")), Cond.fieldLink RX4 21 "FencedStandbys$Store" "first" "LFencedStandbys$Standby;", Cond.fieldLink RX4 25 "FencedStandbys$Store" "second" "LFencedStandbys$Standby;", Cond.methodLink RX6 165 yX3_gapCount, Cond.instanceMethod yX3_gapCount, Cond.selects RX3 yX3_gapCount yX3_gapCount, Cond.initialized RX3]
def wsX6_standbyOf_r2 : List Cond := [Cond.code yX3_gapCount cX3_gapCount 3 (some .int), Cond.fieldLink RX3 22 "FencedStandbys$Standby" "gaps" "[Z", Cond.methodLink RX6 169 yX3_lowestGap, Cond.instanceMethod yX3_lowestGap, Cond.selects RX3 yX3_lowestGap yX3_lowestGap, Cond.code yX3_lowestGap cX3_lowestGap 2 (some .int), Cond.methodLink RX6 144 yX6_found, Cond.static yX6_found, Cond.code yX6_found cX6_found 1 (some .int), Cond.methodLink RX6 176 yX1_commitsBehind, Cond.instanceMethod yX1_commitsBehind, Cond.selects RX1 yX1_commitsBehind yX1_commitsBehind, Cond.initialized RX1, Cond.code yX1_commitsBehind cX1_commitsBehind 4 (some .int), Cond.fieldLink RX1 9 "FencedStandbys$Log" "size" "I", Cond.methodLink RX1 37 yX1_kindOf, Cond.instanceMethod yX1_kindOf, Cond.selects RX1 yX1_kindOf yX1_kindOf, Cond.code yX1_kindOf cX1_kindOf 2 (some .int), Cond.fieldLink RX1 15 "FencedStandbys$Log" "kinds" "[I", Cond.constant RX1 35 (-1000004), Cond.methodLink RX1 31 yX1_has, Cond.instanceMethod yX1_has, Cond.selects RX1 yX1_has yX1_has]
def wsX6_standbyOf_r3 : List Cond := [Cond.code yX1_has cX1_has 2 (some .boolean), Cond.methodLink RX6 147 yX1_has, Cond.methodLink RX6 159 yX1_tickOf, Cond.instanceMethod yX1_tickOf, Cond.selects RX1 yX1_tickOf yX1_tickOf, Cond.code yX1_tickOf cX1_tickOf 2 (some .int), Cond.fieldLink RX1 28 "FencedStandbys$Log" "ticks" "[I", Cond.methodLink RX6 182 yX6_keysNotAsAtEnd, Cond.instanceMethod yX6_keysNotAsAtEnd, Cond.selects RX6 yX6_keysNotAsAtEnd yX6_keysNotAsAtEnd, Cond.code yX6_keysNotAsAtEnd cX6_keysNotAsAtEnd 4 (some .int), Cond.fieldLink RX6 37 "FencedStandbys" "valuesSeen" "[I", Cond.fieldLink RX6 41 "FencedStandbys" "valuesAtEnd" "[I", Cond.methodLink RX6 255 yX1_fillValues, Cond.instanceMethod yX1_fillValues, Cond.selects RX1 yX1_fillValues yX1_fillValues, Cond.code yX1_fillValues cX1_fillValues 4 none, Cond.methodLink RX1 45 yX1_transactionOf, Cond.instanceMethod yX1_transactionOf, Cond.selects RX1 yX1_transactionOf yX1_transactionOf, Cond.code yX1_transactionOf cX1_transactionOf 2 (some .int), Cond.fieldLink RX1 19 "FencedStandbys$Log" "transactions" "[I", Cond.methodLink RX1 62 yX1_applyPuts, Cond.instanceMethod yX1_applyPuts]
def wsX6_standbyOf_r4 : List Cond := [Cond.selects RX1 yX1_applyPuts yX1_applyPuts, Cond.code yX1_applyPuts cX1_applyPuts 5 none, Cond.methodLink RX1 41 yX1_isPutOf, Cond.instanceMethod yX1_isPutOf, Cond.selects RX1 yX1_isPutOf yX1_isPutOf, Cond.code yX1_isPutOf cX1_isPutOf 3 (some .boolean), Cond.methodLink RX1 48 yX1_keyOf, Cond.instanceMethod yX1_keyOf, Cond.selects RX1 yX1_keyOf yX1_keyOf, Cond.code yX1_keyOf cX1_keyOf 2 (some .int), Cond.fieldLink RX1 22 "FencedStandbys$Log" "keys" "[I", Cond.methodLink RX1 59 yX1_valueIn, Cond.instanceMethod yX1_valueIn, Cond.selects RX1 yX1_valueIn yX1_valueIn, Cond.code yX1_valueIn cX1_valueIn 2 (some .int), Cond.fieldLink RX1 25 "FencedStandbys$Log" "values" "[I", Cond.methodLink RX1 66 yX1_setValue, Cond.static yX1_setValue, Cond.code yX1_setValue cX1_setValue 3 none]
def wsX6_standbyOf : List Cond := .code yX6_standbyOf cX6_standbyOf 5 (some .int) :: ((wsX6_standbyOf_r1 ++ (wsX6_standbyOf_r2 ++ (wsX6_standbyOf_r3 ++ wsX6_standbyOf_r4))) ++ wsX60 ++ wsX40 ++ wsX30 ++ wsX10)
def wsX6_slotOf_r1 : List Cond := [Cond.constant RX6 94 (-1000001), Cond.fieldLink RX6 10 "FencedStandbys" "store" "LFencedStandbys$Store;", Cond.constant RX6 140 (-1000004), Cond.fieldLink RX6 105 "FencedStandbys$Store" "log" "LFencedStandbys$Log;", Cond.methodLink RX6 118 yX6_isSlot, Cond.static yX6_isSlot, Cond.initialized RX6, Cond.code yX6_isSlot cX6_isSlot 1 (some .boolean), Cond.methodLink RX6 124 yX4_transactionIn, Cond.instanceMethod yX4_transactionIn, Cond.selects RX4 yX4_transactionIn yX4_transactionIn, Cond.initialized RX4, Cond.code yX4_transactionIn cX4_transactionIn 2 (some .int), Cond.fieldLink RX4 28 "FencedStandbys$Store" "slots" "[I", Cond.methodLink RX6 185 yX1_putsOf, Cond.instanceMethod yX1_putsOf, Cond.selects RX1 yX1_putsOf yX1_putsOf, Cond.initialized RX1, Cond.code yX1_putsOf cX1_putsOf 4 (some .int), Cond.fieldLink RX1 9 "FencedStandbys$Log" "size" "I", Cond.methodLink RX1 41 yX1_isPutOf, Cond.instanceMethod yX1_isPutOf, Cond.selects RX1 yX1_isPutOf yX1_isPutOf, Cond.code yX1_isPutOf cX1_isPutOf 3 (some .boolean)]
def wsX6_slotOf_r2 : List Cond := [Cond.methodLink RX1 45 yX1_transactionOf, Cond.instanceMethod yX1_transactionOf, Cond.selects RX1 yX1_transactionOf yX1_transactionOf, Cond.code yX1_transactionOf cX1_transactionOf 2 (some .int), Cond.fieldLink RX1 19 "FencedStandbys$Log" "transactions" "[I", Cond.constant RX1 35 (-1000004), Cond.methodLink RX1 31 yX1_has, Cond.instanceMethod yX1_has, Cond.selects RX1 yX1_has yX1_has, Cond.code yX1_has cX1_has 2 (some .boolean), Cond.methodLink RX1 37 yX1_kindOf, Cond.instanceMethod yX1_kindOf, Cond.selects RX1 yX1_kindOf yX1_kindOf, Cond.code yX1_kindOf cX1_kindOf 2 (some .int), Cond.fieldLink RX1 15 "FencedStandbys$Log" "kinds" "[I"]
def wsX6_slotOf : List Cond := .code yX6_slotOf cX6_slotOf 4 (some .int) :: ((wsX6_slotOf_r1 ++ wsX6_slotOf_r2) ++ wsX60 ++ wsX40 ++ wsX10)
def wsX6_waits_r1 : List Cond := [Cond.fieldLink RX6 10 "FencedStandbys" "store" "LFencedStandbys$Store;", Cond.constant RX6 94 (-1000001), Cond.fieldLink RX6 172 "FencedStandbys$Standby" "astray" "Z", Cond.constant RX6 104 (-1000002), Cond.methodLink RX6 84 yX6_isStandby, Cond.static yX6_isStandby, Cond.initialized RX6, Cond.code yX6_isStandby cX6_isStandby 1 (some .boolean), Cond.methodLink RX6 91 yX4_isPosition, Cond.instanceMethod yX4_isPosition, Cond.selects RX4 yX4_isPosition yX4_isPosition, Cond.initialized RX4, Cond.code yX4_isPosition cX4_isPosition 2 (some .boolean), Cond.fieldLink RX4 12 "FencedStandbys$Store" "log" "LFencedStandbys$Log;", Cond.fieldLink RX4 57 "FencedStandbys$Log" "size" "I", Cond.methodLink RX6 95 yX4_standby, Cond.instanceMethod yX4_standby, Cond.selects RX4 yX4_standby yX4_standby, Cond.code yX4_standby cX4_standby 2 (some (.object "FencedStandbys$Standby")), Cond.fieldLink RX4 21 "FencedStandbys$Store" "first" "LFencedStandbys$Standby;", Cond.fieldLink RX4 25 "FencedStandbys$Store" "second" "LFencedStandbys$Standby;", Cond.methodLink RX6 188 yX4_ticksUntil, Cond.instanceMethod yX4_ticksUntil, Cond.selects RX4 yX4_ticksUntil yX4_ticksUntil]
def wsX6_waits_r2 : List Cond := [Cond.code yX4_ticksUntil cX4_ticksUntil 5 (some .int), Cond.fieldLink RX4 97 "FencedStandbys$Standby" "applied" "I", Cond.fieldLink RX4 32 "FencedStandbys$Store" "tick" "I", Cond.fieldLink RX4 51 "FencedStandbys$Store" "rate" "I", Cond.constant RX4 125 (-1000004), Cond.methodLink RX4 117 yX4_appliedAfter, Cond.instanceMethod yX4_appliedAfter, Cond.selects RX4 yX4_appliedAfter yX4_appliedAfter, Cond.code yX4_appliedAfter cX4_appliedAfter 8 (some .int), Cond.fieldLink RX4 84 "FencedStandbys$Standby" "astray" "Z", Cond.fieldLink RX4 88 "FencedStandbys$Standby" "received" "I", Cond.fieldLink RX4 54 "FencedStandbys$Store" "delay" "I", Cond.methodLink RX4 100 yX3_isGap, Cond.instanceMethod yX3_isGap, Cond.selects RX3 yX3_isGap yX3_isGap, Cond.initialized RX3, Cond.code yX3_isGap cX3_isGap 2 (some .boolean), Cond.fieldLink RX3 22 "FencedStandbys$Standby" "gaps" "[Z", Cond.methodLink RX4 121 yX1_tickOf, Cond.instanceMethod yX1_tickOf, Cond.selects RX1 yX1_tickOf yX1_tickOf, Cond.initialized RX1, Cond.code yX1_tickOf cX1_tickOf 2 (some .int), Cond.fieldLink RX1 28 "FencedStandbys$Log" "ticks" "[I"]
def wsX6_waits_r3 : List Cond := [Cond.constant RX1 35 (-1000004), Cond.methodLink RX1 31 yX1_has, Cond.instanceMethod yX1_has, Cond.selects RX1 yX1_has yX1_has, Cond.code yX1_has cX1_has 2 (some .boolean), Cond.fieldLink RX1 9 "FencedStandbys$Log" "size" "I"]
def wsX6_waits : List Cond := .code yX6_waits cX6_waits 4 (some .int) :: ((wsX6_waits_r1 ++ (wsX6_waits_r2 ++ wsX6_waits_r3)) ++ wsX60 ++ wsX30 ++ wsX40 ++ wsX10)
def wsX6_wouldLose_r1 : List Cond := [Cond.constant RX6 94 (-1000001), Cond.fieldLink RX6 10 "FencedStandbys" "store" "LFencedStandbys$Store;", Cond.fieldLink RX6 172 "FencedStandbys$Standby" "astray" "Z", Cond.constant RX6 104 (-1000002), Cond.fieldLink RX6 105 "FencedStandbys$Store" "log" "LFencedStandbys$Log;", Cond.fieldLink RX6 109 "FencedStandbys$Standby" "applied" "I", Cond.methodLink RX6 84 yX6_isStandby, Cond.static yX6_isStandby, Cond.initialized RX6, Cond.code yX6_isStandby cX6_isStandby 1 (some .boolean), Cond.methodLink RX6 95 yX4_standby, Cond.instanceMethod yX4_standby, Cond.selects RX4 yX4_standby yX4_standby, Cond.initialized RX4, Cond.code yX4_standby cX4_standby 2 (some (.object "FencedStandbys$Standby")), Cond.fieldLink RX4 21 "FencedStandbys$Store" "first" "LFencedStandbys$Standby;", Cond.fieldLink RX4 25 "FencedStandbys$Store" "second" "LFencedStandbys$Standby;", Cond.methodLink RX6 176 yX1_commitsBehind, Cond.instanceMethod yX1_commitsBehind, Cond.selects RX1 yX1_commitsBehind yX1_commitsBehind, Cond.initialized RX1, Cond.code yX1_commitsBehind cX1_commitsBehind 4 (some .int), Cond.fieldLink RX1 9 "FencedStandbys$Log" "size" "I", Cond.methodLink RX1 37 yX1_kindOf]
def wsX6_wouldLose_r2 : List Cond := [Cond.instanceMethod yX1_kindOf, Cond.selects RX1 yX1_kindOf yX1_kindOf, Cond.code yX1_kindOf cX1_kindOf 2 (some .int), Cond.fieldLink RX1 15 "FencedStandbys$Log" "kinds" "[I", Cond.constant RX1 35 (-1000004), Cond.methodLink RX1 31 yX1_has, Cond.instanceMethod yX1_has, Cond.selects RX1 yX1_has yX1_has, Cond.code yX1_has cX1_has 2 (some .boolean)]
def wsX6_wouldLose : List Cond := .code yX6_wouldLose cX6_wouldLose 3 (some .int) :: ((wsX6_wouldLose_r1 ++ wsX6_wouldLose_r2) ++ wsX60 ++ wsX30 ++ wsX40 ++ wsX10)
def wsX6_rateFor_r1 : List Cond := [Cond.constant RX6 94 (-1000001), Cond.fieldLink RX6 10 "FencedStandbys" "store" "LFencedStandbys$Store;", Cond.fieldLink RX6 172 "FencedStandbys$Standby" "astray" "Z", Cond.constant RX6 104 (-1000002), Cond.methodLink RX6 84 yX6_isStandby, Cond.static yX6_isStandby, Cond.initialized RX6, Cond.code yX6_isStandby cX6_isStandby 1 (some .boolean), Cond.methodLink RX6 192 yX6_isTicks, Cond.static yX6_isTicks, Cond.code yX6_isTicks cX6_isTicks 1 (some .boolean), Cond.methodLink RX6 95 yX4_standby, Cond.instanceMethod yX4_standby, Cond.selects RX4 yX4_standby yX4_standby, Cond.initialized RX4, Cond.code yX4_standby cX4_standby 2 (some (.object "FencedStandbys$Standby")), Cond.fieldLink RX4 21 "FencedStandbys$Store" "first" "LFencedStandbys$Standby;", Cond.fieldLink RX4 25 "FencedStandbys$Store" "second" "LFencedStandbys$Standby;", Cond.methodLink RX6 195 yX4_leastRate, Cond.instanceMethod yX4_leastRate, Cond.selects RX4 yX4_leastRate yX4_leastRate, Cond.code yX4_leastRate cX4_leastRate 5 (some .int), Cond.constant RX4 125 (-1000004), Cond.methodLink RX4 126 yX3_reachable]
def wsX6_rateFor_r2 : List Cond := [Cond.instanceMethod yX3_reachable, Cond.selects RX3 yX3_reachable yX3_reachable, Cond.initialized RX3, Cond.code yX3_reachable cX3_reachable 2 (some .int), Cond.fieldLink RX3 9 "FencedStandbys$Standby" "received" "I", Cond.methodLink RX3 26 yX3_lowestGap, Cond.instanceMethod yX3_lowestGap, Cond.selects RX3 yX3_lowestGap yX3_lowestGap, Cond.code yX3_lowestGap cX3_lowestGap 2 (some .int), Cond.fieldLink RX3 22 "FencedStandbys$Standby" "gaps" "[Z", Cond.methodLink RX4 129 yX4_comesTo, Cond.instanceMethod yX4_comesTo, Cond.selects RX4 yX4_comesTo yX4_comesTo, Cond.code yX4_comesTo cX4_comesTo 7 (some .boolean), Cond.fieldLink RX4 97 "FencedStandbys$Standby" "applied" "I", Cond.fieldLink RX4 32 "FencedStandbys$Store" "tick" "I", Cond.methodLink RX4 117 yX4_appliedAfter, Cond.instanceMethod yX4_appliedAfter, Cond.selects RX4 yX4_appliedAfter yX4_appliedAfter, Cond.code yX4_appliedAfter cX4_appliedAfter 8 (some .int), Cond.fieldLink RX4 84 "FencedStandbys$Standby" "astray" "Z", Cond.fieldLink RX4 88 "FencedStandbys$Standby" "received" "I", Cond.fieldLink RX4 12 "FencedStandbys$Store" "log" "LFencedStandbys$Log;", Cond.fieldLink RX4 54 "FencedStandbys$Store" "delay" "I"]
def wsX6_rateFor_r3 : List Cond := [Cond.methodLink RX4 100 yX3_isGap, Cond.instanceMethod yX3_isGap, Cond.selects RX3 yX3_isGap yX3_isGap, Cond.code yX3_isGap cX3_isGap 2 (some .boolean), Cond.methodLink RX4 121 yX1_tickOf, Cond.instanceMethod yX1_tickOf, Cond.selects RX1 yX1_tickOf yX1_tickOf, Cond.initialized RX1, Cond.code yX1_tickOf cX1_tickOf 2 (some .int), Cond.fieldLink RX1 28 "FencedStandbys$Log" "ticks" "[I", Cond.constant RX1 35 (-1000004), Cond.methodLink RX1 31 yX1_has, Cond.instanceMethod yX1_has, Cond.selects RX1 yX1_has yX1_has, Cond.code yX1_has cX1_has 2 (some .boolean), Cond.fieldLink RX1 9 "FencedStandbys$Log" "size" "I"]
def wsX6_rateFor : List Cond := .code yX6_rateFor cX6_rateFor 4 (some .int) :: ((wsX6_rateFor_r1 ++ (wsX6_rateFor_r2 ++ wsX6_rateFor_r3)) ++ wsX60 ++ wsX30 ++ wsX40 ++ wsX10)
def wsX6_count_r1 : List Cond := [Cond.fieldLink RX6 10 "FencedStandbys" "store" "LFencedStandbys$Store;", Cond.fieldLink RX6 105 "FencedStandbys$Store" "log" "LFencedStandbys$Log;", Cond.fieldLink RX6 121 "FencedStandbys$Log" "size" "I", Cond.fieldLink RX6 179 "FencedStandbys$Store" "tick" "I", Cond.fieldLink RX6 198 "FencedStandbys$Store" "timeline" "I", Cond.fieldLink RX6 201 "FencedStandbys$Store" "transactions" "I", Cond.fieldLink RX6 204 "FencedStandbys$Store" "commitsLost" "I", Cond.fieldLink RX6 207 "FencedStandbys$Store" "recordsLost" "I", Cond.fieldLink RX6 210 "FencedStandbys$Store" "recordsApplied" "I", Cond.fieldLink RX6 19 "FencedStandbys" "history" "LFencedStandbys$History;", Cond.fieldLink RX6 213 "FencedStandbys$History" "size" "I", Cond.fieldLink RX6 26 "FencedStandbys" "text" "LFencedStandbys$OrderText;", Cond.fieldLink RX6 214 "FencedStandbys$OrderText" "length" "I", Cond.fieldLink RX6 217 "FencedStandbys$Store" "rate" "I", Cond.fieldLink RX6 220 "FencedStandbys$Store" "delay" "I", Cond.constant RX6 94 (-1000001), Cond.methodLink RX6 176 yX1_commitsBehind, Cond.instanceMethod yX1_commitsBehind, Cond.selects RX1 yX1_commitsBehind yX1_commitsBehind, Cond.initialized RX1, Cond.code yX1_commitsBehind cX1_commitsBehind 4 (some .int), Cond.fieldLink RX1 9 "FencedStandbys$Log" "size" "I", Cond.methodLink RX1 37 yX1_kindOf, Cond.instanceMethod yX1_kindOf]
def wsX6_count_r2 : List Cond := [Cond.selects RX1 yX1_kindOf yX1_kindOf, Cond.code yX1_kindOf cX1_kindOf 2 (some .int), Cond.fieldLink RX1 15 "FencedStandbys$Log" "kinds" "[I", Cond.constant RX1 35 (-1000004), Cond.methodLink RX1 31 yX1_has, Cond.instanceMethod yX1_has, Cond.selects RX1 yX1_has yX1_has, Cond.code yX1_has cX1_has 2 (some .boolean)]
def wsX6_count : List Cond := .code yX6_count cX6_count 2 (some .int) :: ((wsX6_count_r1 ++ wsX6_count_r2) ++ wsX60 ++ wsX40 ++ wsX10 ++ wsX00 ++ wsX20)
def wsX6_undo_r1 : List Cond := [Cond.fieldLink RX6 19 "FencedStandbys" "history" "LFencedStandbys$History;", Cond.fieldLink RX6 10 "FencedStandbys" "store" "LFencedStandbys$Store;", Cond.fieldLink RX6 213 "FencedStandbys$History" "size" "I", Cond.constant RX6 104 (-1000002), Cond.methodLink RX6 223 yX0_restore, Cond.instanceMethod yX0_restore, Cond.selects RX0 yX0_restore yX0_restore, Cond.initialized RX0, Cond.code yX0_restore cX0_restore 2 (some .boolean), Cond.fieldLink RX0 17 "FencedStandbys$History" "size" "I", Cond.fieldLink RX0 11 "FencedStandbys$History" "states" "[LFencedStandbys$Store;", Cond.methodLink RX0 22 yX4_copyFrom, Cond.instanceMethod yX4_copyFrom, Cond.selects RX4 yX4_copyFrom yX4_copyFrom, Cond.initialized RX4, Cond.code yX4_copyFrom cX4_copyFrom 2 none, Cond.fieldLink RX4 12 "FencedStandbys$Store" "log" "LFencedStandbys$Log;", Cond.fieldLink RX4 21 "FencedStandbys$Store" "first" "LFencedStandbys$Standby;", Cond.fieldLink RX4 25 "FencedStandbys$Store" "second" "LFencedStandbys$Standby;", Cond.fieldLink RX4 28 "FencedStandbys$Store" "slots" "[I", Cond.methodLink RX4 150 arraycopyName, Cond.native arraycopyName, Cond.static arraycopyName, Cond.initialized "java/lang/System"]
def wsX6_undo_r2 : List Cond := [Cond.fieldLink RX4 32 "FencedStandbys$Store" "tick" "I", Cond.fieldLink RX4 36 "FencedStandbys$Store" "timeline" "I", Cond.fieldLink RX4 39 "FencedStandbys$Store" "transactions" "I", Cond.fieldLink RX4 42 "FencedStandbys$Store" "commitsLost" "I", Cond.fieldLink RX4 45 "FencedStandbys$Store" "recordsLost" "I", Cond.fieldLink RX4 48 "FencedStandbys$Store" "recordsApplied" "I", Cond.fieldLink RX4 51 "FencedStandbys$Store" "rate" "I", Cond.fieldLink RX4 54 "FencedStandbys$Store" "delay" "I", Cond.methodLink RX4 143 yX1_copyFrom, Cond.instanceMethod yX1_copyFrom, Cond.selects RX1 yX1_copyFrom yX1_copyFrom, Cond.initialized RX1, Cond.code yX1_copyFrom cX1_copyFrom 3 none, Cond.fieldLink RX1 9 "FencedStandbys$Log" "size" "I", Cond.methodLink RX1 70 Lib.Math.min.name, Cond.static Lib.Math.min.name, Cond.initialized "java/lang/Math", Cond.code Lib.Math.min.name Lib.Math.min.code 2 (some .int), Cond.methodLink RX1 75 Lib.Math.max.name, Cond.static Lib.Math.max.name, Cond.code Lib.Math.max.name Lib.Math.max.code 2 (some .int), Cond.fieldLink RX1 15 "FencedStandbys$Log" "kinds" "[I", Cond.methodLink RX1 78 arraycopyName, Cond.fieldLink RX1 19 "FencedStandbys$Log" "transactions" "[I"]
def wsX6_undo_r3 : List Cond := [Cond.fieldLink RX1 22 "FencedStandbys$Log" "keys" "[I", Cond.fieldLink RX1 25 "FencedStandbys$Log" "values" "[I", Cond.fieldLink RX1 28 "FencedStandbys$Log" "ticks" "[I", Cond.methodLink RX4 147 yX3_copyFrom, Cond.instanceMethod yX3_copyFrom, Cond.selects RX3 yX3_copyFrom yX3_copyFrom, Cond.initialized RX3, Cond.code yX3_copyFrom cX3_copyFrom 2 none, Cond.fieldLink RX3 9 "FencedStandbys$Standby" "received" "I", Cond.fieldLink RX3 15 "FencedStandbys$Standby" "applied" "I", Cond.fieldLink RX3 18 "FencedStandbys$Standby" "astray" "Z", Cond.fieldLink RX3 22 "FencedStandbys$Standby" "gaps" "[Z", Cond.methodLink RX3 43 arraycopyName]
def wsX6_undo : List Cond := .code yX6_undo cX6_undo 1 (some .int) :: ((wsX6_undo_r1 ++ (wsX6_undo_r2 ++ wsX6_undo_r3)) ++ wsX60 ++ wsX00 ++ wsX40 ++ wsX10 ++ wsX30)
def wsX6_type : List Cond := .code yX6_type cX6_type 2 (some .int) :: ([.constant RX6 94 (-1000001), .fieldLink RX6 26 "FencedStandbys" "text" "LFencedStandbys$OrderText;", .fieldLink RX6 214 "FencedStandbys$OrderText" "length" "I", .constant RX6 231 (-1000003), .methodLink RX6 227 yX2_append, .instanceMethod yX2_append, .selects RX2 yX2_append yX2_append, .initialized RX2, .code yX2_append cX2_append 2 (some .boolean), .fieldLink RX2 15 "FencedStandbys$OrderText" "length" "I", .fieldLink RX2 9 "FencedStandbys$OrderText" "characters" "[C"] ++ wsX60 ++ wsX20)
def wsX6_clearText : List Cond := .code yX6_clearText cX6_clearText 2 (some .int) :: ([.fieldLink RX6 26 "FencedStandbys" "text" "LFencedStandbys$OrderText;", .fieldLink RX6 214 "FencedStandbys$OrderText" "length" "I"] ++ wsX60 ++ wsX20)
def wsX6_fault_r1 : List Cond := [Cond.constant RX6 94 (-1000001), Cond.fieldLink RX6 33 "FencedStandbys" "trial" "LFencedStandbys$Trial;", Cond.fieldLink RX6 26 "FencedStandbys" "text" "LFencedStandbys$OrderText;", Cond.fieldLink RX6 10 "FencedStandbys" "store" "LFencedStandbys$Store;", Cond.fieldLink RX6 236 "FencedStandbys$Trial" "reason" "I", Cond.constant RX6 140 (-1000004), Cond.fieldLink RX6 239 "FencedStandbys$Trial" "position" "I", Cond.fieldLink RX6 242 "FencedStandbys$Trial" "cause" "I", Cond.methodLink RX6 232 yX5_run, Cond.instanceMethod yX5_run, Cond.selects RX5 yX5_run yX5_run, Cond.initialized RX5, Cond.code yX5_run cX5_run 4 none, Cond.fieldLink RX5 12 "FencedStandbys$Trial" "store" "LFencedStandbys$Store;", Cond.fieldLink RX5 22 "FencedStandbys$Trial" "position" "I", Cond.fieldLink RX5 25 "FencedStandbys$Trial" "reason" "I", Cond.fieldLink RX5 28 "FencedStandbys$Trial" "cause" "I", Cond.fieldLink RX5 18 "FencedStandbys$Trial" "orders" "I", Cond.fieldLink RX5 35 "FencedStandbys$OrderText" "length" "I", Cond.fieldLink RX5 44 "FencedStandbys$OrderText" "at" "I", Cond.methodLink RX5 31 yX4_copyFrom, Cond.instanceMethod yX4_copyFrom, Cond.selects RX4 yX4_copyFrom yX4_copyFrom, Cond.initialized RX4]
def wsX6_fault_r2 : List Cond := [Cond.code yX4_copyFrom cX4_copyFrom 2 none, Cond.fieldLink RX4 12 "FencedStandbys$Store" "log" "LFencedStandbys$Log;", Cond.fieldLink RX4 21 "FencedStandbys$Store" "first" "LFencedStandbys$Standby;", Cond.fieldLink RX4 25 "FencedStandbys$Store" "second" "LFencedStandbys$Standby;", Cond.fieldLink RX4 28 "FencedStandbys$Store" "slots" "[I", Cond.methodLink RX4 150 arraycopyName, Cond.native arraycopyName, Cond.static arraycopyName, Cond.initialized "java/lang/System", Cond.fieldLink RX4 32 "FencedStandbys$Store" "tick" "I", Cond.fieldLink RX4 36 "FencedStandbys$Store" "timeline" "I", Cond.fieldLink RX4 39 "FencedStandbys$Store" "transactions" "I", Cond.fieldLink RX4 42 "FencedStandbys$Store" "commitsLost" "I", Cond.fieldLink RX4 45 "FencedStandbys$Store" "recordsLost" "I", Cond.fieldLink RX4 48 "FencedStandbys$Store" "recordsApplied" "I", Cond.fieldLink RX4 51 "FencedStandbys$Store" "rate" "I", Cond.fieldLink RX4 54 "FencedStandbys$Store" "delay" "I", Cond.methodLink RX4 143 yX1_copyFrom, Cond.instanceMethod yX1_copyFrom, Cond.selects RX1 yX1_copyFrom yX1_copyFrom, Cond.initialized RX1, Cond.code yX1_copyFrom cX1_copyFrom 3 none, Cond.fieldLink RX1 9 "FencedStandbys$Log" "size" "I", Cond.methodLink RX1 70 Lib.Math.min.name]
def wsX6_fault_r3 : List Cond := [Cond.static Lib.Math.min.name, Cond.initialized "java/lang/Math", Cond.code Lib.Math.min.name Lib.Math.min.code 2 (some .int), Cond.methodLink RX1 75 Lib.Math.max.name, Cond.static Lib.Math.max.name, Cond.code Lib.Math.max.name Lib.Math.max.code 2 (some .int), Cond.fieldLink RX1 15 "FencedStandbys$Log" "kinds" "[I", Cond.methodLink RX1 78 arraycopyName, Cond.fieldLink RX1 19 "FencedStandbys$Log" "transactions" "[I", Cond.fieldLink RX1 22 "FencedStandbys$Log" "keys" "[I", Cond.fieldLink RX1 25 "FencedStandbys$Log" "values" "[I", Cond.fieldLink RX1 28 "FencedStandbys$Log" "ticks" "[I", Cond.methodLink RX4 147 yX3_copyFrom, Cond.instanceMethod yX3_copyFrom, Cond.selects RX3 yX3_copyFrom yX3_copyFrom, Cond.initialized RX3, Cond.code yX3_copyFrom cX3_copyFrom 2 none, Cond.fieldLink RX3 9 "FencedStandbys$Standby" "received" "I", Cond.fieldLink RX3 15 "FencedStandbys$Standby" "applied" "I", Cond.fieldLink RX3 18 "FencedStandbys$Standby" "astray" "Z", Cond.fieldLink RX3 22 "FencedStandbys$Standby" "gaps" "[Z", Cond.methodLink RX3 43 arraycopyName, Cond.methodLink RX5 40 yX2_readOrder, Cond.instanceMethod yX2_readOrder]
def wsX6_fault_r4 : List Cond := [Cond.selects RX2 yX2_readOrder yX2_readOrder, Cond.initialized RX2, Cond.code yX2_readOrder cX2_readOrder 4 (some .boolean), Cond.fieldLink RX2 19 "FencedStandbys$OrderText" "at" "I", Cond.fieldLink RX2 29 "FencedStandbys$OrderText" "numbersRead" "I", Cond.fieldLink RX2 22 "FencedStandbys$OrderText" "kind" "I", Cond.methodLink RX2 32 yX2_characterAt, Cond.instanceMethod yX2_characterAt, Cond.selects RX2 yX2_characterAt yX2_characterAt, Cond.code yX2_characterAt cX2_characterAt 2 (some .char), Cond.fieldLink RX2 15 "FencedStandbys$OrderText" "length" "I", Cond.fieldLink RX2 9 "FencedStandbys$OrderText" "characters" "[C", Cond.methodLink RX2 36 yX2_formBehind, Cond.static yX2_formBehind, Cond.code yX2_formBehind cX2_formBehind 1 (some (.object "java/lang/String")), Cond.methodLink RX2 40 yJ0_isEmpty_aae02, Cond.instanceMethod yJ0_isEmpty_aae02, Cond.selects RJ0 yJ0_isEmpty_aae02 yJ0_isEmpty_aae02, Cond.initialized RJ0, Cond.code yJ0_isEmpty_aae02 cJ0_isEmpty_aae02 1 (some .boolean), Cond.fieldLink RJ0 9 "java/lang/String" "value" "[B", Cond.methodLink RX2 46 yJ0_length_8abf5, Cond.instanceMethod yJ0_length_8abf5, Cond.selects RJ0 yJ0_length_8abf5 yJ0_length_8abf5]
def wsX6_fault_r5 : List Cond := [Cond.code yJ0_length_8abf5 cJ0_length_8abf5 1 (some .int), Cond.methodLink RJ0 335 yJ0_coder_7d493, Cond.instanceMethod yJ0_coder_7d493, Cond.selects RJ0 yJ0_coder_7d493 yJ0_coder_7d493, Cond.code yJ0_coder_7d493 cJ0_coder_7d493 1 (some .byte), Cond.fieldLink RJ0 38 "java/lang/String" "COMPACT_STRINGS" "Z", Cond.fieldLink RJ0 15 "java/lang/String" "coder" "B", Cond.methodLink RX2 49 yJ0_charAt_5068e, Cond.instanceMethod yJ0_charAt_5068e, Cond.selects RJ0 yJ0_charAt_5068e yJ0_charAt_5068e, Cond.code yJ0_charAt_5068e cJ0_charAt_5068e 2 (some .char), Cond.methodLink RJ0 492 yJ0_isLatin1_aae02, Cond.instanceMethod yJ0_isLatin1_aae02, Cond.selects RJ0 yJ0_isLatin1_aae02 yJ0_isLatin1_aae02, Cond.code yJ0_isLatin1_aae02 cJ0_isLatin1_aae02 1 (some .boolean), Cond.methodLink RJ0 495 yJ1_charAt_3b067, Cond.static yJ1_charAt_3b067, Cond.initialized RJ1, Cond.code yJ1_charAt_3b067 cJ1_charAt_3b067 2 (some .char), Cond.methodLink RJ1 9 yJ0_checkIndex_df160, Cond.static yJ0_checkIndex_df160, Cond.code yJ0_checkIndex_df160 cJ0_checkIndex_df160 2 none, Cond.fieldLink RJ0 1053 "jdk/internal/util/Preconditions" "SIOOBE_FORMATTER" "Ljava/util/function/BiFunction;", Cond.methodLink RJ0 1059 yJ3_checkIndex_8e157]
def wsX6_fault_r6 : List Cond := [Cond.static yJ3_checkIndex_8e157, Cond.initialized RJ3, Cond.code yJ3_checkIndex_8e157 cJ3_checkIndex_8e157 3 (some .int), Cond.methodLink RJ0 498 yJ2_charAt_3b067, Cond.static yJ2_charAt_3b067, Cond.initialized RJ2, Cond.code yJ2_charAt_3b067 cJ2_charAt_3b067 2 (some .char), Cond.methodLink RJ2 67 yJ2_checkIndex_2214a, Cond.static yJ2_checkIndex_2214a, Cond.code yJ2_checkIndex_2214a cJ2_checkIndex_2214a 2 none, Cond.methodLink RJ2 48 yJ2_length_9d52b, Cond.static yJ2_length_9d52b, Cond.code yJ2_length_9d52b cJ2_length_9d52b 1 (some .int), Cond.methodLink RJ2 414 yJ0_checkIndex_df160, Cond.methodLink RJ2 71 yJ2_getChar_3b067, Cond.static yJ2_getChar_3b067, Cond.code yJ2_getChar_3b067 cJ2_getChar_3b067 2 (some .char), Cond.fieldLink RJ2 44 "java/lang/StringUTF16" "$assertionsDisabled" "Z", Cond.fieldLink RJ2 59 "java/lang/StringUTF16" "HI_BYTE_SHIFT" "I", Cond.fieldLink RJ2 63 "java/lang/StringUTF16" "LO_BYTE_SHIFT" "I", Cond.methodLink RX2 52 yX2_readPart, Cond.instanceMethod yX2_readPart, Cond.selects RX2 yX2_readPart yX2_readPart, Cond.code yX2_readPart cX2_readPart 2 (some .boolean)]
def wsX6_fault_r7 : List Cond := [Cond.methodLink RX2 64 yX2_readNumber, Cond.instanceMethod yX2_readNumber, Cond.selects RX2 yX2_readNumber yX2_readNumber, Cond.code yX2_readNumber cX2_readNumber 3 (some .boolean), Cond.fieldLink RX2 25 "FencedStandbys$OrderText" "numbers" "[I", Cond.methodLink RX2 67 yX2_isDigit, Cond.static yX2_isDigit, Cond.code yX2_isDigit cX2_isDigit 1 (some .boolean), Cond.methodLink RX5 47 yX5_doOrder, Cond.instanceMethod yX5_doOrder, Cond.selects RX5 yX5_doOrder yX5_doOrder, Cond.code yX5_doOrder cX5_doOrder 3 (some .int), Cond.fieldLink RX5 55 "FencedStandbys$OrderText" "kind" "I", Cond.methodLink RX5 51 yX2_number, Cond.instanceMethod yX2_number, Cond.selects RX2 yX2_number yX2_number, Cond.code yX2_number cX2_number 2 (some .int), Cond.methodLink RX5 58 yX4_openIn, Cond.instanceMethod yX4_openIn, Cond.selects RX4 yX4_openIn yX4_openIn, Cond.code yX4_openIn cX4_openIn 2 (some .int), Cond.constant RX4 64 (-1000001), Cond.constant RX4 65 (-1000002), Cond.static yX6_isSlot]
def wsX6_fault_r8 : List Cond := [Cond.initialized RX6, Cond.code yX6_isSlot cX6_isSlot 1 (some .boolean), Cond.methodLink RX5 61 yX4_putBy, Cond.instanceMethod yX4_putBy, Cond.selects RX4 yX4_putBy yX4_putBy, Cond.code yX4_putBy cX4_putBy 4 (some .int), Cond.static yX6_isKey, Cond.code yX6_isKey cX6_isKey 1 (some .boolean), Cond.methodLink RX4 69 yX4_write, Cond.instanceMethod yX4_write, Cond.selects RX4 yX4_write yX4_write, Cond.code yX4_write cX4_write 5 (some .int), Cond.methodLink RX4 73 yX1_append, Cond.instanceMethod yX1_append, Cond.selects RX1 yX1_append yX1_append, Cond.code yX1_append cX1_append 7 (some .int), Cond.constant RX1 36 (-1000003), Cond.methodLink RX5 65 yX4_endIn, Cond.instanceMethod yX4_endIn, Cond.selects RX4 yX4_endIn yX4_endIn, Cond.code yX4_endIn cX4_endIn 4 (some .int), Cond.methodLink RX5 69 yX4_shipTo, Cond.instanceMethod yX4_shipTo, Cond.selects RX4 yX4_shipTo yX4_shipTo]
def wsX6_fault_r9 : List Cond := [Cond.code yX4_shipTo cX4_shipTo 5 (some .int), Cond.fieldLink RX4 84 "FencedStandbys$Standby" "astray" "Z", Cond.fieldLink RX4 57 "FencedStandbys$Log" "size" "I", Cond.fieldLink RX4 88 "FencedStandbys$Standby" "received" "I", Cond.methodLink RX4 91 Lib.Math.min.name, Cond.static yX6_isStandby, Cond.code yX6_isStandby cX6_isStandby 1 (some .boolean), Cond.methodLink RX4 80 yX4_standby, Cond.instanceMethod yX4_standby, Cond.selects RX4 yX4_standby yX4_standby, Cond.code yX4_standby cX4_standby 2 (some (.object "FencedStandbys$Standby")), Cond.methodLink RX5 72 yX4_pass, Cond.instanceMethod yX4_pass, Cond.selects RX4 yX4_pass yX4_pass, Cond.code yX4_pass cX4_pass 7 (some .int), Cond.fieldLink RX4 97 "FencedStandbys$Standby" "applied" "I", Cond.static yX6_isTicks, Cond.code yX6_isTicks cX6_isTicks 1 (some .boolean), Cond.methodLink RX4 117 yX4_appliedAfter, Cond.instanceMethod yX4_appliedAfter, Cond.selects RX4 yX4_appliedAfter yX4_appliedAfter, Cond.code yX4_appliedAfter cX4_appliedAfter 8 (some .int), Cond.methodLink RX4 100 yX3_isGap, Cond.instanceMethod yX3_isGap]
def wsX6_fault_r10 : List Cond := [Cond.selects RX3 yX3_isGap yX3_isGap, Cond.code yX3_isGap cX3_isGap 2 (some .boolean), Cond.methodLink RX4 121 yX1_tickOf, Cond.instanceMethod yX1_tickOf, Cond.selects RX1 yX1_tickOf yX1_tickOf, Cond.code yX1_tickOf cX1_tickOf 2 (some .int), Cond.constant RX1 35 (-1000004), Cond.methodLink RX1 31 yX1_has, Cond.instanceMethod yX1_has, Cond.selects RX1 yX1_has yX1_has, Cond.code yX1_has cX1_has 2 (some .boolean)]
def wsX6_fault : List Cond := .code yX6_fault cX6_fault 2 (some .int) :: ((wsX6_fault_r1 ++ (wsX6_fault_r2 ++ (wsX6_fault_r3 ++ (wsX6_fault_r4 ++ (wsX6_fault_r5 ++ (wsX6_fault_r6 ++ (wsX6_fault_r7 ++ (wsX6_fault_r8 ++ (wsX6_fault_r9 ++ wsX6_fault_r10))))))))) ++ wsX60 ++ wsX50 ++ wsX20 ++ wsX40 ++ wsX10 ++ wsX30)
def wsX6_play_r1 : List Cond := [Cond.fieldLink RX6 33 "FencedStandbys" "trial" "LFencedStandbys$Trial;", Cond.fieldLink RX6 26 "FencedStandbys" "text" "LFencedStandbys$OrderText;", Cond.fieldLink RX6 10 "FencedStandbys" "store" "LFencedStandbys$Store;", Cond.fieldLink RX6 236 "FencedStandbys$Trial" "reason" "I", Cond.constant RX6 104 (-1000002), Cond.fieldLink RX6 19 "FencedStandbys" "history" "LFencedStandbys$History;", Cond.fieldLink RX6 245 "FencedStandbys$Trial" "store" "LFencedStandbys$Store;", Cond.fieldLink RX6 249 "FencedStandbys$Trial" "orders" "I", Cond.methodLink RX6 232 yX5_run, Cond.instanceMethod yX5_run, Cond.selects RX5 yX5_run yX5_run, Cond.initialized RX5, Cond.code yX5_run cX5_run 4 none, Cond.fieldLink RX5 12 "FencedStandbys$Trial" "store" "LFencedStandbys$Store;", Cond.fieldLink RX5 22 "FencedStandbys$Trial" "position" "I", Cond.fieldLink RX5 25 "FencedStandbys$Trial" "reason" "I", Cond.fieldLink RX5 28 "FencedStandbys$Trial" "cause" "I", Cond.fieldLink RX5 18 "FencedStandbys$Trial" "orders" "I", Cond.fieldLink RX5 35 "FencedStandbys$OrderText" "length" "I", Cond.fieldLink RX5 44 "FencedStandbys$OrderText" "at" "I", Cond.methodLink RX5 31 yX4_copyFrom, Cond.instanceMethod yX4_copyFrom, Cond.selects RX4 yX4_copyFrom yX4_copyFrom, Cond.initialized RX4]
def wsX6_play_r2 : List Cond := [Cond.code yX4_copyFrom cX4_copyFrom 2 none, Cond.fieldLink RX4 12 "FencedStandbys$Store" "log" "LFencedStandbys$Log;", Cond.fieldLink RX4 21 "FencedStandbys$Store" "first" "LFencedStandbys$Standby;", Cond.fieldLink RX4 25 "FencedStandbys$Store" "second" "LFencedStandbys$Standby;", Cond.fieldLink RX4 28 "FencedStandbys$Store" "slots" "[I", Cond.methodLink RX4 150 arraycopyName, Cond.native arraycopyName, Cond.static arraycopyName, Cond.initialized "java/lang/System", Cond.fieldLink RX4 32 "FencedStandbys$Store" "tick" "I", Cond.fieldLink RX4 36 "FencedStandbys$Store" "timeline" "I", Cond.fieldLink RX4 39 "FencedStandbys$Store" "transactions" "I", Cond.fieldLink RX4 42 "FencedStandbys$Store" "commitsLost" "I", Cond.fieldLink RX4 45 "FencedStandbys$Store" "recordsLost" "I", Cond.fieldLink RX4 48 "FencedStandbys$Store" "recordsApplied" "I", Cond.fieldLink RX4 51 "FencedStandbys$Store" "rate" "I", Cond.fieldLink RX4 54 "FencedStandbys$Store" "delay" "I", Cond.methodLink RX4 143 yX1_copyFrom, Cond.instanceMethod yX1_copyFrom, Cond.selects RX1 yX1_copyFrom yX1_copyFrom, Cond.initialized RX1, Cond.code yX1_copyFrom cX1_copyFrom 3 none, Cond.fieldLink RX1 9 "FencedStandbys$Log" "size" "I", Cond.methodLink RX1 70 Lib.Math.min.name]
def wsX6_play_r3 : List Cond := [Cond.static Lib.Math.min.name, Cond.initialized "java/lang/Math", Cond.code Lib.Math.min.name Lib.Math.min.code 2 (some .int), Cond.methodLink RX1 75 Lib.Math.max.name, Cond.static Lib.Math.max.name, Cond.code Lib.Math.max.name Lib.Math.max.code 2 (some .int), Cond.fieldLink RX1 15 "FencedStandbys$Log" "kinds" "[I", Cond.methodLink RX1 78 arraycopyName, Cond.fieldLink RX1 19 "FencedStandbys$Log" "transactions" "[I", Cond.fieldLink RX1 22 "FencedStandbys$Log" "keys" "[I", Cond.fieldLink RX1 25 "FencedStandbys$Log" "values" "[I", Cond.fieldLink RX1 28 "FencedStandbys$Log" "ticks" "[I", Cond.methodLink RX4 147 yX3_copyFrom, Cond.instanceMethod yX3_copyFrom, Cond.selects RX3 yX3_copyFrom yX3_copyFrom, Cond.initialized RX3, Cond.code yX3_copyFrom cX3_copyFrom 2 none, Cond.fieldLink RX3 9 "FencedStandbys$Standby" "received" "I", Cond.fieldLink RX3 15 "FencedStandbys$Standby" "applied" "I", Cond.fieldLink RX3 18 "FencedStandbys$Standby" "astray" "Z", Cond.fieldLink RX3 22 "FencedStandbys$Standby" "gaps" "[Z", Cond.methodLink RX3 43 arraycopyName, Cond.methodLink RX5 40 yX2_readOrder, Cond.instanceMethod yX2_readOrder]
def wsX6_play_r4 : List Cond := [Cond.selects RX2 yX2_readOrder yX2_readOrder, Cond.initialized RX2, Cond.code yX2_readOrder cX2_readOrder 4 (some .boolean), Cond.fieldLink RX2 19 "FencedStandbys$OrderText" "at" "I", Cond.fieldLink RX2 29 "FencedStandbys$OrderText" "numbersRead" "I", Cond.fieldLink RX2 22 "FencedStandbys$OrderText" "kind" "I", Cond.methodLink RX2 32 yX2_characterAt, Cond.instanceMethod yX2_characterAt, Cond.selects RX2 yX2_characterAt yX2_characterAt, Cond.code yX2_characterAt cX2_characterAt 2 (some .char), Cond.fieldLink RX2 15 "FencedStandbys$OrderText" "length" "I", Cond.fieldLink RX2 9 "FencedStandbys$OrderText" "characters" "[C", Cond.methodLink RX2 36 yX2_formBehind, Cond.static yX2_formBehind, Cond.code yX2_formBehind cX2_formBehind 1 (some (.object "java/lang/String")), Cond.methodLink RX2 40 yJ0_isEmpty_aae02, Cond.instanceMethod yJ0_isEmpty_aae02, Cond.selects RJ0 yJ0_isEmpty_aae02 yJ0_isEmpty_aae02, Cond.initialized RJ0, Cond.code yJ0_isEmpty_aae02 cJ0_isEmpty_aae02 1 (some .boolean), Cond.fieldLink RJ0 9 "java/lang/String" "value" "[B", Cond.methodLink RX2 46 yJ0_length_8abf5, Cond.instanceMethod yJ0_length_8abf5, Cond.selects RJ0 yJ0_length_8abf5 yJ0_length_8abf5]
def wsX6_play_r5 : List Cond := [Cond.code yJ0_length_8abf5 cJ0_length_8abf5 1 (some .int), Cond.methodLink RJ0 335 yJ0_coder_7d493, Cond.instanceMethod yJ0_coder_7d493, Cond.selects RJ0 yJ0_coder_7d493 yJ0_coder_7d493, Cond.code yJ0_coder_7d493 cJ0_coder_7d493 1 (some .byte), Cond.fieldLink RJ0 38 "java/lang/String" "COMPACT_STRINGS" "Z", Cond.fieldLink RJ0 15 "java/lang/String" "coder" "B", Cond.methodLink RX2 49 yJ0_charAt_5068e, Cond.instanceMethod yJ0_charAt_5068e, Cond.selects RJ0 yJ0_charAt_5068e yJ0_charAt_5068e, Cond.code yJ0_charAt_5068e cJ0_charAt_5068e 2 (some .char), Cond.methodLink RJ0 492 yJ0_isLatin1_aae02, Cond.instanceMethod yJ0_isLatin1_aae02, Cond.selects RJ0 yJ0_isLatin1_aae02 yJ0_isLatin1_aae02, Cond.code yJ0_isLatin1_aae02 cJ0_isLatin1_aae02 1 (some .boolean), Cond.methodLink RJ0 495 yJ1_charAt_3b067, Cond.static yJ1_charAt_3b067, Cond.initialized RJ1, Cond.code yJ1_charAt_3b067 cJ1_charAt_3b067 2 (some .char), Cond.methodLink RJ1 9 yJ0_checkIndex_df160, Cond.static yJ0_checkIndex_df160, Cond.code yJ0_checkIndex_df160 cJ0_checkIndex_df160 2 none, Cond.fieldLink RJ0 1053 "jdk/internal/util/Preconditions" "SIOOBE_FORMATTER" "Ljava/util/function/BiFunction;", Cond.methodLink RJ0 1059 yJ3_checkIndex_8e157]
def wsX6_play_r6 : List Cond := [Cond.static yJ3_checkIndex_8e157, Cond.initialized RJ3, Cond.code yJ3_checkIndex_8e157 cJ3_checkIndex_8e157 3 (some .int), Cond.methodLink RJ0 498 yJ2_charAt_3b067, Cond.static yJ2_charAt_3b067, Cond.initialized RJ2, Cond.code yJ2_charAt_3b067 cJ2_charAt_3b067 2 (some .char), Cond.methodLink RJ2 67 yJ2_checkIndex_2214a, Cond.static yJ2_checkIndex_2214a, Cond.code yJ2_checkIndex_2214a cJ2_checkIndex_2214a 2 none, Cond.methodLink RJ2 48 yJ2_length_9d52b, Cond.static yJ2_length_9d52b, Cond.code yJ2_length_9d52b cJ2_length_9d52b 1 (some .int), Cond.methodLink RJ2 414 yJ0_checkIndex_df160, Cond.methodLink RJ2 71 yJ2_getChar_3b067, Cond.static yJ2_getChar_3b067, Cond.code yJ2_getChar_3b067 cJ2_getChar_3b067 2 (some .char), Cond.fieldLink RJ2 44 "java/lang/StringUTF16" "$assertionsDisabled" "Z", Cond.fieldLink RJ2 59 "java/lang/StringUTF16" "HI_BYTE_SHIFT" "I", Cond.fieldLink RJ2 63 "java/lang/StringUTF16" "LO_BYTE_SHIFT" "I", Cond.methodLink RX2 52 yX2_readPart, Cond.instanceMethod yX2_readPart, Cond.selects RX2 yX2_readPart yX2_readPart, Cond.code yX2_readPart cX2_readPart 2 (some .boolean)]
def wsX6_play_r7 : List Cond := [Cond.methodLink RX2 64 yX2_readNumber, Cond.instanceMethod yX2_readNumber, Cond.selects RX2 yX2_readNumber yX2_readNumber, Cond.code yX2_readNumber cX2_readNumber 3 (some .boolean), Cond.fieldLink RX2 25 "FencedStandbys$OrderText" "numbers" "[I", Cond.methodLink RX2 67 yX2_isDigit, Cond.static yX2_isDigit, Cond.code yX2_isDigit cX2_isDigit 1 (some .boolean), Cond.methodLink RX5 47 yX5_doOrder, Cond.instanceMethod yX5_doOrder, Cond.selects RX5 yX5_doOrder yX5_doOrder, Cond.code yX5_doOrder cX5_doOrder 3 (some .int), Cond.fieldLink RX5 55 "FencedStandbys$OrderText" "kind" "I", Cond.methodLink RX5 51 yX2_number, Cond.instanceMethod yX2_number, Cond.selects RX2 yX2_number yX2_number, Cond.code yX2_number cX2_number 2 (some .int), Cond.methodLink RX5 58 yX4_openIn, Cond.instanceMethod yX4_openIn, Cond.selects RX4 yX4_openIn yX4_openIn, Cond.code yX4_openIn cX4_openIn 2 (some .int), Cond.constant RX4 64 (-1000001), Cond.constant RX4 65 (-1000002), Cond.static yX6_isSlot]
def wsX6_play_r8 : List Cond := [Cond.initialized RX6, Cond.code yX6_isSlot cX6_isSlot 1 (some .boolean), Cond.methodLink RX5 61 yX4_putBy, Cond.instanceMethod yX4_putBy, Cond.selects RX4 yX4_putBy yX4_putBy, Cond.code yX4_putBy cX4_putBy 4 (some .int), Cond.static yX6_isKey, Cond.code yX6_isKey cX6_isKey 1 (some .boolean), Cond.methodLink RX4 69 yX4_write, Cond.instanceMethod yX4_write, Cond.selects RX4 yX4_write yX4_write, Cond.code yX4_write cX4_write 5 (some .int), Cond.methodLink RX4 73 yX1_append, Cond.instanceMethod yX1_append, Cond.selects RX1 yX1_append yX1_append, Cond.code yX1_append cX1_append 7 (some .int), Cond.constant RX1 36 (-1000003), Cond.methodLink RX5 65 yX4_endIn, Cond.instanceMethod yX4_endIn, Cond.selects RX4 yX4_endIn yX4_endIn, Cond.code yX4_endIn cX4_endIn 4 (some .int), Cond.methodLink RX5 69 yX4_shipTo, Cond.instanceMethod yX4_shipTo, Cond.selects RX4 yX4_shipTo yX4_shipTo]
def wsX6_play_r9 : List Cond := [Cond.code yX4_shipTo cX4_shipTo 5 (some .int), Cond.fieldLink RX4 84 "FencedStandbys$Standby" "astray" "Z", Cond.fieldLink RX4 57 "FencedStandbys$Log" "size" "I", Cond.fieldLink RX4 88 "FencedStandbys$Standby" "received" "I", Cond.methodLink RX4 91 Lib.Math.min.name, Cond.static yX6_isStandby, Cond.code yX6_isStandby cX6_isStandby 1 (some .boolean), Cond.methodLink RX4 80 yX4_standby, Cond.instanceMethod yX4_standby, Cond.selects RX4 yX4_standby yX4_standby, Cond.code yX4_standby cX4_standby 2 (some (.object "FencedStandbys$Standby")), Cond.methodLink RX5 72 yX4_pass, Cond.instanceMethod yX4_pass, Cond.selects RX4 yX4_pass yX4_pass, Cond.code yX4_pass cX4_pass 7 (some .int), Cond.fieldLink RX4 97 "FencedStandbys$Standby" "applied" "I", Cond.static yX6_isTicks, Cond.code yX6_isTicks cX6_isTicks 1 (some .boolean), Cond.methodLink RX4 117 yX4_appliedAfter, Cond.instanceMethod yX4_appliedAfter, Cond.selects RX4 yX4_appliedAfter yX4_appliedAfter, Cond.code yX4_appliedAfter cX4_appliedAfter 8 (some .int), Cond.methodLink RX4 100 yX3_isGap, Cond.instanceMethod yX3_isGap]
def wsX6_play_r10 : List Cond := [Cond.selects RX3 yX3_isGap yX3_isGap, Cond.code yX3_isGap cX3_isGap 2 (some .boolean), Cond.methodLink RX4 121 yX1_tickOf, Cond.instanceMethod yX1_tickOf, Cond.selects RX1 yX1_tickOf yX1_tickOf, Cond.code yX1_tickOf cX1_tickOf 2 (some .int), Cond.constant RX1 35 (-1000004), Cond.methodLink RX1 31 yX1_has, Cond.instanceMethod yX1_has, Cond.selects RX1 yX1_has yX1_has, Cond.code yX1_has cX1_has 2 (some .boolean), Cond.methodLink RX6 44 yX0_prepare, Cond.instanceMethod yX0_prepare, Cond.selects RX0 yX0_prepare yX0_prepare, Cond.initialized RX0, Cond.code yX0_prepare cX0_prepare 2 none, Cond.fieldLink RX0 17 "FencedStandbys$History" "size" "I", Cond.fieldLink RX0 11 "FencedStandbys$History" "states" "[LFencedStandbys$Store;", Cond.methodLink RX0 22 yX4_copyFrom, Cond.methodLink RX6 246 yX4_copyFrom, Cond.methodLink RX6 52 yX6_changed, Cond.instanceMethod yX6_changed, Cond.selects RX6 yX6_changed yX6_changed, Cond.code yX6_changed cX6_changed 2 (some .int)]
def wsX6_play_r11 : List Cond := [Cond.methodLink RX6 252 yX0_keep, Cond.instanceMethod yX0_keep, Cond.selects RX0 yX0_keep yX0_keep, Cond.code yX0_keep cX0_keep 3 none]
def wsX6_play : List Cond := .code yX6_play cX6_play 1 (some .int) :: ((wsX6_play_r1 ++ (wsX6_play_r2 ++ (wsX6_play_r3 ++ (wsX6_play_r4 ++ (wsX6_play_r5 ++ (wsX6_play_r6 ++ (wsX6_play_r7 ++ (wsX6_play_r8 ++ (wsX6_play_r9 ++ (wsX6_play_r10 ++ wsX6_play_r11)))))))))) ++ wsX60 ++ wsX50 ++ wsX20 ++ wsX40 ++ wsX10 ++ wsX30 ++ wsX00)
def wsX7_init : List Cond := .code yX7_init cX7_init 1 none :: ([.methodLink RX7 1 objectInit, .instanceMethod objectInit, .code objectInit ⟨#[0xb1]⟩ 1 none, .arrayClass .int, .fieldLink RX7 7 "FencedStandbysModel" "s" "[I", .fieldLink RX7 13 "FencedStandbysModel" "past" "[I", .fieldLink RX7 16 "FencedStandbysModel" "held" "[I", .fieldLink RX7 19 "FencedStandbysModel" "text" "[I", .fieldLink RX7 22 "FencedStandbysModel" "told" "[I"] ++ wsX70)
def wsX7_in : List Cond := .code yX7_in cX7_in 3 (some .boolean) :: ([])
def wsX7_copies : List Cond := .code yX7_copies cX7_copies 3 none :: ([])
def wsX7_changes : List Cond := .code yX7_changes cX7_changes 2 none :: ([.fieldLink RX7 25 "FencedStandbysModel" "runs" "Z", .fieldLink RX7 29 "FencedStandbysModel" "pasts" "I", .fieldLink RX7 13 "FencedStandbysModel" "past" "[I", .fieldLink RX7 7 "FencedStandbysModel" "s" "[I"] ++ wsX70)
def wsX7_isSlot : List Cond := .code yX7_isSlot cX7_isSlot 1 (some .boolean) :: ([.methodLink RX7 33 yX7_in, .static yX7_in, .initialized RX7, .code yX7_in cX7_in 3 (some .boolean)])
def wsX7_isKey : List Cond := .code yX7_isKey cX7_isKey 1 (some .boolean) :: ([.methodLink RX7 33 yX7_in, .static yX7_in, .initialized RX7, .code yX7_in cX7_in 3 (some .boolean)])
def wsX7_isStandby : List Cond := .code yX7_isStandby cX7_isStandby 1 (some .boolean) :: ([.methodLink RX7 33 yX7_in, .static yX7_in, .initialized RX7, .code yX7_in cX7_in 3 (some .boolean)])
def wsX7_ofRecord : List Cond := .code yX7_ofRecord cX7_ofRecord 3 (some .int) :: ([.fieldLink RX7 7 "FencedStandbysModel" "s" "[I"] ++ wsX70)
def wsX7_ofStandby : List Cond := .code yX7_ofStandby cX7_ofStandby 3 (some .int) :: ([.fieldLink RX7 7 "FencedStandbysModel" "s" "[I"] ++ wsX70)
def wsX7_isGap : List Cond := .code yX7_isGap cX7_isGap 3 (some .boolean) :: ([.fieldLink RX7 7 "FencedStandbysModel" "s" "[I"] ++ wsX70)
def wsX7_open : List Cond := .code yX7_open cX7_open 2 (some .int) :: ([.constant RX7 41 (-1000001), .fieldLink RX7 7 "FencedStandbysModel" "s" "[I", .constant RX7 42 (-1000002), .methodLink RX7 37 yX7_isSlot, .static yX7_isSlot, .initialized RX7, .code yX7_isSlot cX7_isSlot 1 (some .boolean), .methodLink RX7 33 yX7_in, .static yX7_in, .code yX7_in cX7_in 3 (some .boolean), .methodLink RX7 43 yX7_changes, .instanceMethod yX7_changes, .selects RX7 yX7_changes yX7_changes, .code yX7_changes cX7_changes 2 none, .fieldLink RX7 25 "FencedStandbysModel" "runs" "Z", .fieldLink RX7 29 "FencedStandbysModel" "pasts" "I", .fieldLink RX7 13 "FencedStandbysModel" "past" "[I"] ++ wsX70)
def wsX7_bar : List Cond := .code yX7_bar cX7_bar 2 (some .int) :: ([.constant RX7 41 (-1000001), .fieldLink RX7 7 "FencedStandbysModel" "s" "[I", .constant RX7 42 (-1000002), .constant RX7 46 (-1000003), .methodLink RX7 37 yX7_isSlot, .static yX7_isSlot, .initialized RX7, .code yX7_isSlot cX7_isSlot 1 (some .boolean), .methodLink RX7 33 yX7_in, .static yX7_in, .code yX7_in cX7_in 3 (some .boolean)] ++ wsX70)
def wsX7_writes : List Cond := .code yX7_writes cX7_writes 6 (some .int) :: ([.fieldLink RX7 7 "FencedStandbysModel" "s" "[I", .methodLink RX7 43 yX7_changes, .instanceMethod yX7_changes, .selects RX7 yX7_changes yX7_changes, .initialized RX7, .code yX7_changes cX7_changes 2 none, .fieldLink RX7 25 "FencedStandbysModel" "runs" "Z", .fieldLink RX7 29 "FencedStandbysModel" "pasts" "I", .fieldLink RX7 13 "FencedStandbysModel" "past" "[I"] ++ wsX70)
def wsX7_put_r1 : List Cond := [Cond.constant RX7 41 (-1000001), Cond.methodLink RX7 47 yX7_isKey, Cond.static yX7_isKey, Cond.initialized RX7, Cond.code yX7_isKey cX7_isKey 1 (some .boolean), Cond.methodLink RX7 33 yX7_in, Cond.static yX7_in, Cond.code yX7_in cX7_in 3 (some .boolean), Cond.methodLink RX7 50 yX7_bar, Cond.instanceMethod yX7_bar, Cond.selects RX7 yX7_bar yX7_bar, Cond.code yX7_bar cX7_bar 2 (some .int), Cond.fieldLink RX7 7 "FencedStandbysModel" "s" "[I", Cond.constant RX7 42 (-1000002), Cond.constant RX7 46 (-1000003), Cond.methodLink RX7 37 yX7_isSlot, Cond.static yX7_isSlot, Cond.code yX7_isSlot cX7_isSlot 1 (some .boolean), Cond.methodLink RX7 54 yX7_writes, Cond.instanceMethod yX7_writes, Cond.selects RX7 yX7_writes yX7_writes, Cond.code yX7_writes cX7_writes 6 (some .int), Cond.methodLink RX7 43 yX7_changes, Cond.instanceMethod yX7_changes]
def wsX7_put_r2 : List Cond := [Cond.selects RX7 yX7_changes yX7_changes, Cond.code yX7_changes cX7_changes 2 none, Cond.fieldLink RX7 25 "FencedStandbysModel" "runs" "Z", Cond.fieldLink RX7 29 "FencedStandbysModel" "pasts" "I", Cond.fieldLink RX7 13 "FencedStandbysModel" "past" "[I"]
def wsX7_put : List Cond := .code yX7_put cX7_put 5 (some .int) :: ((wsX7_put_r1 ++ wsX7_put_r2) ++ wsX70)
def wsX7_commit_r1 : List Cond := [Cond.constant RX7 58 (-1000004), Cond.methodLink RX7 50 yX7_bar, Cond.instanceMethod yX7_bar, Cond.selects RX7 yX7_bar yX7_bar, Cond.initialized RX7, Cond.code yX7_bar cX7_bar 2 (some .int), Cond.constant RX7 41 (-1000001), Cond.fieldLink RX7 7 "FencedStandbysModel" "s" "[I", Cond.constant RX7 42 (-1000002), Cond.constant RX7 46 (-1000003), Cond.methodLink RX7 37 yX7_isSlot, Cond.static yX7_isSlot, Cond.code yX7_isSlot cX7_isSlot 1 (some .boolean), Cond.methodLink RX7 33 yX7_in, Cond.static yX7_in, Cond.code yX7_in cX7_in 3 (some .boolean), Cond.methodLink RX7 54 yX7_writes, Cond.instanceMethod yX7_writes, Cond.selects RX7 yX7_writes yX7_writes, Cond.code yX7_writes cX7_writes 6 (some .int), Cond.methodLink RX7 43 yX7_changes, Cond.instanceMethod yX7_changes, Cond.selects RX7 yX7_changes yX7_changes, Cond.code yX7_changes cX7_changes 2 none]
def wsX7_commit_r2 : List Cond := [Cond.fieldLink RX7 25 "FencedStandbysModel" "runs" "Z", Cond.fieldLink RX7 29 "FencedStandbysModel" "pasts" "I", Cond.fieldLink RX7 13 "FencedStandbysModel" "past" "[I"]
def wsX7_commit : List Cond := .code yX7_commit cX7_commit 3 (some .int) :: ((wsX7_commit_r1 ++ wsX7_commit_r2) ++ wsX70)
def wsX7_abort_r1 : List Cond := [Cond.constant RX7 58 (-1000004), Cond.methodLink RX7 50 yX7_bar, Cond.instanceMethod yX7_bar, Cond.selects RX7 yX7_bar yX7_bar, Cond.initialized RX7, Cond.code yX7_bar cX7_bar 2 (some .int), Cond.constant RX7 41 (-1000001), Cond.fieldLink RX7 7 "FencedStandbysModel" "s" "[I", Cond.constant RX7 42 (-1000002), Cond.constant RX7 46 (-1000003), Cond.methodLink RX7 37 yX7_isSlot, Cond.static yX7_isSlot, Cond.code yX7_isSlot cX7_isSlot 1 (some .boolean), Cond.methodLink RX7 33 yX7_in, Cond.static yX7_in, Cond.code yX7_in cX7_in 3 (some .boolean), Cond.methodLink RX7 54 yX7_writes, Cond.instanceMethod yX7_writes, Cond.selects RX7 yX7_writes yX7_writes, Cond.code yX7_writes cX7_writes 6 (some .int), Cond.methodLink RX7 43 yX7_changes, Cond.instanceMethod yX7_changes, Cond.selects RX7 yX7_changes yX7_changes, Cond.code yX7_changes cX7_changes 2 none]
def wsX7_abort_r2 : List Cond := [Cond.fieldLink RX7 25 "FencedStandbysModel" "runs" "Z", Cond.fieldLink RX7 29 "FencedStandbysModel" "pasts" "I", Cond.fieldLink RX7 13 "FencedStandbysModel" "past" "[I"]
def wsX7_abort : List Cond := .code yX7_abort cX7_abort 3 (some .int) :: ((wsX7_abort_r1 ++ wsX7_abort_r2) ++ wsX70)
def wsX7_lastPut : List Cond := .code yX7_lastPut cX7_lastPut 5 (some .int) :: ([.fieldLink RX7 7 "FencedStandbysModel" "s" "[I", .methodLink RX7 59 yX7_ofRecord, .instanceMethod yX7_ofRecord, .selects RX7 yX7_ofRecord yX7_ofRecord, .initialized RX7, .code yX7_ofRecord cX7_ofRecord 3 (some .int)] ++ wsX70)
def wsX7_lastCommit : List Cond := .code yX7_lastCommit cX7_lastCommit 4 (some .int) :: ([.methodLink RX7 59 yX7_ofRecord, .instanceMethod yX7_ofRecord, .selects RX7 yX7_ofRecord yX7_ofRecord, .initialized RX7, .code yX7_ofRecord cX7_ofRecord 3 (some .int), .fieldLink RX7 7 "FencedStandbysModel" "s" "[I", .methodLink RX7 63 yX7_lastPut, .instanceMethod yX7_lastPut, .selects RX7 yX7_lastPut yX7_lastPut, .code yX7_lastPut cX7_lastPut 5 (some .int)] ++ wsX70)
def wsX7_valueAt : List Cond := .code yX7_valueAt cX7_valueAt 4 (some .int) :: ([.methodLink RX7 66 yX7_lastCommit, .instanceMethod yX7_lastCommit, .selects RX7 yX7_lastCommit yX7_lastCommit, .initialized RX7, .code yX7_lastCommit cX7_lastCommit 4 (some .int), .methodLink RX7 59 yX7_ofRecord, .instanceMethod yX7_ofRecord, .selects RX7 yX7_ofRecord yX7_ofRecord, .code yX7_ofRecord cX7_ofRecord 3 (some .int), .fieldLink RX7 7 "FencedStandbysModel" "s" "[I", .methodLink RX7 63 yX7_lastPut, .instanceMethod yX7_lastPut, .selects RX7 yX7_lastPut yX7_lastPut, .code yX7_lastPut cX7_lastPut 5 (some .int)] ++ wsX70)
def wsX7_commits : List Cond := .code yX7_commits cX7_commits 5 (some .int) :: ([.methodLink RX7 59 yX7_ofRecord, .instanceMethod yX7_ofRecord, .selects RX7 yX7_ofRecord yX7_ofRecord, .initialized RX7, .code yX7_ofRecord cX7_ofRecord 3 (some .int), .fieldLink RX7 7 "FencedStandbysModel" "s" "[I"] ++ wsX70)
def wsX7_ship : List Cond := .code yX7_ship cX7_ship 5 (some .int) :: ([.constant RX7 41 (-1000001), .constant RX7 42 (-1000002), .fieldLink RX7 7 "FencedStandbysModel" "s" "[I", .methodLink RX7 69 yX7_isStandby, .static yX7_isStandby, .initialized RX7, .code yX7_isStandby cX7_isStandby 1 (some .boolean), .methodLink RX7 33 yX7_in, .static yX7_in, .code yX7_in cX7_in 3 (some .boolean), .methodLink RX7 72 yX7_ofStandby, .instanceMethod yX7_ofStandby, .selects RX7 yX7_ofStandby yX7_ofStandby, .code yX7_ofStandby cX7_ofStandby 3 (some .int), .methodLink RX7 43 yX7_changes, .instanceMethod yX7_changes, .selects RX7 yX7_changes yX7_changes, .code yX7_changes cX7_changes 2 none, .fieldLink RX7 25 "FencedStandbysModel" "runs" "Z", .fieldLink RX7 29 "FencedStandbysModel" "pasts" "I", .fieldLink RX7 13 "FencedStandbysModel" "past" "[I"] ++ wsX70)
def wsX7_gaps : List Cond := .code yX7_gaps cX7_gaps 4 (some .int) :: ([.methodLink RX7 75 yX7_isGap, .instanceMethod yX7_isGap, .selects RX7 yX7_isGap yX7_isGap, .initialized RX7, .code yX7_isGap cX7_isGap 3 (some .boolean), .fieldLink RX7 7 "FencedStandbysModel" "s" "[I"] ++ wsX70)
def wsX7_lowestGap : List Cond := .code yX7_lowestGap cX7_lowestGap 3 (some .int) :: ([.constant RX7 58 (-1000004), .methodLink RX7 75 yX7_isGap, .instanceMethod yX7_isGap, .selects RX7 yX7_isGap yX7_isGap, .initialized RX7, .code yX7_isGap cX7_isGap 3 (some .boolean), .fieldLink RX7 7 "FencedStandbysModel" "s" "[I"] ++ wsX70)
def wsX7_fillsGaps : List Cond := .code yX7_fillsGaps cX7_fillsGaps 4 none :: ([.fieldLink RX7 7 "FencedStandbysModel" "s" "[I"] ++ wsX70)
def wsX7_lose_r1 : List Cond := [Cond.constant RX7 41 (-1000001), Cond.constant RX7 42 (-1000002), Cond.fieldLink RX7 7 "FencedStandbysModel" "s" "[I", Cond.methodLink RX7 69 yX7_isStandby, Cond.static yX7_isStandby, Cond.initialized RX7, Cond.code yX7_isStandby cX7_isStandby 1 (some .boolean), Cond.methodLink RX7 33 yX7_in, Cond.static yX7_in, Cond.code yX7_in cX7_in 3 (some .boolean), Cond.methodLink RX7 72 yX7_ofStandby, Cond.instanceMethod yX7_ofStandby, Cond.selects RX7 yX7_ofStandby yX7_ofStandby, Cond.code yX7_ofStandby cX7_ofStandby 3 (some .int), Cond.methodLink RX7 75 yX7_isGap, Cond.instanceMethod yX7_isGap, Cond.selects RX7 yX7_isGap yX7_isGap, Cond.code yX7_isGap cX7_isGap 3 (some .boolean), Cond.methodLink RX7 43 yX7_changes, Cond.instanceMethod yX7_changes, Cond.selects RX7 yX7_changes yX7_changes, Cond.code yX7_changes cX7_changes 2 none, Cond.fieldLink RX7 25 "FencedStandbysModel" "runs" "Z", Cond.fieldLink RX7 29 "FencedStandbysModel" "pasts" "I"]
def wsX7_lose_r2 : List Cond := [Cond.fieldLink RX7 13 "FencedStandbysModel" "past" "[I", Cond.methodLink RX7 79 yX7_gaps, Cond.instanceMethod yX7_gaps, Cond.selects RX7 yX7_gaps yX7_gaps, Cond.code yX7_gaps cX7_gaps 4 (some .int)]
def wsX7_lose : List Cond := .code yX7_lose cX7_lose 3 (some .int) :: ((wsX7_lose_r1 ++ wsX7_lose_r2) ++ wsX70)
def wsX7_resend_r1 : List Cond := [Cond.constant RX7 41 (-1000001), Cond.constant RX7 42 (-1000002), Cond.methodLink RX7 69 yX7_isStandby, Cond.static yX7_isStandby, Cond.initialized RX7, Cond.code yX7_isStandby cX7_isStandby 1 (some .boolean), Cond.methodLink RX7 33 yX7_in, Cond.static yX7_in, Cond.code yX7_in cX7_in 3 (some .boolean), Cond.methodLink RX7 72 yX7_ofStandby, Cond.instanceMethod yX7_ofStandby, Cond.selects RX7 yX7_ofStandby yX7_ofStandby, Cond.code yX7_ofStandby cX7_ofStandby 3 (some .int), Cond.fieldLink RX7 7 "FencedStandbysModel" "s" "[I", Cond.methodLink RX7 43 yX7_changes, Cond.instanceMethod yX7_changes, Cond.selects RX7 yX7_changes yX7_changes, Cond.code yX7_changes cX7_changes 2 none, Cond.fieldLink RX7 25 "FencedStandbysModel" "runs" "Z", Cond.fieldLink RX7 29 "FencedStandbysModel" "pasts" "I", Cond.fieldLink RX7 13 "FencedStandbysModel" "past" "[I", Cond.methodLink RX7 79 yX7_gaps, Cond.instanceMethod yX7_gaps, Cond.selects RX7 yX7_gaps yX7_gaps]
def wsX7_resend_r2 : List Cond := [Cond.code yX7_gaps cX7_gaps 4 (some .int), Cond.methodLink RX7 75 yX7_isGap, Cond.instanceMethod yX7_isGap, Cond.selects RX7 yX7_isGap yX7_isGap, Cond.code yX7_isGap cX7_isGap 3 (some .boolean), Cond.methodLink RX7 82 yX7_fillsGaps, Cond.instanceMethod yX7_fillsGaps, Cond.selects RX7 yX7_fillsGaps yX7_fillsGaps, Cond.code yX7_fillsGaps cX7_fillsGaps 4 none]
def wsX7_resend : List Cond := .code yX7_resend cX7_resend 3 (some .int) :: ((wsX7_resend_r1 ++ wsX7_resend_r2) ++ wsX70)
def wsX7_goes : List Cond := .code yX7_goes cX7_goes 8 (some .int) :: ([.fieldLink RX7 7 "FencedStandbysModel" "s" "[I", .methodLink RX7 72 yX7_ofStandby, .instanceMethod yX7_ofStandby, .selects RX7 yX7_ofStandby yX7_ofStandby, .initialized RX7, .code yX7_ofStandby cX7_ofStandby 3 (some .int), .methodLink RX7 75 yX7_isGap, .instanceMethod yX7_isGap, .selects RX7 yX7_isGap yX7_isGap, .code yX7_isGap cX7_isGap 3 (some .boolean), .methodLink RX7 59 yX7_ofRecord, .instanceMethod yX7_ofRecord, .selects RX7 yX7_ofRecord yX7_ofRecord, .code yX7_ofRecord cX7_ofRecord 3 (some .int)] ++ wsX70)
def wsX7_tick_r1 : List Cond := [Cond.constant RX7 41 (-1000001), Cond.fieldLink RX7 7 "FencedStandbysModel" "s" "[I", Cond.methodLink RX7 33 yX7_in, Cond.static yX7_in, Cond.initialized RX7, Cond.code yX7_in cX7_in 3 (some .boolean), Cond.methodLink RX7 43 yX7_changes, Cond.instanceMethod yX7_changes, Cond.selects RX7 yX7_changes yX7_changes, Cond.code yX7_changes cX7_changes 2 none, Cond.fieldLink RX7 25 "FencedStandbysModel" "runs" "Z", Cond.fieldLink RX7 29 "FencedStandbysModel" "pasts" "I", Cond.fieldLink RX7 13 "FencedStandbysModel" "past" "[I", Cond.methodLink RX7 72 yX7_ofStandby, Cond.instanceMethod yX7_ofStandby, Cond.selects RX7 yX7_ofStandby yX7_ofStandby, Cond.code yX7_ofStandby cX7_ofStandby 3 (some .int), Cond.methodLink RX7 86 yX7_goes, Cond.instanceMethod yX7_goes, Cond.selects RX7 yX7_goes yX7_goes, Cond.code yX7_goes cX7_goes 8 (some .int), Cond.methodLink RX7 75 yX7_isGap, Cond.instanceMethod yX7_isGap, Cond.selects RX7 yX7_isGap yX7_isGap]
def wsX7_tick_r2 : List Cond := [Cond.code yX7_isGap cX7_isGap 3 (some .boolean), Cond.methodLink RX7 59 yX7_ofRecord, Cond.instanceMethod yX7_ofRecord, Cond.selects RX7 yX7_ofRecord yX7_ofRecord, Cond.code yX7_ofRecord cX7_ofRecord 3 (some .int)]
def wsX7_tick : List Cond := .code yX7_tick cX7_tick 6 (some .int) :: ((wsX7_tick_r1 ++ wsX7_tick_r2) ++ wsX70)
def wsX7_lays : List Cond := .code yX7_lays cX7_lays 4 none :: ([.fieldLink RX7 7 "FencedStandbysModel" "s" "[I", .methodLink RX7 82 yX7_fillsGaps, .instanceMethod yX7_fillsGaps, .selects RX7 yX7_fillsGaps yX7_fillsGaps, .initialized RX7, .code yX7_fillsGaps cX7_fillsGaps 4 none] ++ wsX70)
def wsX7_wouldBeLost : List Cond := .code yX7_wouldBeLost cX7_wouldBeLost 2 (some .int) :: ([.fieldLink RX7 7 "FencedStandbysModel" "s" "[I", .methodLink RX7 72 yX7_ofStandby, .instanceMethod yX7_ofStandby, .selects RX7 yX7_ofStandby yX7_ofStandby, .initialized RX7, .code yX7_ofStandby cX7_ofStandby 3 (some .int), .methodLink RX7 89 yX7_commits, .instanceMethod yX7_commits, .selects RX7 yX7_commits yX7_commits, .code yX7_commits cX7_commits 5 (some .int), .methodLink RX7 59 yX7_ofRecord, .instanceMethod yX7_ofRecord, .selects RX7 yX7_ofRecord yX7_ofRecord, .code yX7_ofRecord cX7_ofRecord 3 (some .int)] ++ wsX70)
def wsX7_promote_r1 : List Cond := [Cond.constant RX7 41 (-1000001), Cond.constant RX7 42 (-1000002), Cond.fieldLink RX7 7 "FencedStandbysModel" "s" "[I", Cond.methodLink RX7 69 yX7_isStandby, Cond.static yX7_isStandby, Cond.initialized RX7, Cond.code yX7_isStandby cX7_isStandby 1 (some .boolean), Cond.methodLink RX7 33 yX7_in, Cond.static yX7_in, Cond.code yX7_in cX7_in 3 (some .boolean), Cond.methodLink RX7 72 yX7_ofStandby, Cond.instanceMethod yX7_ofStandby, Cond.selects RX7 yX7_ofStandby yX7_ofStandby, Cond.code yX7_ofStandby cX7_ofStandby 3 (some .int), Cond.methodLink RX7 43 yX7_changes, Cond.instanceMethod yX7_changes, Cond.selects RX7 yX7_changes yX7_changes, Cond.code yX7_changes cX7_changes 2 none, Cond.fieldLink RX7 25 "FencedStandbysModel" "runs" "Z", Cond.fieldLink RX7 29 "FencedStandbysModel" "pasts" "I", Cond.fieldLink RX7 13 "FencedStandbysModel" "past" "[I", Cond.methodLink RX7 92 yX7_wouldBeLost, Cond.instanceMethod yX7_wouldBeLost, Cond.selects RX7 yX7_wouldBeLost yX7_wouldBeLost]
def wsX7_promote_r2 : List Cond := [Cond.code yX7_wouldBeLost cX7_wouldBeLost 2 (some .int), Cond.methodLink RX7 89 yX7_commits, Cond.instanceMethod yX7_commits, Cond.selects RX7 yX7_commits yX7_commits, Cond.code yX7_commits cX7_commits 5 (some .int), Cond.methodLink RX7 59 yX7_ofRecord, Cond.instanceMethod yX7_ofRecord, Cond.selects RX7 yX7_ofRecord yX7_ofRecord, Cond.code yX7_ofRecord cX7_ofRecord 3 (some .int), Cond.methodLink RX7 95 yX7_lays, Cond.instanceMethod yX7_lays, Cond.selects RX7 yX7_lays yX7_lays, Cond.code yX7_lays cX7_lays 4 none, Cond.methodLink RX7 82 yX7_fillsGaps, Cond.instanceMethod yX7_fillsGaps, Cond.selects RX7 yX7_fillsGaps yX7_fillsGaps, Cond.code yX7_fillsGaps cX7_fillsGaps 4 none]
def wsX7_promote : List Cond := .code yX7_promote cX7_promote 6 (some .int) :: ((wsX7_promote_r1 ++ wsX7_promote_r2) ++ wsX70)
def wsX7_rebuild : List Cond := .code yX7_rebuild cX7_rebuild 2 (some .int) :: ([.constant RX7 41 (-1000001), .fieldLink RX7 7 "FencedStandbysModel" "s" "[I", .methodLink RX7 69 yX7_isStandby, .static yX7_isStandby, .initialized RX7, .code yX7_isStandby cX7_isStandby 1 (some .boolean), .methodLink RX7 33 yX7_in, .static yX7_in, .code yX7_in cX7_in 3 (some .boolean), .methodLink RX7 43 yX7_changes, .instanceMethod yX7_changes, .selects RX7 yX7_changes yX7_changes, .code yX7_changes cX7_changes 2 none, .fieldLink RX7 25 "FencedStandbysModel" "runs" "Z", .fieldLink RX7 29 "FencedStandbysModel" "pasts" "I", .fieldLink RX7 13 "FencedStandbysModel" "past" "[I", .methodLink RX7 95 yX7_lays, .instanceMethod yX7_lays, .selects RX7 yX7_lays yX7_lays, .code yX7_lays cX7_lays 4 none, .methodLink RX7 82 yX7_fillsGaps, .instanceMethod yX7_fillsGaps, .selects RX7 yX7_fillsGaps yX7_fillsGaps, .code yX7_fillsGaps cX7_fillsGaps 4 none] ++ wsX70)
def wsX7_set : List Cond := .code yX7_set cX7_set 4 (some .int) :: ([.constant RX7 41 (-1000001), .fieldLink RX7 7 "FencedStandbysModel" "s" "[I", .methodLink RX7 33 yX7_in, .static yX7_in, .initialized RX7, .code yX7_in cX7_in 3 (some .boolean), .methodLink RX7 43 yX7_changes, .instanceMethod yX7_changes, .selects RX7 yX7_changes yX7_changes, .code yX7_changes cX7_changes 2 none, .fieldLink RX7 25 "FencedStandbysModel" "runs" "Z", .fieldLink RX7 29 "FencedStandbysModel" "pasts" "I", .fieldLink RX7 13 "FencedStandbysModel" "past" "[I"] ++ wsX70)
def wsX7_isFence : List Cond := .code yX7_isFence cX7_isFence 2 (some .boolean) :: ([.fieldLink RX7 7 "FencedStandbysModel" "s" "[I", .methodLink RX7 33 yX7_in, .static yX7_in, .initialized RX7, .code yX7_in cX7_in 3 (some .boolean)] ++ wsX70)
def wsX7_canServe : List Cond := .code yX7_canServe cX7_canServe 3 (some .boolean) :: ([.methodLink RX7 72 yX7_ofStandby, .instanceMethod yX7_ofStandby, .selects RX7 yX7_ofStandby yX7_ofStandby, .initialized RX7, .code yX7_ofStandby cX7_ofStandby 3 (some .int), .fieldLink RX7 7 "FencedStandbysModel" "s" "[I"] ++ wsX70)
def wsX7_read_r1 : List Cond := [Cond.constant RX7 41 (-1000001), Cond.constant RX7 42 (-1000002), Cond.methodLink RX7 69 yX7_isStandby, Cond.static yX7_isStandby, Cond.initialized RX7, Cond.code yX7_isStandby cX7_isStandby 1 (some .boolean), Cond.methodLink RX7 33 yX7_in, Cond.static yX7_in, Cond.code yX7_in cX7_in 3 (some .boolean), Cond.methodLink RX7 47 yX7_isKey, Cond.static yX7_isKey, Cond.code yX7_isKey cX7_isKey 1 (some .boolean), Cond.methodLink RX7 99 yX7_isFence, Cond.instanceMethod yX7_isFence, Cond.selects RX7 yX7_isFence yX7_isFence, Cond.code yX7_isFence cX7_isFence 2 (some .boolean), Cond.fieldLink RX7 7 "FencedStandbysModel" "s" "[I", Cond.methodLink RX7 102 yX7_canServe, Cond.instanceMethod yX7_canServe, Cond.selects RX7 yX7_canServe yX7_canServe, Cond.code yX7_canServe cX7_canServe 3 (some .boolean), Cond.methodLink RX7 72 yX7_ofStandby, Cond.instanceMethod yX7_ofStandby, Cond.selects RX7 yX7_ofStandby yX7_ofStandby]
def wsX7_read_r2 : List Cond := [Cond.code yX7_ofStandby cX7_ofStandby 3 (some .int), Cond.methodLink RX7 105 yX7_valueAt, Cond.instanceMethod yX7_valueAt, Cond.selects RX7 yX7_valueAt yX7_valueAt, Cond.code yX7_valueAt cX7_valueAt 4 (some .int), Cond.methodLink RX7 66 yX7_lastCommit, Cond.instanceMethod yX7_lastCommit, Cond.selects RX7 yX7_lastCommit yX7_lastCommit, Cond.code yX7_lastCommit cX7_lastCommit 4 (some .int), Cond.methodLink RX7 59 yX7_ofRecord, Cond.instanceMethod yX7_ofRecord, Cond.selects RX7 yX7_ofRecord yX7_ofRecord, Cond.code yX7_ofRecord cX7_ofRecord 3 (some .int), Cond.methodLink RX7 63 yX7_lastPut, Cond.instanceMethod yX7_lastPut, Cond.selects RX7 yX7_lastPut yX7_lastPut, Cond.code yX7_lastPut cX7_lastPut 5 (some .int)]
def wsX7_read : List Cond := .code yX7_read cX7_read 4 (some .int) :: ((wsX7_read_r1 ++ wsX7_read_r2) ++ wsX70)
def wsX7_primary_r1 : List Cond := [Cond.constant RX7 41 (-1000001), Cond.fieldLink RX7 7 "FencedStandbysModel" "s" "[I", Cond.constant RX7 42 (-1000002), Cond.methodLink RX7 33 yX7_in, Cond.static yX7_in, Cond.initialized RX7, Cond.code yX7_in cX7_in 3 (some .boolean), Cond.methodLink RX7 47 yX7_isKey, Cond.static yX7_isKey, Cond.code yX7_isKey cX7_isKey 1 (some .boolean), Cond.methodLink RX7 63 yX7_lastPut, Cond.instanceMethod yX7_lastPut, Cond.selects RX7 yX7_lastPut yX7_lastPut, Cond.code yX7_lastPut cX7_lastPut 5 (some .int), Cond.methodLink RX7 59 yX7_ofRecord, Cond.instanceMethod yX7_ofRecord, Cond.selects RX7 yX7_ofRecord yX7_ofRecord, Cond.code yX7_ofRecord cX7_ofRecord 3 (some .int), Cond.methodLink RX7 105 yX7_valueAt, Cond.instanceMethod yX7_valueAt, Cond.selects RX7 yX7_valueAt yX7_valueAt, Cond.code yX7_valueAt cX7_valueAt 4 (some .int), Cond.methodLink RX7 66 yX7_lastCommit, Cond.instanceMethod yX7_lastCommit]
def wsX7_primary_r2 : List Cond := [Cond.selects RX7 yX7_lastCommit yX7_lastCommit, Cond.code yX7_lastCommit cX7_lastCommit 4 (some .int)]
def wsX7_primary : List Cond := .code yX7_primary cX7_primary 4 (some .int) :: ((wsX7_primary_r1 ++ wsX7_primary_r2) ++ wsX70)
def wsX7_serves : List Cond := .code yX7_serves cX7_serves 4 (some .int) :: ([.constant RX7 41 (-1000001), .constant RX7 58 (-1000004), .methodLink RX7 99 yX7_isFence, .instanceMethod yX7_isFence, .selects RX7 yX7_isFence yX7_isFence, .initialized RX7, .code yX7_isFence cX7_isFence 2 (some .boolean), .fieldLink RX7 7 "FencedStandbysModel" "s" "[I", .methodLink RX7 33 yX7_in, .static yX7_in, .code yX7_in cX7_in 3 (some .boolean), .methodLink RX7 102 yX7_canServe, .instanceMethod yX7_canServe, .selects RX7 yX7_canServe yX7_canServe, .code yX7_canServe cX7_canServe 3 (some .boolean), .methodLink RX7 72 yX7_ofStandby, .instanceMethod yX7_ofStandby, .selects RX7 yX7_ofStandby yX7_ofStandby, .code yX7_ofStandby cX7_ofStandby 3 (some .int)] ++ wsX70)
def wsX7_fence : List Cond := .code yX7_fence cX7_fence 3 (some .int) :: ([.constant RX7 41 (-1000001), .fieldLink RX7 7 "FencedStandbysModel" "s" "[I", .constant RX7 58 (-1000004), .methodLink RX7 47 yX7_isKey, .static yX7_isKey, .initialized RX7, .code yX7_isKey cX7_isKey 1 (some .boolean), .methodLink RX7 33 yX7_in, .static yX7_in, .code yX7_in cX7_in 3 (some .boolean), .methodLink RX7 66 yX7_lastCommit, .instanceMethod yX7_lastCommit, .selects RX7 yX7_lastCommit yX7_lastCommit, .code yX7_lastCommit cX7_lastCommit 4 (some .int), .methodLink RX7 59 yX7_ofRecord, .instanceMethod yX7_ofRecord, .selects RX7 yX7_ofRecord yX7_ofRecord, .code yX7_ofRecord cX7_ofRecord 3 (some .int), .methodLink RX7 63 yX7_lastPut, .instanceMethod yX7_lastPut, .selects RX7 yX7_lastPut yX7_lastPut, .code yX7_lastPut cX7_lastPut 5 (some .int)] ++ wsX70)
def wsX7_recordOf : List Cond := .code yX7_recordOf cX7_recordOf 3 (some .int) :: ([.constant RX7 41 (-1000001), .fieldLink RX7 7 "FencedStandbysModel" "s" "[I", .constant RX7 58 (-1000004), .methodLink RX7 33 yX7_in, .static yX7_in, .initialized RX7, .code yX7_in cX7_in 3 (some .boolean), .methodLink RX7 59 yX7_ofRecord, .instanceMethod yX7_ofRecord, .selects RX7 yX7_ofRecord yX7_ofRecord, .code yX7_ofRecord cX7_ofRecord 3 (some .int)] ++ wsX70)
def wsX7_unlike : List Cond := .code yX7_unlike cX7_unlike 4 (some .int) :: ([.fieldLink RX7 7 "FencedStandbysModel" "s" "[I", .methodLink RX7 72 yX7_ofStandby, .instanceMethod yX7_ofStandby, .selects RX7 yX7_ofStandby yX7_ofStandby, .initialized RX7, .code yX7_ofStandby cX7_ofStandby 3 (some .int), .methodLink RX7 105 yX7_valueAt, .instanceMethod yX7_valueAt, .selects RX7 yX7_valueAt yX7_valueAt, .code yX7_valueAt cX7_valueAt 4 (some .int), .methodLink RX7 66 yX7_lastCommit, .instanceMethod yX7_lastCommit, .selects RX7 yX7_lastCommit yX7_lastCommit, .code yX7_lastCommit cX7_lastCommit 4 (some .int), .methodLink RX7 59 yX7_ofRecord, .instanceMethod yX7_ofRecord, .selects RX7 yX7_ofRecord yX7_ofRecord, .code yX7_ofRecord cX7_ofRecord 3 (some .int), .methodLink RX7 63 yX7_lastPut, .instanceMethod yX7_lastPut, .selects RX7 yX7_lastPut yX7_lastPut, .code yX7_lastPut cX7_lastPut 5 (some .int)] ++ wsX70)
def wsX7_standbyOf_r1 : List Cond := [Cond.constant RX7 41 (-1000001), Cond.fieldLink RX7 7 "FencedStandbysModel" "s" "[I", Cond.constant RX7 58 (-1000004), Cond.methodLink RX7 69 yX7_isStandby, Cond.static yX7_isStandby, Cond.initialized RX7, Cond.code yX7_isStandby cX7_isStandby 1 (some .boolean), Cond.methodLink RX7 33 yX7_in, Cond.static yX7_in, Cond.code yX7_in cX7_in 3 (some .boolean), Cond.methodLink RX7 72 yX7_ofStandby, Cond.instanceMethod yX7_ofStandby, Cond.selects RX7 yX7_ofStandby yX7_ofStandby, Cond.code yX7_ofStandby cX7_ofStandby 3 (some .int), Cond.methodLink RX7 79 yX7_gaps, Cond.instanceMethod yX7_gaps, Cond.selects RX7 yX7_gaps yX7_gaps, Cond.code yX7_gaps cX7_gaps 4 (some .int), Cond.methodLink RX7 75 yX7_isGap, Cond.instanceMethod yX7_isGap, Cond.selects RX7 yX7_isGap yX7_isGap, Cond.code yX7_isGap cX7_isGap 3 (some .boolean), Cond.methodLink RX7 108 yX7_lowestGap, Cond.instanceMethod yX7_lowestGap]
def wsX7_standbyOf_r2 : List Cond := [Cond.selects RX7 yX7_lowestGap yX7_lowestGap, Cond.code yX7_lowestGap cX7_lowestGap 3 (some .int), Cond.methodLink RX7 92 yX7_wouldBeLost, Cond.instanceMethod yX7_wouldBeLost, Cond.selects RX7 yX7_wouldBeLost yX7_wouldBeLost, Cond.code yX7_wouldBeLost cX7_wouldBeLost 2 (some .int), Cond.methodLink RX7 89 yX7_commits, Cond.instanceMethod yX7_commits, Cond.selects RX7 yX7_commits yX7_commits, Cond.code yX7_commits cX7_commits 5 (some .int), Cond.methodLink RX7 59 yX7_ofRecord, Cond.instanceMethod yX7_ofRecord, Cond.selects RX7 yX7_ofRecord yX7_ofRecord, Cond.code yX7_ofRecord cX7_ofRecord 3 (some .int), Cond.methodLink RX7 111 yX7_unlike, Cond.instanceMethod yX7_unlike, Cond.selects RX7 yX7_unlike yX7_unlike, Cond.code yX7_unlike cX7_unlike 4 (some .int), Cond.methodLink RX7 105 yX7_valueAt, Cond.instanceMethod yX7_valueAt, Cond.selects RX7 yX7_valueAt yX7_valueAt, Cond.code yX7_valueAt cX7_valueAt 4 (some .int), Cond.methodLink RX7 66 yX7_lastCommit, Cond.instanceMethod yX7_lastCommit]
def wsX7_standbyOf_r3 : List Cond := [Cond.selects RX7 yX7_lastCommit yX7_lastCommit, Cond.code yX7_lastCommit cX7_lastCommit 4 (some .int), Cond.methodLink RX7 63 yX7_lastPut, Cond.instanceMethod yX7_lastPut, Cond.selects RX7 yX7_lastPut yX7_lastPut, Cond.code yX7_lastPut cX7_lastPut 5 (some .int)]
def wsX7_standbyOf : List Cond := .code yX7_standbyOf cX7_standbyOf 4 (some .int) :: ((wsX7_standbyOf_r1 ++ (wsX7_standbyOf_r2 ++ wsX7_standbyOf_r3)) ++ wsX70)
def wsX7_slotOf : List Cond := .code yX7_slotOf cX7_slotOf 6 (some .int) :: ([.constant RX7 41 (-1000001), .fieldLink RX7 7 "FencedStandbysModel" "s" "[I", .constant RX7 58 (-1000004), .methodLink RX7 37 yX7_isSlot, .static yX7_isSlot, .initialized RX7, .code yX7_isSlot cX7_isSlot 1 (some .boolean), .methodLink RX7 33 yX7_in, .static yX7_in, .code yX7_in cX7_in 3 (some .boolean), .methodLink RX7 59 yX7_ofRecord, .instanceMethod yX7_ofRecord, .selects RX7 yX7_ofRecord yX7_ofRecord, .code yX7_ofRecord cX7_ofRecord 3 (some .int)] ++ wsX70)
def wsX7_until : List Cond := .code yX7_until cX7_until 7 (some .int) :: ([.fieldLink RX7 7 "FencedStandbysModel" "s" "[I", .constant RX7 58 (-1000004), .methodLink RX7 72 yX7_ofStandby, .instanceMethod yX7_ofStandby, .selects RX7 yX7_ofStandby yX7_ofStandby, .initialized RX7, .code yX7_ofStandby cX7_ofStandby 3 (some .int), .methodLink RX7 86 yX7_goes, .instanceMethod yX7_goes, .selects RX7 yX7_goes yX7_goes, .code yX7_goes cX7_goes 8 (some .int), .methodLink RX7 75 yX7_isGap, .instanceMethod yX7_isGap, .selects RX7 yX7_isGap yX7_isGap, .code yX7_isGap cX7_isGap 3 (some .boolean), .methodLink RX7 59 yX7_ofRecord, .instanceMethod yX7_ofRecord, .selects RX7 yX7_ofRecord yX7_ofRecord, .code yX7_ofRecord cX7_ofRecord 3 (some .int)] ++ wsX70)
def wsX7_waits_r1 : List Cond := [Cond.constant RX7 41 (-1000001), Cond.constant RX7 42 (-1000002), Cond.fieldLink RX7 7 "FencedStandbysModel" "s" "[I", Cond.methodLink RX7 69 yX7_isStandby, Cond.static yX7_isStandby, Cond.initialized RX7, Cond.code yX7_isStandby cX7_isStandby 1 (some .boolean), Cond.methodLink RX7 33 yX7_in, Cond.static yX7_in, Cond.code yX7_in cX7_in 3 (some .boolean), Cond.methodLink RX7 99 yX7_isFence, Cond.instanceMethod yX7_isFence, Cond.selects RX7 yX7_isFence yX7_isFence, Cond.code yX7_isFence cX7_isFence 2 (some .boolean), Cond.methodLink RX7 72 yX7_ofStandby, Cond.instanceMethod yX7_ofStandby, Cond.selects RX7 yX7_ofStandby yX7_ofStandby, Cond.code yX7_ofStandby cX7_ofStandby 3 (some .int), Cond.methodLink RX7 114 yX7_until, Cond.instanceMethod yX7_until, Cond.selects RX7 yX7_until yX7_until, Cond.code yX7_until cX7_until 7 (some .int), Cond.constant RX7 58 (-1000004), Cond.methodLink RX7 86 yX7_goes]
def wsX7_waits_r2 : List Cond := [Cond.instanceMethod yX7_goes, Cond.selects RX7 yX7_goes yX7_goes, Cond.code yX7_goes cX7_goes 8 (some .int), Cond.methodLink RX7 75 yX7_isGap, Cond.instanceMethod yX7_isGap, Cond.selects RX7 yX7_isGap yX7_isGap, Cond.code yX7_isGap cX7_isGap 3 (some .boolean), Cond.methodLink RX7 59 yX7_ofRecord, Cond.instanceMethod yX7_ofRecord, Cond.selects RX7 yX7_ofRecord yX7_ofRecord, Cond.code yX7_ofRecord cX7_ofRecord 3 (some .int)]
def wsX7_waits : List Cond := .code yX7_waits cX7_waits 3 (some .int) :: ((wsX7_waits_r1 ++ wsX7_waits_r2) ++ wsX70)
def wsX7_wouldLose_r1 : List Cond := [Cond.constant RX7 41 (-1000001), Cond.constant RX7 42 (-1000002), Cond.methodLink RX7 69 yX7_isStandby, Cond.static yX7_isStandby, Cond.initialized RX7, Cond.code yX7_isStandby cX7_isStandby 1 (some .boolean), Cond.methodLink RX7 33 yX7_in, Cond.static yX7_in, Cond.code yX7_in cX7_in 3 (some .boolean), Cond.methodLink RX7 72 yX7_ofStandby, Cond.instanceMethod yX7_ofStandby, Cond.selects RX7 yX7_ofStandby yX7_ofStandby, Cond.code yX7_ofStandby cX7_ofStandby 3 (some .int), Cond.fieldLink RX7 7 "FencedStandbysModel" "s" "[I", Cond.methodLink RX7 92 yX7_wouldBeLost, Cond.instanceMethod yX7_wouldBeLost, Cond.selects RX7 yX7_wouldBeLost yX7_wouldBeLost, Cond.code yX7_wouldBeLost cX7_wouldBeLost 2 (some .int), Cond.methodLink RX7 89 yX7_commits, Cond.instanceMethod yX7_commits, Cond.selects RX7 yX7_commits yX7_commits, Cond.code yX7_commits cX7_commits 5 (some .int), Cond.methodLink RX7 59 yX7_ofRecord, Cond.instanceMethod yX7_ofRecord]
def wsX7_wouldLose_r2 : List Cond := [Cond.selects RX7 yX7_ofRecord yX7_ofRecord, Cond.code yX7_ofRecord cX7_ofRecord 3 (some .int)]
def wsX7_wouldLose : List Cond := .code yX7_wouldLose cX7_wouldLose 2 (some .int) :: ((wsX7_wouldLose_r1 ++ wsX7_wouldLose_r2) ++ wsX70)
def wsX7_rateFor_r1 : List Cond := [Cond.constant RX7 41 (-1000001), Cond.constant RX7 42 (-1000002), Cond.constant RX7 58 (-1000004), Cond.methodLink RX7 69 yX7_isStandby, Cond.static yX7_isStandby, Cond.initialized RX7, Cond.code yX7_isStandby cX7_isStandby 1 (some .boolean), Cond.methodLink RX7 33 yX7_in, Cond.static yX7_in, Cond.code yX7_in cX7_in 3 (some .boolean), Cond.methodLink RX7 72 yX7_ofStandby, Cond.instanceMethod yX7_ofStandby, Cond.selects RX7 yX7_ofStandby yX7_ofStandby, Cond.code yX7_ofStandby cX7_ofStandby 3 (some .int), Cond.fieldLink RX7 7 "FencedStandbysModel" "s" "[I", Cond.methodLink RX7 108 yX7_lowestGap, Cond.instanceMethod yX7_lowestGap, Cond.selects RX7 yX7_lowestGap yX7_lowestGap, Cond.code yX7_lowestGap cX7_lowestGap 3 (some .int), Cond.methodLink RX7 75 yX7_isGap, Cond.instanceMethod yX7_isGap, Cond.selects RX7 yX7_isGap yX7_isGap, Cond.code yX7_isGap cX7_isGap 3 (some .boolean), Cond.methodLink RX7 114 yX7_until]
def wsX7_rateFor_r2 : List Cond := [Cond.instanceMethod yX7_until, Cond.selects RX7 yX7_until yX7_until, Cond.code yX7_until cX7_until 7 (some .int), Cond.methodLink RX7 86 yX7_goes, Cond.instanceMethod yX7_goes, Cond.selects RX7 yX7_goes yX7_goes, Cond.code yX7_goes cX7_goes 8 (some .int), Cond.methodLink RX7 59 yX7_ofRecord, Cond.instanceMethod yX7_ofRecord, Cond.selects RX7 yX7_ofRecord yX7_ofRecord, Cond.code yX7_ofRecord cX7_ofRecord 3 (some .int)]
def wsX7_rateFor : List Cond := .code yX7_rateFor cX7_rateFor 6 (some .int) :: ((wsX7_rateFor_r1 ++ wsX7_rateFor_r2) ++ wsX70)
def wsX7_count : List Cond := .code yX7_count cX7_count 2 (some .int) :: ([.fieldLink RX7 7 "FencedStandbysModel" "s" "[I", .fieldLink RX7 29 "FencedStandbysModel" "pasts" "I", .fieldLink RX7 117 "FencedStandbysModel" "typed" "I", .constant RX7 41 (-1000001), .methodLink RX7 89 yX7_commits, .instanceMethod yX7_commits, .selects RX7 yX7_commits yX7_commits, .initialized RX7, .code yX7_commits cX7_commits 5 (some .int), .methodLink RX7 59 yX7_ofRecord, .instanceMethod yX7_ofRecord, .selects RX7 yX7_ofRecord yX7_ofRecord, .code yX7_ofRecord cX7_ofRecord 3 (some .int)] ++ wsX70)
def wsX7_undo : List Cond := .code yX7_undo cX7_undo 2 (some .int) :: ([.fieldLink RX7 29 "FencedStandbysModel" "pasts" "I", .constant RX7 42 (-1000002), .fieldLink RX7 7 "FencedStandbysModel" "s" "[I", .fieldLink RX7 13 "FencedStandbysModel" "past" "[I"] ++ wsX70)
def wsX7_type : List Cond := .code yX7_type cX7_type 2 (some .int) :: ([.constant RX7 41 (-1000001), .fieldLink RX7 117 "FencedStandbysModel" "typed" "I", .constant RX7 46 (-1000003), .fieldLink RX7 19 "FencedStandbysModel" "text" "[I", .methodLink RX7 33 yX7_in, .static yX7_in, .initialized RX7, .code yX7_in cX7_in 3 (some .boolean)] ++ wsX70)
def wsX7_clearText : List Cond := .code yX7_clearText cX7_clearText 2 (some .int) :: ([.fieldLink RX7 117 "FencedStandbysModel" "typed" "I"] ++ wsX70)
def wsX7_isAt : List Cond := .code yX7_isAt cX7_isAt 3 (some .boolean) :: ([.fieldLink RX7 120 "FencedStandbysModel" "spot" "I", .fieldLink RX7 117 "FencedStandbysModel" "typed" "I", .fieldLink RX7 19 "FencedStandbysModel" "text" "[I", .methodLink RX7 33 yX7_in, .static yX7_in, .initialized RX7, .code yX7_in cX7_in 3 (some .boolean)] ++ wsX70)
def wsX7_sign : List Cond := .code yX7_sign cX7_sign 3 (some .boolean) :: ([.fieldLink RX7 120 "FencedStandbysModel" "spot" "I", .methodLink RX7 123 yX7_isAt, .instanceMethod yX7_isAt, .selects RX7 yX7_isAt yX7_isAt, .initialized RX7, .code yX7_isAt cX7_isAt 3 (some .boolean), .fieldLink RX7 117 "FencedStandbysModel" "typed" "I", .fieldLink RX7 19 "FencedStandbysModel" "text" "[I", .methodLink RX7 33 yX7_in, .static yX7_in, .code yX7_in cX7_in 3 (some .boolean)] ++ wsX70)
def wsX7_number : List Cond := .code yX7_number cX7_number 3 (some .boolean) :: ([.fieldLink RX7 120 "FencedStandbysModel" "spot" "I", .fieldLink RX7 22 "FencedStandbysModel" "told" "[I", .fieldLink RX7 19 "FencedStandbysModel" "text" "[I", .methodLink RX7 123 yX7_isAt, .instanceMethod yX7_isAt, .selects RX7 yX7_isAt yX7_isAt, .initialized RX7, .code yX7_isAt cX7_isAt 3 (some .boolean), .fieldLink RX7 117 "FencedStandbysModel" "typed" "I", .methodLink RX7 33 yX7_in, .static yX7_in, .code yX7_in cX7_in 3 (some .boolean)] ++ wsX70)
def wsX7_reads : List Cond := .code yX7_reads cX7_reads 3 (some .boolean) :: ([.fieldLink RX7 19 "FencedStandbysModel" "text" "[I", .fieldLink RX7 120 "FencedStandbysModel" "spot" "I", .fieldLink RX7 126 "FencedStandbysModel" "order" "I", .methodLink RX7 123 yX7_isAt, .instanceMethod yX7_isAt, .selects RX7 yX7_isAt yX7_isAt, .initialized RX7, .code yX7_isAt cX7_isAt 3 (some .boolean), .fieldLink RX7 117 "FencedStandbysModel" "typed" "I", .methodLink RX7 33 yX7_in, .static yX7_in, .code yX7_in cX7_in 3 (some .boolean), .methodLink RX7 129 yX7_number, .instanceMethod yX7_number, .selects RX7 yX7_number yX7_number, .code yX7_number cX7_number 3 (some .boolean), .fieldLink RX7 22 "FencedStandbysModel" "told" "[I", .methodLink RX7 132 yX7_sign, .instanceMethod yX7_sign, .selects RX7 yX7_sign yX7_sign, .code yX7_sign cX7_sign 3 (some .boolean)] ++ wsX70)
def wsX7_calls_r1 : List Cond := [Cond.fieldLink RX7 126 "FencedStandbysModel" "order" "I", Cond.fieldLink RX7 22 "FencedStandbysModel" "told" "[I", Cond.methodLink RX7 135 yX7_open, Cond.instanceMethod yX7_open, Cond.selects RX7 yX7_open yX7_open, Cond.initialized RX7, Cond.code yX7_open cX7_open 2 (some .int), Cond.constant RX7 41 (-1000001), Cond.fieldLink RX7 7 "FencedStandbysModel" "s" "[I", Cond.constant RX7 42 (-1000002), Cond.methodLink RX7 37 yX7_isSlot, Cond.static yX7_isSlot, Cond.code yX7_isSlot cX7_isSlot 1 (some .boolean), Cond.methodLink RX7 33 yX7_in, Cond.static yX7_in, Cond.code yX7_in cX7_in 3 (some .boolean), Cond.methodLink RX7 43 yX7_changes, Cond.instanceMethod yX7_changes, Cond.selects RX7 yX7_changes yX7_changes, Cond.code yX7_changes cX7_changes 2 none, Cond.fieldLink RX7 25 "FencedStandbysModel" "runs" "Z", Cond.fieldLink RX7 29 "FencedStandbysModel" "pasts" "I", Cond.fieldLink RX7 13 "FencedStandbysModel" "past" "[I", Cond.methodLink RX7 138 yX7_commit]
def wsX7_calls_r2 : List Cond := [Cond.instanceMethod yX7_commit, Cond.selects RX7 yX7_commit yX7_commit, Cond.code yX7_commit cX7_commit 3 (some .int), Cond.constant RX7 58 (-1000004), Cond.methodLink RX7 50 yX7_bar, Cond.instanceMethod yX7_bar, Cond.selects RX7 yX7_bar yX7_bar, Cond.code yX7_bar cX7_bar 2 (some .int), Cond.constant RX7 46 (-1000003), Cond.methodLink RX7 54 yX7_writes, Cond.instanceMethod yX7_writes, Cond.selects RX7 yX7_writes yX7_writes, Cond.code yX7_writes cX7_writes 6 (some .int), Cond.methodLink RX7 141 yX7_abort, Cond.instanceMethod yX7_abort, Cond.selects RX7 yX7_abort yX7_abort, Cond.code yX7_abort cX7_abort 3 (some .int), Cond.methodLink RX7 144 yX7_put, Cond.instanceMethod yX7_put, Cond.selects RX7 yX7_put yX7_put, Cond.code yX7_put cX7_put 5 (some .int), Cond.methodLink RX7 47 yX7_isKey, Cond.static yX7_isKey, Cond.code yX7_isKey cX7_isKey 1 (some .boolean)]
def wsX7_calls_r3 : List Cond := [Cond.methodLink RX7 148 yX7_ship, Cond.instanceMethod yX7_ship, Cond.selects RX7 yX7_ship yX7_ship, Cond.code yX7_ship cX7_ship 5 (some .int), Cond.methodLink RX7 69 yX7_isStandby, Cond.static yX7_isStandby, Cond.code yX7_isStandby cX7_isStandby 1 (some .boolean), Cond.methodLink RX7 72 yX7_ofStandby, Cond.instanceMethod yX7_ofStandby, Cond.selects RX7 yX7_ofStandby yX7_ofStandby, Cond.code yX7_ofStandby cX7_ofStandby 3 (some .int), Cond.methodLink RX7 151 yX7_tick, Cond.instanceMethod yX7_tick, Cond.selects RX7 yX7_tick yX7_tick, Cond.code yX7_tick cX7_tick 6 (some .int), Cond.methodLink RX7 86 yX7_goes, Cond.instanceMethod yX7_goes, Cond.selects RX7 yX7_goes yX7_goes, Cond.code yX7_goes cX7_goes 8 (some .int), Cond.methodLink RX7 75 yX7_isGap, Cond.instanceMethod yX7_isGap, Cond.selects RX7 yX7_isGap yX7_isGap, Cond.code yX7_isGap cX7_isGap 3 (some .boolean), Cond.methodLink RX7 59 yX7_ofRecord]
def wsX7_calls_r4 : List Cond := [Cond.instanceMethod yX7_ofRecord, Cond.selects RX7 yX7_ofRecord yX7_ofRecord, Cond.code yX7_ofRecord cX7_ofRecord 3 (some .int)]
def wsX7_calls : List Cond := .code yX7_calls cX7_calls 1 (some .int) :: ((wsX7_calls_r1 ++ (wsX7_calls_r2 ++ (wsX7_calls_r3 ++ wsX7_calls_r4))) ++ wsX70)
def wsX7_plays_r1 : List Cond := [Cond.fieldLink RX7 25 "FencedStandbysModel" "runs" "Z", Cond.fieldLink RX7 120 "FencedStandbysModel" "spot" "I", Cond.fieldLink RX7 154 "FencedStandbysModel" "from" "I", Cond.fieldLink RX7 157 "FencedStandbysModel" "orders" "I", Cond.fieldLink RX7 117 "FencedStandbysModel" "typed" "I", Cond.fieldLink RX7 168 "FencedStandbysModel" "reason" "I", Cond.fieldLink RX7 171 "FencedStandbysModel" "cause" "I", Cond.methodLink RX7 160 yX7_reads, Cond.instanceMethod yX7_reads, Cond.selects RX7 yX7_reads yX7_reads, Cond.initialized RX7, Cond.code yX7_reads cX7_reads 3 (some .boolean), Cond.fieldLink RX7 19 "FencedStandbysModel" "text" "[I", Cond.fieldLink RX7 126 "FencedStandbysModel" "order" "I", Cond.methodLink RX7 123 yX7_isAt, Cond.instanceMethod yX7_isAt, Cond.selects RX7 yX7_isAt yX7_isAt, Cond.code yX7_isAt cX7_isAt 3 (some .boolean), Cond.methodLink RX7 33 yX7_in, Cond.static yX7_in, Cond.code yX7_in cX7_in 3 (some .boolean), Cond.methodLink RX7 129 yX7_number, Cond.instanceMethod yX7_number, Cond.selects RX7 yX7_number yX7_number]
def wsX7_plays_r2 : List Cond := [Cond.code yX7_number cX7_number 3 (some .boolean), Cond.fieldLink RX7 22 "FencedStandbysModel" "told" "[I", Cond.methodLink RX7 132 yX7_sign, Cond.instanceMethod yX7_sign, Cond.selects RX7 yX7_sign yX7_sign, Cond.code yX7_sign cX7_sign 3 (some .boolean), Cond.methodLink RX7 164 yX7_calls, Cond.instanceMethod yX7_calls, Cond.selects RX7 yX7_calls yX7_calls, Cond.code yX7_calls cX7_calls 1 (some .int), Cond.methodLink RX7 135 yX7_open, Cond.instanceMethod yX7_open, Cond.selects RX7 yX7_open yX7_open, Cond.code yX7_open cX7_open 2 (some .int), Cond.constant RX7 41 (-1000001), Cond.fieldLink RX7 7 "FencedStandbysModel" "s" "[I", Cond.constant RX7 42 (-1000002), Cond.methodLink RX7 37 yX7_isSlot, Cond.static yX7_isSlot, Cond.code yX7_isSlot cX7_isSlot 1 (some .boolean), Cond.methodLink RX7 43 yX7_changes, Cond.instanceMethod yX7_changes, Cond.selects RX7 yX7_changes yX7_changes, Cond.code yX7_changes cX7_changes 2 none]
def wsX7_plays_r3 : List Cond := [Cond.fieldLink RX7 29 "FencedStandbysModel" "pasts" "I", Cond.fieldLink RX7 13 "FencedStandbysModel" "past" "[I", Cond.methodLink RX7 138 yX7_commit, Cond.instanceMethod yX7_commit, Cond.selects RX7 yX7_commit yX7_commit, Cond.code yX7_commit cX7_commit 3 (some .int), Cond.constant RX7 58 (-1000004), Cond.methodLink RX7 50 yX7_bar, Cond.instanceMethod yX7_bar, Cond.selects RX7 yX7_bar yX7_bar, Cond.code yX7_bar cX7_bar 2 (some .int), Cond.constant RX7 46 (-1000003), Cond.methodLink RX7 54 yX7_writes, Cond.instanceMethod yX7_writes, Cond.selects RX7 yX7_writes yX7_writes, Cond.code yX7_writes cX7_writes 6 (some .int), Cond.methodLink RX7 141 yX7_abort, Cond.instanceMethod yX7_abort, Cond.selects RX7 yX7_abort yX7_abort, Cond.code yX7_abort cX7_abort 3 (some .int), Cond.methodLink RX7 144 yX7_put, Cond.instanceMethod yX7_put, Cond.selects RX7 yX7_put yX7_put, Cond.code yX7_put cX7_put 5 (some .int)]
def wsX7_plays_r4 : List Cond := [Cond.methodLink RX7 47 yX7_isKey, Cond.static yX7_isKey, Cond.code yX7_isKey cX7_isKey 1 (some .boolean), Cond.methodLink RX7 148 yX7_ship, Cond.instanceMethod yX7_ship, Cond.selects RX7 yX7_ship yX7_ship, Cond.code yX7_ship cX7_ship 5 (some .int), Cond.methodLink RX7 69 yX7_isStandby, Cond.static yX7_isStandby, Cond.code yX7_isStandby cX7_isStandby 1 (some .boolean), Cond.methodLink RX7 72 yX7_ofStandby, Cond.instanceMethod yX7_ofStandby, Cond.selects RX7 yX7_ofStandby yX7_ofStandby, Cond.code yX7_ofStandby cX7_ofStandby 3 (some .int), Cond.methodLink RX7 151 yX7_tick, Cond.instanceMethod yX7_tick, Cond.selects RX7 yX7_tick yX7_tick, Cond.code yX7_tick cX7_tick 6 (some .int), Cond.methodLink RX7 86 yX7_goes, Cond.instanceMethod yX7_goes, Cond.selects RX7 yX7_goes yX7_goes, Cond.code yX7_goes cX7_goes 8 (some .int), Cond.methodLink RX7 75 yX7_isGap, Cond.instanceMethod yX7_isGap]
def wsX7_plays_r5 : List Cond := [Cond.selects RX7 yX7_isGap yX7_isGap, Cond.code yX7_isGap cX7_isGap 3 (some .boolean), Cond.methodLink RX7 59 yX7_ofRecord, Cond.instanceMethod yX7_ofRecord, Cond.selects RX7 yX7_ofRecord yX7_ofRecord, Cond.code yX7_ofRecord cX7_ofRecord 3 (some .int)]
def wsX7_plays : List Cond := .code yX7_plays cX7_plays 4 (some .boolean) :: ((wsX7_plays_r1 ++ (wsX7_plays_r2 ++ (wsX7_plays_r3 ++ (wsX7_plays_r4 ++ wsX7_plays_r5)))) ++ wsX70)
def wsX7_fault_r1 : List Cond := [Cond.constant RX7 41 (-1000001), Cond.fieldLink RX7 7 "FencedStandbysModel" "s" "[I", Cond.fieldLink RX7 16 "FencedStandbysModel" "held" "[I", Cond.constant RX7 58 (-1000004), Cond.fieldLink RX7 154 "FencedStandbysModel" "from" "I", Cond.fieldLink RX7 168 "FencedStandbysModel" "reason" "I", Cond.fieldLink RX7 171 "FencedStandbysModel" "cause" "I", Cond.methodLink RX7 33 yX7_in, Cond.static yX7_in, Cond.initialized RX7, Cond.code yX7_in cX7_in 3 (some .boolean), Cond.methodLink RX7 174 yX7_copies, Cond.static yX7_copies, Cond.code yX7_copies cX7_copies 3 none, Cond.methodLink RX7 178 yX7_plays, Cond.instanceMethod yX7_plays, Cond.selects RX7 yX7_plays yX7_plays, Cond.code yX7_plays cX7_plays 4 (some .boolean), Cond.fieldLink RX7 25 "FencedStandbysModel" "runs" "Z", Cond.fieldLink RX7 120 "FencedStandbysModel" "spot" "I", Cond.fieldLink RX7 157 "FencedStandbysModel" "orders" "I", Cond.fieldLink RX7 117 "FencedStandbysModel" "typed" "I", Cond.methodLink RX7 160 yX7_reads, Cond.instanceMethod yX7_reads]
def wsX7_fault_r2 : List Cond := [Cond.selects RX7 yX7_reads yX7_reads, Cond.code yX7_reads cX7_reads 3 (some .boolean), Cond.fieldLink RX7 19 "FencedStandbysModel" "text" "[I", Cond.fieldLink RX7 126 "FencedStandbysModel" "order" "I", Cond.methodLink RX7 123 yX7_isAt, Cond.instanceMethod yX7_isAt, Cond.selects RX7 yX7_isAt yX7_isAt, Cond.code yX7_isAt cX7_isAt 3 (some .boolean), Cond.methodLink RX7 129 yX7_number, Cond.instanceMethod yX7_number, Cond.selects RX7 yX7_number yX7_number, Cond.code yX7_number cX7_number 3 (some .boolean), Cond.fieldLink RX7 22 "FencedStandbysModel" "told" "[I", Cond.methodLink RX7 132 yX7_sign, Cond.instanceMethod yX7_sign, Cond.selects RX7 yX7_sign yX7_sign, Cond.code yX7_sign cX7_sign 3 (some .boolean), Cond.methodLink RX7 164 yX7_calls, Cond.instanceMethod yX7_calls, Cond.selects RX7 yX7_calls yX7_calls, Cond.code yX7_calls cX7_calls 1 (some .int), Cond.methodLink RX7 135 yX7_open, Cond.instanceMethod yX7_open, Cond.selects RX7 yX7_open yX7_open]
def wsX7_fault_r3 : List Cond := [Cond.code yX7_open cX7_open 2 (some .int), Cond.constant RX7 42 (-1000002), Cond.methodLink RX7 37 yX7_isSlot, Cond.static yX7_isSlot, Cond.code yX7_isSlot cX7_isSlot 1 (some .boolean), Cond.methodLink RX7 43 yX7_changes, Cond.instanceMethod yX7_changes, Cond.selects RX7 yX7_changes yX7_changes, Cond.code yX7_changes cX7_changes 2 none, Cond.fieldLink RX7 29 "FencedStandbysModel" "pasts" "I", Cond.fieldLink RX7 13 "FencedStandbysModel" "past" "[I", Cond.methodLink RX7 138 yX7_commit, Cond.instanceMethod yX7_commit, Cond.selects RX7 yX7_commit yX7_commit, Cond.code yX7_commit cX7_commit 3 (some .int), Cond.methodLink RX7 50 yX7_bar, Cond.instanceMethod yX7_bar, Cond.selects RX7 yX7_bar yX7_bar, Cond.code yX7_bar cX7_bar 2 (some .int), Cond.constant RX7 46 (-1000003), Cond.methodLink RX7 54 yX7_writes, Cond.instanceMethod yX7_writes, Cond.selects RX7 yX7_writes yX7_writes, Cond.code yX7_writes cX7_writes 6 (some .int)]
def wsX7_fault_r4 : List Cond := [Cond.methodLink RX7 141 yX7_abort, Cond.instanceMethod yX7_abort, Cond.selects RX7 yX7_abort yX7_abort, Cond.code yX7_abort cX7_abort 3 (some .int), Cond.methodLink RX7 144 yX7_put, Cond.instanceMethod yX7_put, Cond.selects RX7 yX7_put yX7_put, Cond.code yX7_put cX7_put 5 (some .int), Cond.methodLink RX7 47 yX7_isKey, Cond.static yX7_isKey, Cond.code yX7_isKey cX7_isKey 1 (some .boolean), Cond.methodLink RX7 148 yX7_ship, Cond.instanceMethod yX7_ship, Cond.selects RX7 yX7_ship yX7_ship, Cond.code yX7_ship cX7_ship 5 (some .int), Cond.methodLink RX7 69 yX7_isStandby, Cond.static yX7_isStandby, Cond.code yX7_isStandby cX7_isStandby 1 (some .boolean), Cond.methodLink RX7 72 yX7_ofStandby, Cond.instanceMethod yX7_ofStandby, Cond.selects RX7 yX7_ofStandby yX7_ofStandby, Cond.code yX7_ofStandby cX7_ofStandby 3 (some .int), Cond.methodLink RX7 151 yX7_tick, Cond.instanceMethod yX7_tick]
def wsX7_fault_r5 : List Cond := [Cond.selects RX7 yX7_tick yX7_tick, Cond.code yX7_tick cX7_tick 6 (some .int), Cond.methodLink RX7 86 yX7_goes, Cond.instanceMethod yX7_goes, Cond.selects RX7 yX7_goes yX7_goes, Cond.code yX7_goes cX7_goes 8 (some .int), Cond.methodLink RX7 75 yX7_isGap, Cond.instanceMethod yX7_isGap, Cond.selects RX7 yX7_isGap yX7_isGap, Cond.code yX7_isGap cX7_isGap 3 (some .boolean), Cond.methodLink RX7 59 yX7_ofRecord, Cond.instanceMethod yX7_ofRecord, Cond.selects RX7 yX7_ofRecord yX7_ofRecord, Cond.code yX7_ofRecord cX7_ofRecord 3 (some .int)]
def wsX7_fault : List Cond := .code yX7_fault cX7_fault 3 (some .int) :: ((wsX7_fault_r1 ++ (wsX7_fault_r2 ++ (wsX7_fault_r3 ++ (wsX7_fault_r4 ++ wsX7_fault_r5)))) ++ wsX70)
def wsX7_play_r1 : List Cond := [Cond.fieldLink RX7 7 "FencedStandbysModel" "s" "[I", Cond.fieldLink RX7 16 "FencedStandbysModel" "held" "[I", Cond.constant RX7 42 (-1000002), Cond.fieldLink RX7 157 "FencedStandbysModel" "orders" "I", Cond.constant RX7 58 (-1000004), Cond.methodLink RX7 174 yX7_copies, Cond.static yX7_copies, Cond.initialized RX7, Cond.code yX7_copies cX7_copies 3 none, Cond.methodLink RX7 178 yX7_plays, Cond.instanceMethod yX7_plays, Cond.selects RX7 yX7_plays yX7_plays, Cond.code yX7_plays cX7_plays 4 (some .boolean), Cond.fieldLink RX7 25 "FencedStandbysModel" "runs" "Z", Cond.fieldLink RX7 120 "FencedStandbysModel" "spot" "I", Cond.fieldLink RX7 154 "FencedStandbysModel" "from" "I", Cond.fieldLink RX7 117 "FencedStandbysModel" "typed" "I", Cond.fieldLink RX7 168 "FencedStandbysModel" "reason" "I", Cond.fieldLink RX7 171 "FencedStandbysModel" "cause" "I", Cond.methodLink RX7 160 yX7_reads, Cond.instanceMethod yX7_reads, Cond.selects RX7 yX7_reads yX7_reads, Cond.code yX7_reads cX7_reads 3 (some .boolean), Cond.fieldLink RX7 19 "FencedStandbysModel" "text" "[I"]
def wsX7_play_r2 : List Cond := [Cond.fieldLink RX7 126 "FencedStandbysModel" "order" "I", Cond.methodLink RX7 123 yX7_isAt, Cond.instanceMethod yX7_isAt, Cond.selects RX7 yX7_isAt yX7_isAt, Cond.code yX7_isAt cX7_isAt 3 (some .boolean), Cond.methodLink RX7 33 yX7_in, Cond.static yX7_in, Cond.code yX7_in cX7_in 3 (some .boolean), Cond.methodLink RX7 129 yX7_number, Cond.instanceMethod yX7_number, Cond.selects RX7 yX7_number yX7_number, Cond.code yX7_number cX7_number 3 (some .boolean), Cond.fieldLink RX7 22 "FencedStandbysModel" "told" "[I", Cond.methodLink RX7 132 yX7_sign, Cond.instanceMethod yX7_sign, Cond.selects RX7 yX7_sign yX7_sign, Cond.code yX7_sign cX7_sign 3 (some .boolean), Cond.methodLink RX7 164 yX7_calls, Cond.instanceMethod yX7_calls, Cond.selects RX7 yX7_calls yX7_calls, Cond.code yX7_calls cX7_calls 1 (some .int), Cond.methodLink RX7 135 yX7_open, Cond.instanceMethod yX7_open, Cond.selects RX7 yX7_open yX7_open]
def wsX7_play_r3 : List Cond := [Cond.code yX7_open cX7_open 2 (some .int), Cond.constant RX7 41 (-1000001), Cond.methodLink RX7 37 yX7_isSlot, Cond.static yX7_isSlot, Cond.code yX7_isSlot cX7_isSlot 1 (some .boolean), Cond.methodLink RX7 43 yX7_changes, Cond.instanceMethod yX7_changes, Cond.selects RX7 yX7_changes yX7_changes, Cond.code yX7_changes cX7_changes 2 none, Cond.fieldLink RX7 29 "FencedStandbysModel" "pasts" "I", Cond.fieldLink RX7 13 "FencedStandbysModel" "past" "[I", Cond.methodLink RX7 138 yX7_commit, Cond.instanceMethod yX7_commit, Cond.selects RX7 yX7_commit yX7_commit, Cond.code yX7_commit cX7_commit 3 (some .int), Cond.methodLink RX7 50 yX7_bar, Cond.instanceMethod yX7_bar, Cond.selects RX7 yX7_bar yX7_bar, Cond.code yX7_bar cX7_bar 2 (some .int), Cond.constant RX7 46 (-1000003), Cond.methodLink RX7 54 yX7_writes, Cond.instanceMethod yX7_writes, Cond.selects RX7 yX7_writes yX7_writes, Cond.code yX7_writes cX7_writes 6 (some .int)]
def wsX7_play_r4 : List Cond := [Cond.methodLink RX7 141 yX7_abort, Cond.instanceMethod yX7_abort, Cond.selects RX7 yX7_abort yX7_abort, Cond.code yX7_abort cX7_abort 3 (some .int), Cond.methodLink RX7 144 yX7_put, Cond.instanceMethod yX7_put, Cond.selects RX7 yX7_put yX7_put, Cond.code yX7_put cX7_put 5 (some .int), Cond.methodLink RX7 47 yX7_isKey, Cond.static yX7_isKey, Cond.code yX7_isKey cX7_isKey 1 (some .boolean), Cond.methodLink RX7 148 yX7_ship, Cond.instanceMethod yX7_ship, Cond.selects RX7 yX7_ship yX7_ship, Cond.code yX7_ship cX7_ship 5 (some .int), Cond.methodLink RX7 69 yX7_isStandby, Cond.static yX7_isStandby, Cond.code yX7_isStandby cX7_isStandby 1 (some .boolean), Cond.methodLink RX7 72 yX7_ofStandby, Cond.instanceMethod yX7_ofStandby, Cond.selects RX7 yX7_ofStandby yX7_ofStandby, Cond.code yX7_ofStandby cX7_ofStandby 3 (some .int), Cond.methodLink RX7 151 yX7_tick, Cond.instanceMethod yX7_tick]
def wsX7_play_r5 : List Cond := [Cond.selects RX7 yX7_tick yX7_tick, Cond.code yX7_tick cX7_tick 6 (some .int), Cond.methodLink RX7 86 yX7_goes, Cond.instanceMethod yX7_goes, Cond.selects RX7 yX7_goes yX7_goes, Cond.code yX7_goes cX7_goes 8 (some .int), Cond.methodLink RX7 75 yX7_isGap, Cond.instanceMethod yX7_isGap, Cond.selects RX7 yX7_isGap yX7_isGap, Cond.code yX7_isGap cX7_isGap 3 (some .boolean), Cond.methodLink RX7 59 yX7_ofRecord, Cond.instanceMethod yX7_ofRecord, Cond.selects RX7 yX7_ofRecord yX7_ofRecord, Cond.code yX7_ofRecord cX7_ofRecord 3 (some .int)]
def wsX7_play : List Cond := .code yX7_play cX7_play 2 (some .int) :: ((wsX7_play_r1 ++ (wsX7_play_r2 ++ (wsX7_play_r3 ++ (wsX7_play_r4 ++ wsX7_play_r5)))) ++ wsX70)
def wsJ9_max_7cf53 : List Cond := .code yJ9_max_7cf53 cJ9_max_7cf53 2 (some .int) :: ([])
def wsJ9_min_7cf53 : List Cond := .code yJ9_min_7cf53 cJ9_min_7cf53 2 (some .int) :: ([])
def wsL_law_r1 : List Cond := [Cond.classLink RL 7 RX6, Cond.instantiable RX6 6, Cond.initialized RX6, Cond.classLink RL 10 RX7, Cond.instantiable RX7 14, Cond.initialized RX7, Cond.methodLink RL 9 yX6_init, Cond.instanceMethod yX6_init, Cond.code yX6_init cX6_init 1 none, Cond.methodLink RX6 1 objectInit, Cond.instanceMethod objectInit, Cond.code objectInit ⟨#[0xb1]⟩ 1 none, Cond.classLink RX6 7 RX4, Cond.instantiable RX4 12, Cond.initialized RX4, Cond.fieldLink RX6 10 "FencedStandbys" "store" "LFencedStandbys$Store;", Cond.classLink RX6 16 RX0, Cond.instantiable RX0 2, Cond.initialized RX0, Cond.fieldLink RX6 19 "FencedStandbys" "history" "LFencedStandbys$History;", Cond.classLink RX6 23 RX2, Cond.instantiable RX2 6, Cond.initialized RX2, Cond.fieldLink RX6 26 "FencedStandbys" "text" "LFencedStandbys$OrderText;"]
def wsL_law_r2 : List Cond := [Cond.classLink RX6 30 RX5, Cond.instantiable RX5 5, Cond.initialized RX5, Cond.fieldLink RX6 33 "FencedStandbys" "trial" "LFencedStandbys$Trial;", Cond.arrayClass .int, Cond.fieldLink RX6 37 "FencedStandbys" "valuesSeen" "[I", Cond.fieldLink RX6 41 "FencedStandbys" "valuesAtEnd" "[I", Cond.instanceMethod yX4_init, Cond.code yX4_init cX4_init 1 none, Cond.methodLink RX4 3 objectInit, Cond.classLink RX4 9 RX1, Cond.instantiable RX1 6, Cond.initialized RX1, Cond.fieldLink RX4 12 "FencedStandbys$Store" "log" "LFencedStandbys$Log;", Cond.classLink RX4 18 RX3, Cond.instantiable RX3 4, Cond.initialized RX3, Cond.fieldLink RX4 21 "FencedStandbys$Store" "first" "LFencedStandbys$Standby;", Cond.fieldLink RX4 25 "FencedStandbys$Store" "second" "LFencedStandbys$Standby;", Cond.fieldLink RX4 28 "FencedStandbys$Store" "slots" "[I", Cond.fieldLink RX4 32 "FencedStandbys$Store" "tick" "I", Cond.fieldLink RX4 36 "FencedStandbys$Store" "timeline" "I", Cond.fieldLink RX4 39 "FencedStandbys$Store" "transactions" "I", Cond.fieldLink RX4 42 "FencedStandbys$Store" "commitsLost" "I"]
def wsL_law_r3 : List Cond := [Cond.fieldLink RX4 45 "FencedStandbys$Store" "recordsLost" "I", Cond.fieldLink RX4 48 "FencedStandbys$Store" "recordsApplied" "I", Cond.fieldLink RX4 51 "FencedStandbys$Store" "rate" "I", Cond.fieldLink RX4 54 "FencedStandbys$Store" "delay" "I", Cond.instanceMethod yX1_init, Cond.code yX1_init cX1_init 1 none, Cond.methodLink RX1 3 objectInit, Cond.fieldLink RX1 9 "FencedStandbys$Log" "size" "I", Cond.fieldLink RX1 15 "FencedStandbys$Log" "kinds" "[I", Cond.fieldLink RX1 19 "FencedStandbys$Log" "transactions" "[I", Cond.fieldLink RX1 22 "FencedStandbys$Log" "keys" "[I", Cond.fieldLink RX1 25 "FencedStandbys$Log" "values" "[I", Cond.fieldLink RX1 28 "FencedStandbys$Log" "ticks" "[I", Cond.instanceMethod yX3_init, Cond.code yX3_init cX3_init 1 none, Cond.methodLink RX3 3 objectInit, Cond.fieldLink RX3 9 "FencedStandbys$Standby" "received" "I", Cond.fieldLink RX3 15 "FencedStandbys$Standby" "applied" "I", Cond.fieldLink RX3 18 "FencedStandbys$Standby" "astray" "Z", Cond.arrayClass .boolean, Cond.fieldLink RX3 22 "FencedStandbys$Standby" "gaps" "[Z", Cond.methodLink RX6 18 yX0_init, Cond.instanceMethod yX0_init, Cond.code yX0_init cX0_init 2 none]
def wsL_law_r4 : List Cond := [Cond.methodLink RX0 3 objectInit, Cond.classLink RX0 9 RX4, Cond.fieldLink RX0 11 "FencedStandbys$History" "states" "[LFencedStandbys$Store;", Cond.fieldLink RX0 17 "FencedStandbys$History" "size" "I", Cond.instanceMethod yX2_init, Cond.code yX2_init cX2_init 1 none, Cond.methodLink RX2 3 objectInit, Cond.arrayClass .char, Cond.fieldLink RX2 9 "FencedStandbys$OrderText" "characters" "[C", Cond.fieldLink RX2 15 "FencedStandbys$OrderText" "length" "I", Cond.fieldLink RX2 19 "FencedStandbys$OrderText" "at" "I", Cond.fieldLink RX2 22 "FencedStandbys$OrderText" "kind" "I", Cond.fieldLink RX2 25 "FencedStandbys$OrderText" "numbers" "[I", Cond.fieldLink RX2 29 "FencedStandbys$OrderText" "numbersRead" "I", Cond.instanceMethod yX5_init, Cond.code yX5_init cX5_init 1 none, Cond.methodLink RX5 3 objectInit, Cond.classLink RX5 9 RX4, Cond.fieldLink RX5 12 "FencedStandbys$Trial" "store" "LFencedStandbys$Store;", Cond.fieldLink RX5 18 "FencedStandbys$Trial" "orders" "I", Cond.fieldLink RX5 22 "FencedStandbys$Trial" "position" "I", Cond.fieldLink RX5 25 "FencedStandbys$Trial" "reason" "I", Cond.fieldLink RX5 28 "FencedStandbys$Trial" "cause" "I", Cond.methodLink RL 12 yX7_init]
def wsL_law_r5 : List Cond := [Cond.instanceMethod yX7_init, Cond.code yX7_init cX7_init 1 none, Cond.methodLink RX7 1 objectInit, Cond.fieldLink RX7 7 "FencedStandbysModel" "s" "[I", Cond.fieldLink RX7 13 "FencedStandbysModel" "past" "[I", Cond.fieldLink RX7 16 "FencedStandbysModel" "held" "[I", Cond.fieldLink RX7 19 "FencedStandbysModel" "text" "[I", Cond.fieldLink RX7 22 "FencedStandbysModel" "told" "[I", Cond.methodLink RL 13 yX6_open, Cond.instanceMethod yX6_open, Cond.selects RX6 yX6_open yX6_open, Cond.code yX6_open cX6_open 2 (some .int), Cond.methodLink RX6 44 yX0_prepare, Cond.instanceMethod yX0_prepare, Cond.selects RX0 yX0_prepare yX0_prepare, Cond.code yX0_prepare cX0_prepare 2 none, Cond.methodLink RX0 22 yX4_copyFrom, Cond.instanceMethod yX4_copyFrom, Cond.selects RX4 yX4_copyFrom yX4_copyFrom, Cond.code yX4_copyFrom cX4_copyFrom 2 none, Cond.methodLink RX4 150 arraycopyName, Cond.native arraycopyName, Cond.static arraycopyName, Cond.initialized "java/lang/System"]
def wsL_law_r6 : List Cond := [Cond.methodLink RX4 143 yX1_copyFrom, Cond.instanceMethod yX1_copyFrom, Cond.selects RX1 yX1_copyFrom yX1_copyFrom, Cond.code yX1_copyFrom cX1_copyFrom 3 none, Cond.methodLink RX1 70 Lib.Math.min.name, Cond.static Lib.Math.min.name, Cond.initialized "java/lang/Math", Cond.code Lib.Math.min.name Lib.Math.min.code 2 (some .int), Cond.methodLink RX1 75 Lib.Math.max.name, Cond.static Lib.Math.max.name, Cond.code Lib.Math.max.name Lib.Math.max.code 2 (some .int), Cond.methodLink RX1 78 arraycopyName, Cond.methodLink RX4 147 yX3_copyFrom, Cond.instanceMethod yX3_copyFrom, Cond.selects RX3 yX3_copyFrom yX3_copyFrom, Cond.code yX3_copyFrom cX3_copyFrom 2 none, Cond.methodLink RX3 43 arraycopyName, Cond.methodLink RX6 48 yX4_openIn, Cond.instanceMethod yX4_openIn, Cond.selects RX4 yX4_openIn yX4_openIn, Cond.code yX4_openIn cX4_openIn 2 (some .int), Cond.constant RX4 64 (-1000001), Cond.constant RX4 65 (-1000002), Cond.static yX6_isSlot]
def wsL_law_r7 : List Cond := [Cond.code yX6_isSlot cX6_isSlot 1 (some .boolean), Cond.methodLink RX6 52 yX6_changed, Cond.instanceMethod yX6_changed, Cond.selects RX6 yX6_changed yX6_changed, Cond.code yX6_changed cX6_changed 2 (some .int), Cond.methodLink RX6 252 yX0_keep, Cond.instanceMethod yX0_keep, Cond.selects RX0 yX0_keep yX0_keep, Cond.code yX0_keep cX0_keep 3 none, Cond.methodLink RL 17 yX7_open, Cond.instanceMethod yX7_open, Cond.selects RX7 yX7_open yX7_open, Cond.code yX7_open cX7_open 2 (some .int), Cond.constant RX7 41 (-1000001), Cond.constant RX7 42 (-1000002), Cond.methodLink RX7 37 yX7_isSlot, Cond.static yX7_isSlot, Cond.code yX7_isSlot cX7_isSlot 1 (some .boolean), Cond.methodLink RX7 33 yX7_in, Cond.static yX7_in, Cond.code yX7_in cX7_in 3 (some .boolean), Cond.methodLink RX7 43 yX7_changes, Cond.instanceMethod yX7_changes, Cond.selects RX7 yX7_changes yX7_changes]
def wsL_law_r8 : List Cond := [Cond.code yX7_changes cX7_changes 2 none, Cond.fieldLink RX7 25 "FencedStandbysModel" "runs" "Z", Cond.fieldLink RX7 29 "FencedStandbysModel" "pasts" "I", Cond.methodLink RL 18 yX6_put, Cond.instanceMethod yX6_put, Cond.selects RX6 yX6_put yX6_put, Cond.code yX6_put cX6_put 4 (some .int), Cond.methodLink RX6 55 yX4_putBy, Cond.instanceMethod yX4_putBy, Cond.selects RX4 yX4_putBy yX4_putBy, Cond.code yX4_putBy cX4_putBy 4 (some .int), Cond.static yX6_isKey, Cond.code yX6_isKey cX6_isKey 1 (some .boolean), Cond.methodLink RX4 69 yX4_write, Cond.instanceMethod yX4_write, Cond.selects RX4 yX4_write yX4_write, Cond.code yX4_write cX4_write 5 (some .int), Cond.methodLink RX4 73 yX1_append, Cond.instanceMethod yX1_append, Cond.selects RX1 yX1_append yX1_append, Cond.code yX1_append cX1_append 7 (some .int), Cond.constant RX1 36 (-1000003), Cond.methodLink RL 22 yX7_put, Cond.instanceMethod yX7_put]
def wsL_law_r9 : List Cond := [Cond.selects RX7 yX7_put yX7_put, Cond.code yX7_put cX7_put 5 (some .int), Cond.methodLink RX7 47 yX7_isKey, Cond.static yX7_isKey, Cond.code yX7_isKey cX7_isKey 1 (some .boolean), Cond.methodLink RX7 50 yX7_bar, Cond.instanceMethod yX7_bar, Cond.selects RX7 yX7_bar yX7_bar, Cond.code yX7_bar cX7_bar 2 (some .int), Cond.constant RX7 46 (-1000003), Cond.methodLink RX7 54 yX7_writes, Cond.instanceMethod yX7_writes, Cond.selects RX7 yX7_writes yX7_writes, Cond.code yX7_writes cX7_writes 6 (some .int), Cond.methodLink RL 23 yX6_commit, Cond.instanceMethod yX6_commit, Cond.selects RX6 yX6_commit yX6_commit, Cond.code yX6_commit cX6_commit 2 (some .int), Cond.methodLink RX6 59 yX4_endIn, Cond.instanceMethod yX4_endIn, Cond.selects RX4 yX4_endIn yX4_endIn, Cond.code yX4_endIn cX4_endIn 4 (some .int), Cond.methodLink RL 26 yX7_commit, Cond.instanceMethod yX7_commit]
def wsL_law_r10 : List Cond := [Cond.selects RX7 yX7_commit yX7_commit, Cond.code yX7_commit cX7_commit 3 (some .int), Cond.constant RX7 58 (-1000004), Cond.methodLink RL 27 yX6_abort, Cond.instanceMethod yX6_abort, Cond.selects RX6 yX6_abort yX6_abort, Cond.code yX6_abort cX6_abort 2 (some .int), Cond.methodLink RL 30 yX7_abort, Cond.instanceMethod yX7_abort, Cond.selects RX7 yX7_abort yX7_abort, Cond.code yX7_abort cX7_abort 3 (some .int), Cond.methodLink RL 31 yX6_ship, Cond.instanceMethod yX6_ship, Cond.selects RX6 yX6_ship yX6_ship, Cond.code yX6_ship cX6_ship 3 (some .int), Cond.methodLink RX6 63 yX4_shipTo, Cond.instanceMethod yX4_shipTo, Cond.selects RX4 yX4_shipTo yX4_shipTo, Cond.code yX4_shipTo cX4_shipTo 5 (some .int), Cond.fieldLink RX4 84 "FencedStandbys$Standby" "astray" "Z", Cond.fieldLink RX4 57 "FencedStandbys$Log" "size" "I", Cond.fieldLink RX4 88 "FencedStandbys$Standby" "received" "I", Cond.methodLink RX4 91 Lib.Math.min.name, Cond.static yX6_isStandby]
def wsL_law_r11 : List Cond := [Cond.code yX6_isStandby cX6_isStandby 1 (some .boolean), Cond.methodLink RX4 80 yX4_standby, Cond.instanceMethod yX4_standby, Cond.selects RX4 yX4_standby yX4_standby, Cond.code yX4_standby cX4_standby 2 (some (.object "FencedStandbys$Standby")), Cond.methodLink RL 35 yX7_ship, Cond.instanceMethod yX7_ship, Cond.selects RX7 yX7_ship yX7_ship, Cond.code yX7_ship cX7_ship 5 (some .int), Cond.methodLink RX7 69 yX7_isStandby, Cond.static yX7_isStandby, Cond.code yX7_isStandby cX7_isStandby 1 (some .boolean), Cond.methodLink RX7 72 yX7_ofStandby, Cond.instanceMethod yX7_ofStandby, Cond.selects RX7 yX7_ofStandby yX7_ofStandby, Cond.code yX7_ofStandby cX7_ofStandby 3 (some .int), Cond.methodLink RL 36 yX6_lose, Cond.instanceMethod yX6_lose, Cond.selects RX6 yX6_lose yX6_lose, Cond.code yX6_lose cX6_lose 3 (some .int), Cond.methodLink RX6 66 yX4_loseFor, Cond.instanceMethod yX4_loseFor, Cond.selects RX4 yX4_loseFor yX4_loseFor, Cond.code yX4_loseFor cX4_loseFor 4 (some .int)]
def wsL_law_r12 : List Cond := [Cond.fieldLink RX4 97 "FencedStandbys$Standby" "applied" "I", Cond.methodLink RX4 100 yX3_isGap, Cond.instanceMethod yX3_isGap, Cond.selects RX3 yX3_isGap yX3_isGap, Cond.code yX3_isGap cX3_isGap 2 (some .boolean), Cond.methodLink RX4 103 yX3_setGap, Cond.instanceMethod yX3_setGap, Cond.selects RX3 yX3_setGap yX3_setGap, Cond.code yX3_setGap cX3_setGap 2 none, Cond.methodLink RX4 107 yX3_gapCount, Cond.instanceMethod yX3_gapCount, Cond.selects RX3 yX3_gapCount yX3_gapCount, Cond.code yX3_gapCount cX3_gapCount 3 (some .int), Cond.methodLink RL 39 yX7_lose, Cond.instanceMethod yX7_lose, Cond.selects RX7 yX7_lose yX7_lose, Cond.code yX7_lose cX7_lose 3 (some .int), Cond.methodLink RX7 75 yX7_isGap, Cond.instanceMethod yX7_isGap, Cond.selects RX7 yX7_isGap yX7_isGap, Cond.code yX7_isGap cX7_isGap 3 (some .boolean), Cond.methodLink RX7 79 yX7_gaps, Cond.instanceMethod yX7_gaps, Cond.selects RX7 yX7_gaps yX7_gaps]
def wsL_law_r13 : List Cond := [Cond.code yX7_gaps cX7_gaps 4 (some .int), Cond.methodLink RL 40 yX6_resend, Cond.instanceMethod yX6_resend, Cond.selects RX6 yX6_resend yX6_resend, Cond.code yX6_resend cX6_resend 2 (some .int), Cond.methodLink RX6 69 yX4_resendTo, Cond.instanceMethod yX4_resendTo, Cond.selects RX4 yX4_resendTo yX4_resendTo, Cond.code yX4_resendTo cX4_resendTo 4 (some .int), Cond.methodLink RX4 111 yX3_dropGapsBehind, Cond.instanceMethod yX3_dropGapsBehind, Cond.selects RX3 yX3_dropGapsBehind yX3_dropGapsBehind, Cond.code yX3_dropGapsBehind cX3_dropGapsBehind 3 none, Cond.methodLink RX3 30 Lib.Math.max.name, Cond.methodLink RL 43 yX7_resend, Cond.instanceMethod yX7_resend, Cond.selects RX7 yX7_resend yX7_resend, Cond.code yX7_resend cX7_resend 3 (some .int), Cond.methodLink RX7 82 yX7_fillsGaps, Cond.instanceMethod yX7_fillsGaps, Cond.selects RX7 yX7_fillsGaps yX7_fillsGaps, Cond.code yX7_fillsGaps cX7_fillsGaps 4 none, Cond.methodLink RL 44 yX6_tick, Cond.instanceMethod yX6_tick]
def wsL_law_r14 : List Cond := [Cond.selects RX6 yX6_tick yX6_tick, Cond.code yX6_tick cX6_tick 2 (some .int), Cond.methodLink RX6 72 yX4_pass, Cond.instanceMethod yX4_pass, Cond.selects RX4 yX4_pass yX4_pass, Cond.code yX4_pass cX4_pass 7 (some .int), Cond.static yX6_isTicks, Cond.code yX6_isTicks cX6_isTicks 1 (some .boolean), Cond.methodLink RX4 117 yX4_appliedAfter, Cond.instanceMethod yX4_appliedAfter, Cond.selects RX4 yX4_appliedAfter yX4_appliedAfter, Cond.code yX4_appliedAfter cX4_appliedAfter 8 (some .int), Cond.methodLink RX4 121 yX1_tickOf, Cond.instanceMethod yX1_tickOf, Cond.selects RX1 yX1_tickOf yX1_tickOf, Cond.code yX1_tickOf cX1_tickOf 2 (some .int), Cond.constant RX1 35 (-1000004), Cond.methodLink RX1 31 yX1_has, Cond.instanceMethod yX1_has, Cond.selects RX1 yX1_has yX1_has, Cond.code yX1_has cX1_has 2 (some .boolean), Cond.methodLink RL 47 yX7_tick, Cond.instanceMethod yX7_tick, Cond.selects RX7 yX7_tick yX7_tick]
def wsL_law_r15 : List Cond := [Cond.code yX7_tick cX7_tick 6 (some .int), Cond.methodLink RX7 86 yX7_goes, Cond.instanceMethod yX7_goes, Cond.selects RX7 yX7_goes yX7_goes, Cond.code yX7_goes cX7_goes 8 (some .int), Cond.methodLink RX7 59 yX7_ofRecord, Cond.instanceMethod yX7_ofRecord, Cond.selects RX7 yX7_ofRecord yX7_ofRecord, Cond.code yX7_ofRecord cX7_ofRecord 3 (some .int), Cond.methodLink RL 48 yX6_promote, Cond.instanceMethod yX6_promote, Cond.selects RX6 yX6_promote yX6_promote, Cond.code yX6_promote cX6_promote 2 (some .int), Cond.methodLink RX6 75 yX4_promoteTo, Cond.instanceMethod yX4_promoteTo, Cond.selects RX4 yX4_promoteTo yX4_promoteTo, Cond.code yX4_promoteTo cX4_promoteTo 6 (some .int), Cond.methodLink RX4 133 yX1_commitsBehind, Cond.instanceMethod yX1_commitsBehind, Cond.selects RX1 yX1_commitsBehind yX1_commitsBehind, Cond.code yX1_commitsBehind cX1_commitsBehind 4 (some .int), Cond.methodLink RX1 37 yX1_kindOf, Cond.instanceMethod yX1_kindOf, Cond.selects RX1 yX1_kindOf yX1_kindOf]
def wsL_law_r16 : List Cond := [Cond.code yX1_kindOf cX1_kindOf 2 (some .int), Cond.methodLink RX4 136 yX3_standAt, Cond.instanceMethod yX3_standAt, Cond.selects RX3 yX3_standAt yX3_standAt, Cond.code yX3_standAt cX3_standAt 3 none, Cond.methodLink RX3 36 yX3_dropGapsBehind, Cond.methodLink RX4 140 yX3_cutTo, Cond.instanceMethod yX3_cutTo, Cond.selects RX3 yX3_cutTo yX3_cutTo, Cond.code yX3_cutTo cX3_cutTo 2 none, Cond.methodLink RX3 40 Lib.Math.min.name, Cond.methodLink RL 51 yX7_promote, Cond.instanceMethod yX7_promote, Cond.selects RX7 yX7_promote yX7_promote, Cond.code yX7_promote cX7_promote 6 (some .int), Cond.methodLink RX7 92 yX7_wouldBeLost, Cond.instanceMethod yX7_wouldBeLost, Cond.selects RX7 yX7_wouldBeLost yX7_wouldBeLost, Cond.code yX7_wouldBeLost cX7_wouldBeLost 2 (some .int), Cond.methodLink RX7 89 yX7_commits, Cond.instanceMethod yX7_commits, Cond.selects RX7 yX7_commits yX7_commits, Cond.code yX7_commits cX7_commits 5 (some .int), Cond.methodLink RX7 95 yX7_lays]
def wsL_law_r17 : List Cond := [Cond.instanceMethod yX7_lays, Cond.selects RX7 yX7_lays yX7_lays, Cond.code yX7_lays cX7_lays 4 none, Cond.methodLink RL 52 yX6_rebuild, Cond.instanceMethod yX6_rebuild, Cond.selects RX6 yX6_rebuild yX6_rebuild, Cond.code yX6_rebuild cX6_rebuild 2 (some .int), Cond.methodLink RX6 78 yX4_rebuildOf, Cond.instanceMethod yX4_rebuildOf, Cond.selects RX4 yX4_rebuildOf yX4_rebuildOf, Cond.code yX4_rebuildOf cX4_rebuildOf 2 (some .int), Cond.methodLink RL 55 yX7_rebuild, Cond.instanceMethod yX7_rebuild, Cond.selects RX7 yX7_rebuild yX7_rebuild, Cond.code yX7_rebuild cX7_rebuild 2 (some .int), Cond.methodLink RL 56 yX6_set, Cond.instanceMethod yX6_set, Cond.selects RX6 yX6_set yX6_set, Cond.code yX6_set cX6_set 3 (some .int), Cond.methodLink RX6 81 yX4_setTo, Cond.instanceMethod yX4_setTo, Cond.selects RX4 yX4_setTo yX4_setTo, Cond.code yX4_setTo cX4_setTo 4 (some .int), Cond.methodLink RL 59 yX7_set]
def wsL_law_r18 : List Cond := [Cond.instanceMethod yX7_set, Cond.selects RX7 yX7_set yX7_set, Cond.code yX7_set cX7_set 4 (some .int), Cond.methodLink RL 60 yX6_read, Cond.instanceMethod yX6_read, Cond.selects RX6 yX6_read yX6_read, Cond.code yX6_read cX6_read 5 (some .int), Cond.constant RX6 94 (-1000001), Cond.constant RX6 104 (-1000002), Cond.fieldLink RX6 105 "FencedStandbys$Store" "log" "LFencedStandbys$Log;", Cond.fieldLink RX6 109 "FencedStandbys$Standby" "applied" "I", Cond.methodLink RX6 84 yX6_isStandby, Cond.methodLink RX6 88 yX6_isKey, Cond.methodLink RX6 91 yX4_isPosition, Cond.instanceMethod yX4_isPosition, Cond.selects RX4 yX4_isPosition yX4_isPosition, Cond.code yX4_isPosition cX4_isPosition 2 (some .boolean), Cond.methodLink RX6 95 yX4_standby, Cond.methodLink RX6 99 yX3_canServe, Cond.instanceMethod yX3_canServe, Cond.selects RX3 yX3_canServe yX3_canServe, Cond.code yX3_canServe cX3_canServe 2 (some .boolean), Cond.methodLink RX6 113 yX1_valueAt, Cond.instanceMethod yX1_valueAt]
def wsL_law_r19 : List Cond := [Cond.selects RX1 yX1_valueAt yX1_valueAt, Cond.code yX1_valueAt cX1_valueAt 4 (some .int), Cond.methodLink RX1 55 yX1_lastCommit, Cond.instanceMethod yX1_lastCommit, Cond.selects RX1 yX1_lastCommit yX1_lastCommit, Cond.code yX1_lastCommit cX1_lastCommit 4 (some .int), Cond.methodLink RX1 45 yX1_transactionOf, Cond.instanceMethod yX1_transactionOf, Cond.selects RX1 yX1_transactionOf yX1_transactionOf, Cond.code yX1_transactionOf cX1_transactionOf 2 (some .int), Cond.methodLink RX1 51 yX1_lastPut, Cond.instanceMethod yX1_lastPut, Cond.selects RX1 yX1_lastPut yX1_lastPut, Cond.code yX1_lastPut cX1_lastPut 5 (some .int), Cond.methodLink RX1 41 yX1_isPutOf, Cond.instanceMethod yX1_isPutOf, Cond.selects RX1 yX1_isPutOf yX1_isPutOf, Cond.code yX1_isPutOf cX1_isPutOf 3 (some .boolean), Cond.methodLink RX1 48 yX1_keyOf, Cond.instanceMethod yX1_keyOf, Cond.selects RX1 yX1_keyOf yX1_keyOf, Cond.code yX1_keyOf cX1_keyOf 2 (some .int), Cond.methodLink RX1 59 yX1_valueIn, Cond.instanceMethod yX1_valueIn]
def wsL_law_r20 : List Cond := [Cond.selects RX1 yX1_valueIn yX1_valueIn, Cond.code yX1_valueIn cX1_valueIn 2 (some .int), Cond.methodLink RL 63 yX7_read, Cond.instanceMethod yX7_read, Cond.selects RX7 yX7_read yX7_read, Cond.code yX7_read cX7_read 4 (some .int), Cond.methodLink RX7 99 yX7_isFence, Cond.instanceMethod yX7_isFence, Cond.selects RX7 yX7_isFence yX7_isFence, Cond.code yX7_isFence cX7_isFence 2 (some .boolean), Cond.methodLink RX7 102 yX7_canServe, Cond.instanceMethod yX7_canServe, Cond.selects RX7 yX7_canServe yX7_canServe, Cond.code yX7_canServe cX7_canServe 3 (some .boolean), Cond.methodLink RX7 105 yX7_valueAt, Cond.instanceMethod yX7_valueAt, Cond.selects RX7 yX7_valueAt yX7_valueAt, Cond.code yX7_valueAt cX7_valueAt 4 (some .int), Cond.methodLink RX7 66 yX7_lastCommit, Cond.instanceMethod yX7_lastCommit, Cond.selects RX7 yX7_lastCommit yX7_lastCommit, Cond.code yX7_lastCommit cX7_lastCommit 4 (some .int), Cond.methodLink RX7 63 yX7_lastPut, Cond.instanceMethod yX7_lastPut]
def wsL_law_r21 : List Cond := [Cond.selects RX7 yX7_lastPut yX7_lastPut, Cond.code yX7_lastPut cX7_lastPut 5 (some .int), Cond.methodLink RL 64 yX6_primary, Cond.instanceMethod yX6_primary, Cond.selects RX6 yX6_primary yX6_primary, Cond.code yX6_primary cX6_primary 6 (some .int), Cond.fieldLink RX6 121 "FencedStandbys$Log" "size" "I", Cond.methodLink RX6 118 yX6_isSlot, Cond.methodLink RX6 124 yX4_transactionIn, Cond.instanceMethod yX4_transactionIn, Cond.selects RX4 yX4_transactionIn yX4_transactionIn, Cond.code yX4_transactionIn cX4_transactionIn 2 (some .int), Cond.methodLink RX6 127 yX1_lastPut, Cond.methodLink RX6 130 yX1_valueIn, Cond.methodLink RL 67 yX7_primary, Cond.instanceMethod yX7_primary, Cond.selects RX7 yX7_primary yX7_primary, Cond.code yX7_primary cX7_primary 4 (some .int), Cond.methodLink RL 68 yX6_serves, Cond.instanceMethod yX6_serves, Cond.selects RX6 yX6_serves yX6_serves, Cond.code yX6_serves cX6_serves 4 (some .int), Cond.fieldLink RX6 133 "FencedStandbys$Store" "first" "LFencedStandbys$Standby;", Cond.fieldLink RX6 137 "FencedStandbys$Store" "second" "LFencedStandbys$Standby;"]
def wsL_law_r22 : List Cond := [Cond.constant RX6 140 (-1000004), Cond.methodLink RL 71 yX7_serves, Cond.instanceMethod yX7_serves, Cond.selects RX7 yX7_serves yX7_serves, Cond.code yX7_serves cX7_serves 4 (some .int), Cond.methodLink RL 72 yX6_fence, Cond.instanceMethod yX6_fence, Cond.selects RX6 yX6_fence yX6_fence, Cond.code yX6_fence cX6_fence 2 (some .int), Cond.methodLink RX6 141 yX1_lastCommit, Cond.methodLink RX6 144 yX6_found, Cond.static yX6_found, Cond.code yX6_found cX6_found 1 (some .int), Cond.methodLink RL 75 yX7_fence, Cond.instanceMethod yX7_fence, Cond.selects RX7 yX7_fence yX7_fence, Cond.code yX7_fence cX7_fence 3 (some .int), Cond.methodLink RL 76 yX6_recordOf, Cond.instanceMethod yX6_recordOf, Cond.selects RX6 yX6_recordOf yX6_recordOf, Cond.code yX6_recordOf cX6_recordOf 5 (some .int), Cond.methodLink RX6 147 yX1_has, Cond.methodLink RX6 150 yX1_kindOf, Cond.methodLink RX6 153 yX1_transactionOf]
def wsL_law_r23 : List Cond := [Cond.methodLink RX6 156 yX1_keyOf, Cond.methodLink RX6 159 yX1_tickOf, Cond.methodLink RL 79 yX7_recordOf, Cond.instanceMethod yX7_recordOf, Cond.selects RX7 yX7_recordOf yX7_recordOf, Cond.code yX7_recordOf cX7_recordOf 3 (some .int), Cond.methodLink RL 80 yX6_standbyOf, Cond.instanceMethod yX6_standbyOf, Cond.selects RX6 yX6_standbyOf yX6_standbyOf, Cond.code yX6_standbyOf cX6_standbyOf 5 (some .int), Cond.fieldLink RX6 162 "FencedStandbys$Standby" "received" "I", Cond.fieldLink RX6 172 "FencedStandbys$Standby" "astray" "Z", Cond.fieldLink RX6 179 "FencedStandbys$Store" "tick" "I", Cond.methodLink RX6 165 yX3_gapCount, Cond.methodLink RX6 169 yX3_lowestGap, Cond.instanceMethod yX3_lowestGap, Cond.selects RX3 yX3_lowestGap yX3_lowestGap, Cond.code yX3_lowestGap cX3_lowestGap 2 (some .int), Cond.methodLink RX6 176 yX1_commitsBehind, Cond.methodLink RX6 182 yX6_keysNotAsAtEnd, Cond.instanceMethod yX6_keysNotAsAtEnd, Cond.selects RX6 yX6_keysNotAsAtEnd yX6_keysNotAsAtEnd, Cond.code yX6_keysNotAsAtEnd cX6_keysNotAsAtEnd 4 (some .int), Cond.methodLink RX6 255 yX1_fillValues]
def wsL_law_r24 : List Cond := [Cond.instanceMethod yX1_fillValues, Cond.selects RX1 yX1_fillValues yX1_fillValues, Cond.code yX1_fillValues cX1_fillValues 4 none, Cond.methodLink RX1 62 yX1_applyPuts, Cond.instanceMethod yX1_applyPuts, Cond.selects RX1 yX1_applyPuts yX1_applyPuts, Cond.code yX1_applyPuts cX1_applyPuts 5 none, Cond.methodLink RX1 66 yX1_setValue, Cond.static yX1_setValue, Cond.code yX1_setValue cX1_setValue 3 none, Cond.methodLink RL 83 yX7_standbyOf, Cond.instanceMethod yX7_standbyOf, Cond.selects RX7 yX7_standbyOf yX7_standbyOf, Cond.code yX7_standbyOf cX7_standbyOf 4 (some .int), Cond.methodLink RX7 108 yX7_lowestGap, Cond.instanceMethod yX7_lowestGap, Cond.selects RX7 yX7_lowestGap yX7_lowestGap, Cond.code yX7_lowestGap cX7_lowestGap 3 (some .int), Cond.methodLink RX7 111 yX7_unlike, Cond.instanceMethod yX7_unlike, Cond.selects RX7 yX7_unlike yX7_unlike, Cond.code yX7_unlike cX7_unlike 4 (some .int), Cond.methodLink RL 84 yX6_slotOf, Cond.instanceMethod yX6_slotOf]
def wsL_law_r25 : List Cond := [Cond.selects RX6 yX6_slotOf yX6_slotOf, Cond.code yX6_slotOf cX6_slotOf 4 (some .int), Cond.methodLink RX6 185 yX1_putsOf, Cond.instanceMethod yX1_putsOf, Cond.selects RX1 yX1_putsOf yX1_putsOf, Cond.code yX1_putsOf cX1_putsOf 4 (some .int), Cond.methodLink RL 87 yX7_slotOf, Cond.instanceMethod yX7_slotOf, Cond.selects RX7 yX7_slotOf yX7_slotOf, Cond.code yX7_slotOf cX7_slotOf 6 (some .int), Cond.methodLink RL 88 yX6_waits, Cond.instanceMethod yX6_waits, Cond.selects RX6 yX6_waits yX6_waits, Cond.code yX6_waits cX6_waits 4 (some .int), Cond.methodLink RX6 188 yX4_ticksUntil, Cond.instanceMethod yX4_ticksUntil, Cond.selects RX4 yX4_ticksUntil yX4_ticksUntil, Cond.code yX4_ticksUntil cX4_ticksUntil 5 (some .int), Cond.constant RX4 125 (-1000004), Cond.methodLink RL 91 yX7_waits, Cond.instanceMethod yX7_waits, Cond.selects RX7 yX7_waits yX7_waits, Cond.code yX7_waits cX7_waits 3 (some .int), Cond.methodLink RX7 114 yX7_until]
def wsL_law_r26 : List Cond := [Cond.instanceMethod yX7_until, Cond.selects RX7 yX7_until yX7_until, Cond.code yX7_until cX7_until 7 (some .int), Cond.methodLink RL 92 yX6_wouldLose, Cond.instanceMethod yX6_wouldLose, Cond.selects RX6 yX6_wouldLose yX6_wouldLose, Cond.code yX6_wouldLose cX6_wouldLose 3 (some .int), Cond.methodLink RL 95 yX7_wouldLose, Cond.instanceMethod yX7_wouldLose, Cond.selects RX7 yX7_wouldLose yX7_wouldLose, Cond.code yX7_wouldLose cX7_wouldLose 2 (some .int), Cond.methodLink RL 96 yX6_rateFor, Cond.instanceMethod yX6_rateFor, Cond.selects RX6 yX6_rateFor yX6_rateFor, Cond.code yX6_rateFor cX6_rateFor 4 (some .int), Cond.methodLink RX6 192 yX6_isTicks, Cond.methodLink RX6 195 yX4_leastRate, Cond.instanceMethod yX4_leastRate, Cond.selects RX4 yX4_leastRate yX4_leastRate, Cond.code yX4_leastRate cX4_leastRate 5 (some .int), Cond.methodLink RX4 126 yX3_reachable, Cond.instanceMethod yX3_reachable, Cond.selects RX3 yX3_reachable yX3_reachable, Cond.code yX3_reachable cX3_reachable 2 (some .int)]
def wsL_law_r27 : List Cond := [Cond.methodLink RX3 26 yX3_lowestGap, Cond.methodLink RX4 129 yX4_comesTo, Cond.instanceMethod yX4_comesTo, Cond.selects RX4 yX4_comesTo yX4_comesTo, Cond.code yX4_comesTo cX4_comesTo 7 (some .boolean), Cond.methodLink RL 99 yX7_rateFor, Cond.instanceMethod yX7_rateFor, Cond.selects RX7 yX7_rateFor yX7_rateFor, Cond.code yX7_rateFor cX7_rateFor 6 (some .int), Cond.methodLink RL 100 yX6_count, Cond.instanceMethod yX6_count, Cond.selects RX6 yX6_count yX6_count, Cond.code yX6_count cX6_count 2 (some .int), Cond.fieldLink RX6 198 "FencedStandbys$Store" "timeline" "I", Cond.fieldLink RX6 201 "FencedStandbys$Store" "transactions" "I", Cond.fieldLink RX6 204 "FencedStandbys$Store" "commitsLost" "I", Cond.fieldLink RX6 207 "FencedStandbys$Store" "recordsLost" "I", Cond.fieldLink RX6 210 "FencedStandbys$Store" "recordsApplied" "I", Cond.fieldLink RX6 213 "FencedStandbys$History" "size" "I", Cond.fieldLink RX6 214 "FencedStandbys$OrderText" "length" "I", Cond.fieldLink RX6 217 "FencedStandbys$Store" "rate" "I", Cond.fieldLink RX6 220 "FencedStandbys$Store" "delay" "I", Cond.methodLink RL 103 yX7_count, Cond.instanceMethod yX7_count]
def wsL_law_r28 : List Cond := [Cond.selects RX7 yX7_count yX7_count, Cond.code yX7_count cX7_count 2 (some .int), Cond.fieldLink RX7 117 "FencedStandbysModel" "typed" "I", Cond.methodLink RL 104 yX6_undo, Cond.instanceMethod yX6_undo, Cond.selects RX6 yX6_undo yX6_undo, Cond.code yX6_undo cX6_undo 1 (some .int), Cond.methodLink RX6 223 yX0_restore, Cond.instanceMethod yX0_restore, Cond.selects RX0 yX0_restore yX0_restore, Cond.code yX0_restore cX0_restore 2 (some .boolean), Cond.methodLink RL 108 yX7_undo, Cond.instanceMethod yX7_undo, Cond.selects RX7 yX7_undo yX7_undo, Cond.code yX7_undo cX7_undo 2 (some .int), Cond.methodLink RL 109 yX6_type, Cond.instanceMethod yX6_type, Cond.selects RX6 yX6_type yX6_type, Cond.code yX6_type cX6_type 2 (some .int), Cond.constant RX6 231 (-1000003), Cond.methodLink RX6 227 yX2_append, Cond.instanceMethod yX2_append, Cond.selects RX2 yX2_append yX2_append, Cond.code yX2_append cX2_append 2 (some .boolean)]
def wsL_law_r29 : List Cond := [Cond.methodLink RL 112 yX7_type, Cond.instanceMethod yX7_type, Cond.selects RX7 yX7_type yX7_type, Cond.code yX7_type cX7_type 2 (some .int), Cond.methodLink RL 113 yX6_clearText, Cond.instanceMethod yX6_clearText, Cond.selects RX6 yX6_clearText yX6_clearText, Cond.code yX6_clearText cX6_clearText 2 (some .int), Cond.methodLink RL 116 yX7_clearText, Cond.instanceMethod yX7_clearText, Cond.selects RX7 yX7_clearText yX7_clearText, Cond.code yX7_clearText cX7_clearText 2 (some .int), Cond.methodLink RL 117 yX6_fault, Cond.instanceMethod yX6_fault, Cond.selects RX6 yX6_fault yX6_fault, Cond.code yX6_fault cX6_fault 2 (some .int), Cond.fieldLink RX6 236 "FencedStandbys$Trial" "reason" "I", Cond.fieldLink RX6 239 "FencedStandbys$Trial" "position" "I", Cond.fieldLink RX6 242 "FencedStandbys$Trial" "cause" "I", Cond.methodLink RX6 232 yX5_run, Cond.instanceMethod yX5_run, Cond.selects RX5 yX5_run yX5_run, Cond.code yX5_run cX5_run 4 none, Cond.fieldLink RX5 35 "FencedStandbys$OrderText" "length" "I"]
def wsL_law_r30 : List Cond := [Cond.fieldLink RX5 44 "FencedStandbys$OrderText" "at" "I", Cond.methodLink RX5 31 yX4_copyFrom, Cond.methodLink RX5 40 yX2_readOrder, Cond.instanceMethod yX2_readOrder, Cond.selects RX2 yX2_readOrder yX2_readOrder, Cond.code yX2_readOrder cX2_readOrder 4 (some .boolean), Cond.methodLink RX2 32 yX2_characterAt, Cond.instanceMethod yX2_characterAt, Cond.selects RX2 yX2_characterAt yX2_characterAt, Cond.code yX2_characterAt cX2_characterAt 2 (some .char), Cond.methodLink RX2 36 yX2_formBehind, Cond.static yX2_formBehind, Cond.code yX2_formBehind cX2_formBehind 1 (some (.object "java/lang/String")), Cond.methodLink RX2 40 yJ0_isEmpty_aae02, Cond.instanceMethod yJ0_isEmpty_aae02, Cond.selects RJ0 yJ0_isEmpty_aae02 yJ0_isEmpty_aae02, Cond.initialized RJ0, Cond.code yJ0_isEmpty_aae02 cJ0_isEmpty_aae02 1 (some .boolean), Cond.fieldLink RJ0 9 "java/lang/String" "value" "[B", Cond.methodLink RX2 46 yJ0_length_8abf5, Cond.instanceMethod yJ0_length_8abf5, Cond.selects RJ0 yJ0_length_8abf5 yJ0_length_8abf5, Cond.code yJ0_length_8abf5 cJ0_length_8abf5 1 (some .int), Cond.methodLink RJ0 335 yJ0_coder_7d493]
def wsL_law_r31 : List Cond := [Cond.instanceMethod yJ0_coder_7d493, Cond.selects RJ0 yJ0_coder_7d493 yJ0_coder_7d493, Cond.code yJ0_coder_7d493 cJ0_coder_7d493 1 (some .byte), Cond.fieldLink RJ0 38 "java/lang/String" "COMPACT_STRINGS" "Z", Cond.fieldLink RJ0 15 "java/lang/String" "coder" "B", Cond.methodLink RX2 49 yJ0_charAt_5068e, Cond.instanceMethod yJ0_charAt_5068e, Cond.selects RJ0 yJ0_charAt_5068e yJ0_charAt_5068e, Cond.code yJ0_charAt_5068e cJ0_charAt_5068e 2 (some .char), Cond.methodLink RJ0 492 yJ0_isLatin1_aae02, Cond.instanceMethod yJ0_isLatin1_aae02, Cond.selects RJ0 yJ0_isLatin1_aae02 yJ0_isLatin1_aae02, Cond.code yJ0_isLatin1_aae02 cJ0_isLatin1_aae02 1 (some .boolean), Cond.methodLink RJ0 495 yJ1_charAt_3b067, Cond.static yJ1_charAt_3b067, Cond.initialized RJ1, Cond.code yJ1_charAt_3b067 cJ1_charAt_3b067 2 (some .char), Cond.methodLink RJ1 9 yJ0_checkIndex_df160, Cond.static yJ0_checkIndex_df160, Cond.code yJ0_checkIndex_df160 cJ0_checkIndex_df160 2 none, Cond.fieldLink RJ0 1053 "jdk/internal/util/Preconditions" "SIOOBE_FORMATTER" "Ljava/util/function/BiFunction;", Cond.methodLink RJ0 1059 yJ3_checkIndex_8e157, Cond.static yJ3_checkIndex_8e157, Cond.initialized RJ3]
def wsL_law_r32 : List Cond := [Cond.code yJ3_checkIndex_8e157 cJ3_checkIndex_8e157 3 (some .int), Cond.methodLink RJ0 498 yJ2_charAt_3b067, Cond.static yJ2_charAt_3b067, Cond.initialized RJ2, Cond.code yJ2_charAt_3b067 cJ2_charAt_3b067 2 (some .char), Cond.methodLink RJ2 67 yJ2_checkIndex_2214a, Cond.static yJ2_checkIndex_2214a, Cond.code yJ2_checkIndex_2214a cJ2_checkIndex_2214a 2 none, Cond.methodLink RJ2 48 yJ2_length_9d52b, Cond.static yJ2_length_9d52b, Cond.code yJ2_length_9d52b cJ2_length_9d52b 1 (some .int), Cond.methodLink RJ2 414 yJ0_checkIndex_df160, Cond.methodLink RJ2 71 yJ2_getChar_3b067, Cond.static yJ2_getChar_3b067, Cond.code yJ2_getChar_3b067 cJ2_getChar_3b067 2 (some .char), Cond.fieldLink RJ2 44 "java/lang/StringUTF16" "$assertionsDisabled" "Z", Cond.fieldLink RJ2 59 "java/lang/StringUTF16" "HI_BYTE_SHIFT" "I", Cond.fieldLink RJ2 63 "java/lang/StringUTF16" "LO_BYTE_SHIFT" "I", Cond.methodLink RX2 52 yX2_readPart, Cond.instanceMethod yX2_readPart, Cond.selects RX2 yX2_readPart yX2_readPart, Cond.code yX2_readPart cX2_readPart 2 (some .boolean), Cond.methodLink RX2 64 yX2_readNumber, Cond.instanceMethod yX2_readNumber]
def wsL_law_r33 : List Cond := [Cond.selects RX2 yX2_readNumber yX2_readNumber, Cond.code yX2_readNumber cX2_readNumber 3 (some .boolean), Cond.methodLink RX2 67 yX2_isDigit, Cond.static yX2_isDigit, Cond.code yX2_isDigit cX2_isDigit 1 (some .boolean), Cond.methodLink RX5 47 yX5_doOrder, Cond.instanceMethod yX5_doOrder, Cond.selects RX5 yX5_doOrder yX5_doOrder, Cond.code yX5_doOrder cX5_doOrder 3 (some .int), Cond.fieldLink RX5 55 "FencedStandbys$OrderText" "kind" "I", Cond.methodLink RX5 51 yX2_number, Cond.instanceMethod yX2_number, Cond.selects RX2 yX2_number yX2_number, Cond.code yX2_number cX2_number 2 (some .int), Cond.methodLink RX5 58 yX4_openIn, Cond.methodLink RX5 61 yX4_putBy, Cond.methodLink RX5 65 yX4_endIn, Cond.methodLink RX5 69 yX4_shipTo, Cond.methodLink RX5 72 yX4_pass, Cond.methodLink RL 120 yX7_fault, Cond.instanceMethod yX7_fault, Cond.selects RX7 yX7_fault yX7_fault, Cond.code yX7_fault cX7_fault 3 (some .int), Cond.fieldLink RX7 154 "FencedStandbysModel" "from" "I"]
def wsL_law_r34 : List Cond := [Cond.fieldLink RX7 168 "FencedStandbysModel" "reason" "I", Cond.fieldLink RX7 171 "FencedStandbysModel" "cause" "I", Cond.methodLink RX7 174 yX7_copies, Cond.static yX7_copies, Cond.code yX7_copies cX7_copies 3 none, Cond.methodLink RX7 178 yX7_plays, Cond.instanceMethod yX7_plays, Cond.selects RX7 yX7_plays yX7_plays, Cond.code yX7_plays cX7_plays 4 (some .boolean), Cond.fieldLink RX7 120 "FencedStandbysModel" "spot" "I", Cond.fieldLink RX7 157 "FencedStandbysModel" "orders" "I", Cond.methodLink RX7 160 yX7_reads, Cond.instanceMethod yX7_reads, Cond.selects RX7 yX7_reads yX7_reads, Cond.code yX7_reads cX7_reads 3 (some .boolean), Cond.fieldLink RX7 126 "FencedStandbysModel" "order" "I", Cond.methodLink RX7 123 yX7_isAt, Cond.instanceMethod yX7_isAt, Cond.selects RX7 yX7_isAt yX7_isAt, Cond.code yX7_isAt cX7_isAt 3 (some .boolean), Cond.methodLink RX7 129 yX7_number, Cond.instanceMethod yX7_number, Cond.selects RX7 yX7_number yX7_number, Cond.code yX7_number cX7_number 3 (some .boolean)]
def wsL_law_r35 : List Cond := [Cond.methodLink RX7 132 yX7_sign, Cond.instanceMethod yX7_sign, Cond.selects RX7 yX7_sign yX7_sign, Cond.code yX7_sign cX7_sign 3 (some .boolean), Cond.methodLink RX7 164 yX7_calls, Cond.instanceMethod yX7_calls, Cond.selects RX7 yX7_calls yX7_calls, Cond.code yX7_calls cX7_calls 1 (some .int), Cond.methodLink RX7 135 yX7_open, Cond.methodLink RX7 138 yX7_commit, Cond.methodLink RX7 141 yX7_abort, Cond.methodLink RX7 144 yX7_put, Cond.methodLink RX7 148 yX7_ship, Cond.methodLink RX7 151 yX7_tick, Cond.methodLink RL 121 yX6_play, Cond.instanceMethod yX6_play, Cond.selects RX6 yX6_play yX6_play, Cond.code yX6_play cX6_play 1 (some .int), Cond.fieldLink RX6 245 "FencedStandbys$Trial" "store" "LFencedStandbys$Store;", Cond.fieldLink RX6 249 "FencedStandbys$Trial" "orders" "I", Cond.methodLink RX6 246 yX4_copyFrom, Cond.methodLink RL 124 yX7_play, Cond.instanceMethod yX7_play, Cond.selects RX7 yX7_play yX7_play]
def wsL_law_r36 : List Cond := [Cond.code yX7_play cX7_play 2 (some .int)]
def wsL_law : List Cond := (wsL_law_r1 ++ (wsL_law_r2 ++ (wsL_law_r3 ++ (wsL_law_r4 ++ (wsL_law_r5 ++ (wsL_law_r6 ++ (wsL_law_r7 ++ (wsL_law_r8 ++ (wsL_law_r9 ++ (wsL_law_r10 ++ (wsL_law_r11 ++ (wsL_law_r12 ++ (wsL_law_r13 ++ (wsL_law_r14 ++ (wsL_law_r15 ++ (wsL_law_r16 ++ (wsL_law_r17 ++ (wsL_law_r18 ++ (wsL_law_r19 ++ (wsL_law_r20 ++ (wsL_law_r21 ++ (wsL_law_r22 ++ (wsL_law_r23 ++ (wsL_law_r24 ++ (wsL_law_r25 ++ (wsL_law_r26 ++ (wsL_law_r27 ++ (wsL_law_r28 ++ (wsL_law_r29 ++ (wsL_law_r30 ++ (wsL_law_r31 ++ (wsL_law_r32 ++ (wsL_law_r33 ++ (wsL_law_r34 ++ (wsL_law_r35 ++ wsL_law_r36))))))))))))))))))))))))))))))))))) ++ wsX60 ++ wsX70 ++ wsX40 ++ wsX00 ++ wsX20 ++ wsX50 ++ wsX10 ++ wsX30 ++ ([] : List Cond)
end
section
set_option maxRecDepth 20000 in
theorem wsL_in_r1 : ∀ w ∈ wsL_law_r1, w ∈ lw_tbl := fun w h => (goodIn_p wsL_law_r1 [47, 50] (by decide +kernel) (by decide +kernel) w h).1
set_option maxRecDepth 20000 in
theorem wsL_in_r2 : ∀ w ∈ wsL_law_r2, w ∈ lw_tbl := fun w h => (goodIn_p wsL_law_r2 [55] (by decide +kernel) (by decide +kernel) w h).1
set_option maxRecDepth 20000 in
theorem wsL_in_r3 : ∀ w ∈ wsL_law_r3, w ∈ lw_tbl := fun w h => (goodIn_p wsL_law_r3 [61, 89, 163] (by decide +kernel) (by decide +kernel) w h).1
set_option maxRecDepth 20000 in
theorem wsL_in_r4 : ∀ w ∈ wsL_law_r4, w ∈ lw_tbl := fun w h => (goodIn_p wsL_law_r4 [180, 210] (by decide +kernel) (by decide +kernel) w h).1
set_option maxRecDepth 20000 in
theorem wsL_in_r5 : ∀ w ∈ wsL_law_r5, w ∈ lw_tbl := fun w h => (goodIn_p wsL_law_r5 [726, 257, 261, 265] (by decide +kernel) (by decide +kernel) w h).1
set_option maxRecDepth 20000 in
theorem wsL_in_r6 : ∀ w ∈ wsL_law_r6, w ∈ lw_tbl := fun w h => (goodIn_p wsL_law_r6 [269, 272, 275, 282, 288] (by decide +kernel) (by decide +kernel) w h).1
set_option maxRecDepth 20000 in
theorem wsL_in_r7 : ∀ w ∈ wsL_law_r7, w ∈ lw_tbl := fun w h => (goodIn_p wsL_law_r7 [291, 297, 301, 774, 777, 780] (by decide +kernel) (by decide +kernel) w h).1
set_option maxRecDepth 20000 in
theorem wsL_in_r8 : ∀ w ∈ wsL_law_r8, w ∈ lw_tbl := fun w h => (goodIn_p wsL_law_r8 [786, 305, 309, 312, 316, 320] (by decide +kernel) (by decide +kernel) w h).1
set_option maxRecDepth 20000 in
theorem wsL_in_r9 : ∀ w ∈ wsL_law_r9, w ∈ lw_tbl := fun w h => (goodIn_p wsL_law_r9 [790, 793, 797, 802, 325, 329] (by decide +kernel) (by decide +kernel) w h).1
set_option maxRecDepth 20000 in
theorem wsL_in_r10 : ∀ w ∈ wsL_law_r10, w ∈ lw_tbl := fun w h => (goodIn_p wsL_law_r10 [806, 333, 811, 337, 341] (by decide +kernel) (by decide +kernel) w h).1
set_option maxRecDepth 20000 in
theorem wsL_in_r11 : ∀ w ∈ wsL_law_r11, w ∈ lw_tbl := fun w h => (goodIn_p wsL_law_r11 [344, 348, 815, 818, 822, 353, 357] (by decide +kernel) (by decide +kernel) w h).1
set_option maxRecDepth 20000 in
theorem wsL_in_r12 : ∀ w ∈ wsL_law_r12, w ∈ lw_tbl := fun w h => (goodIn_p wsL_law_r12 [361, 365, 369, 826, 830] (by decide +kernel) (by decide +kernel) w h).1
set_option maxRecDepth 20000 in
theorem wsL_in_r13 : ∀ w ∈ wsL_law_r13, w ∈ lw_tbl := fun w h => (goodIn_p wsL_law_r13 [834, 373, 377, 381, 838, 842] (by decide +kernel) (by decide +kernel) w h).1
set_option maxRecDepth 20000 in
theorem wsL_in_r14 : ∀ w ∈ wsL_law_r14, w ∈ lw_tbl := fun w h => (goodIn_p wsL_law_r14 [386, 390, 393, 397, 401, 405] (by decide +kernel) (by decide +kernel) w h).1
set_option maxRecDepth 20000 in
theorem wsL_in_r15 : ∀ w ∈ wsL_law_r15, w ∈ lw_tbl := fun w h => (goodIn_p wsL_law_r15 [846, 850, 854, 410, 414, 418] (by decide +kernel) (by decide +kernel) w h).1
set_option maxRecDepth 20000 in
theorem wsL_in_r16 : ∀ w ∈ wsL_law_r16, w ∈ lw_tbl := fun w h => (goodIn_p wsL_law_r16 [422, 426, 431, 858, 862, 866] (by decide +kernel) (by decide +kernel) w h).1
set_option maxRecDepth 20000 in
theorem wsL_in_r17 : ∀ w ∈ wsL_law_r17, w ∈ lw_tbl := fun w h => (goodIn_p wsL_law_r17 [870, 436, 440, 874, 444, 448] (by decide +kernel) (by decide +kernel) w h).1
set_option maxRecDepth 20000 in
theorem wsL_in_r18 : ∀ w ∈ wsL_law_r18, w ∈ lw_tbl := fun w h => (goodIn_p wsL_law_r18 [878, 452, 458, 464] (by decide +kernel) (by decide +kernel) w h).1
set_option maxRecDepth 20000 in
theorem wsL_in_r19 : ∀ w ∈ wsL_law_r19, w ∈ lw_tbl := fun w h => (goodIn_p wsL_law_r19 [469, 473, 477, 481, 485, 489] (by decide +kernel) (by decide +kernel) w h).1
set_option maxRecDepth 20000 in
theorem wsL_in_r20 : ∀ w ∈ wsL_law_r20, w ∈ lw_tbl := fun w h => (goodIn_p wsL_law_r20 [493, 882, 886, 890, 894, 898] (by decide +kernel) (by decide +kernel) w h).1
set_option maxRecDepth 20000 in
theorem wsL_in_r21 : ∀ w ∈ wsL_law_r21, w ∈ lw_tbl := fun w h => (goodIn_p wsL_law_r21 [902, 497, 502, 906, 508] (by decide +kernel) (by decide +kernel) w h).1
set_option maxRecDepth 20000 in
theorem wsL_in_r22 : ∀ w ∈ wsL_law_r22, w ∈ lw_tbl := fun w h => (goodIn_p wsL_law_r22 [910, 513, 517, 914, 521] (by decide +kernel) (by decide +kernel) w h).1
set_option maxRecDepth 20000 in
theorem wsL_in_r23 : ∀ w ∈ wsL_law_r23, w ∈ lw_tbl := fun w h => (goodIn_p wsL_law_r23 [918, 530, 535, 540] (by decide +kernel) (by decide +kernel) w h).1
set_option maxRecDepth 20000 in
theorem wsL_in_r24 : ∀ w ∈ wsL_law_r24, w ∈ lw_tbl := fun w h => (goodIn_p wsL_law_r24 [544, 548, 551, 922, 926, 930] (by decide +kernel) (by decide +kernel) w h).1
set_option maxRecDepth 20000 in
theorem wsL_in_r25 : ∀ w ∈ wsL_law_r25, w ∈ lw_tbl := fun w h => (goodIn_p wsL_law_r25 [555, 559, 934, 563, 567, 938] (by decide +kernel) (by decide +kernel) w h).1
set_option maxRecDepth 20000 in
theorem wsL_in_r26 : ∀ w ∈ wsL_law_r26, w ∈ lw_tbl := fun w h => (goodIn_p wsL_law_r26 [942, 572, 946, 576, 581, 585] (by decide +kernel) (by decide +kernel) w h).1
set_option maxRecDepth 20000 in
theorem wsL_in_r27 : ∀ w ∈ wsL_law_r27, w ∈ lw_tbl := fun w h => (goodIn_p wsL_law_r27 [590, 950, 594] (by decide +kernel) (by decide +kernel) w h).1
set_option maxRecDepth 20000 in
theorem wsL_in_r28 : ∀ w ∈ wsL_law_r28, w ∈ lw_tbl := fun w h => (goodIn_p wsL_law_r28 [954, 598, 602, 958, 606, 610] (by decide +kernel) (by decide +kernel) w h).1
set_option maxRecDepth 20000 in
theorem wsL_in_r29 : ∀ w ∈ wsL_law_r29, w ∈ lw_tbl := fun w h => (goodIn_p wsL_law_r29 [962, 615, 966, 619, 623] (by decide +kernel) (by decide +kernel) w h).1
set_option maxRecDepth 20000 in
theorem wsL_in_r30 : ∀ w ∈ wsL_law_r30, w ∈ lw_tbl := fun w h => (goodIn_p wsL_law_r30 [628, 632, 635, 643, 647] (by decide +kernel) (by decide +kernel) w h).1
set_option maxRecDepth 20000 in
theorem wsL_in_r31 : ∀ w ∈ wsL_law_r31, w ∈ lw_tbl := fun w h => (goodIn_p wsL_law_r31 [651, 657, 661, 664, 667] (by decide +kernel) (by decide +kernel) w h).1
set_option maxRecDepth 20000 in
theorem wsL_in_r32 : ∀ w ∈ wsL_law_r32, w ∈ lw_tbl := fun w h => (goodIn_p wsL_law_r32 [672, 675, 678, 681, 685, 695] (by decide +kernel) (by decide +kernel) w h).1
set_option maxRecDepth 20000 in
theorem wsL_in_r33 : ∀ w ∈ wsL_law_r33, w ∈ lw_tbl := fun w h => (goodIn_p wsL_law_r33 [699, 702, 706, 710, 970] (by decide +kernel) (by decide +kernel) w h).1
set_option maxRecDepth 20000 in
theorem wsL_in_r34 : ∀ w ∈ wsL_law_r34, w ∈ lw_tbl := fun w h => (goodIn_p wsL_law_r34 [973, 977, 981, 985, 989] (by decide +kernel) (by decide +kernel) w h).1
set_option maxRecDepth 20000 in
theorem wsL_in_r35 : ∀ w ∈ wsL_law_r35, w ∈ lw_tbl := fun w h => (goodIn_p wsL_law_r35 [993, 997, 720] (by decide +kernel) (by decide +kernel) w h).1
set_option maxRecDepth 20000 in
theorem wsL_in_r36 : ∀ w ∈ wsL_law_r36, w ∈ lw_tbl := fun w h => (goodIn_p wsL_law_r36 [1007] (by decide +kernel) (by decide +kernel) w h).1
set_option maxRecDepth 20000 in
theorem wsL_in_x6 : ∀ w ∈ wsX60, w ∈ lw_tbl := fun w h => (goodIn_p wsX60 [] (by decide +kernel) (by decide +kernel) w h).1
set_option maxRecDepth 20000 in
theorem wsL_in_x4 : ∀ w ∈ wsX40, w ∈ lw_tbl := fun w h => (goodIn_p wsX40 [] (by decide +kernel) (by decide +kernel) w h).1
set_option maxRecDepth 20000 in
theorem wsL_in_x7 : ∀ w ∈ wsX70, w ∈ lw_tbl := fun w h => (goodIn_p wsX70 [] (by decide +kernel) (by decide +kernel) w h).1
set_option maxRecDepth 20000 in
theorem wsL_in_x0 : ∀ w ∈ wsX00, w ∈ lw_tbl := fun w h => (goodIn_p wsX00 [] (by decide +kernel) (by decide +kernel) w h).1
set_option maxRecDepth 20000 in
theorem wsL_in_x2 : ∀ w ∈ wsX20, w ∈ lw_tbl := fun w h => (goodIn_p wsX20 [] (by decide +kernel) (by decide +kernel) w h).1
set_option maxRecDepth 20000 in
theorem wsL_in_x5 : ∀ w ∈ wsX50, w ∈ lw_tbl := fun w h => (goodIn_p wsX50 [] (by decide +kernel) (by decide +kernel) w h).1
set_option maxRecDepth 20000 in
theorem wsL_in_x1 : ∀ w ∈ wsX10, w ∈ lw_tbl := fun w h => (goodIn_p wsX10 [] (by decide +kernel) (by decide +kernel) w h).1
set_option maxRecDepth 20000 in
theorem wsL_in_x3 : ∀ w ∈ wsX30, w ∈ lw_tbl := fun w h => (goodIn_p wsX30 [] (by decide +kernel) (by decide +kernel) w h).1
end
section
theorem wsL_in_a35 : ∀ w ∈ (wsL_law_r35 ++ wsL_law_r36), w ∈ lw_tbl := List.forall_mem_append.mpr ⟨wsL_in_r35, wsL_in_r36⟩
theorem wsL_in_a34 : ∀ w ∈ (wsL_law_r34 ++ (wsL_law_r35 ++ wsL_law_r36)), w ∈ lw_tbl := List.forall_mem_append.mpr ⟨wsL_in_r34, wsL_in_a35⟩
theorem wsL_in_a33 : ∀ w ∈ (wsL_law_r33 ++ (wsL_law_r34 ++ (wsL_law_r35 ++ wsL_law_r36))), w ∈ lw_tbl := List.forall_mem_append.mpr ⟨wsL_in_r33, wsL_in_a34⟩
theorem wsL_in_a32 : ∀ w ∈ (wsL_law_r32 ++ (wsL_law_r33 ++ (wsL_law_r34 ++ (wsL_law_r35 ++ wsL_law_r36)))), w ∈ lw_tbl := List.forall_mem_append.mpr ⟨wsL_in_r32, wsL_in_a33⟩
theorem wsL_in_a31 : ∀ w ∈ (wsL_law_r31 ++ (wsL_law_r32 ++ (wsL_law_r33 ++ (wsL_law_r34 ++ (wsL_law_r35 ++ wsL_law_r36))))), w ∈ lw_tbl := List.forall_mem_append.mpr ⟨wsL_in_r31, wsL_in_a32⟩
theorem wsL_in_a30 : ∀ w ∈ (wsL_law_r30 ++ (wsL_law_r31 ++ (wsL_law_r32 ++ (wsL_law_r33 ++ (wsL_law_r34 ++ (wsL_law_r35 ++ wsL_law_r36)))))), w ∈ lw_tbl := List.forall_mem_append.mpr ⟨wsL_in_r30, wsL_in_a31⟩
theorem wsL_in_a29 : ∀ w ∈ (wsL_law_r29 ++ (wsL_law_r30 ++ (wsL_law_r31 ++ (wsL_law_r32 ++ (wsL_law_r33 ++ (wsL_law_r34 ++ (wsL_law_r35 ++ wsL_law_r36))))))), w ∈ lw_tbl := List.forall_mem_append.mpr ⟨wsL_in_r29, wsL_in_a30⟩
theorem wsL_in_a28 : ∀ w ∈ (wsL_law_r28 ++ (wsL_law_r29 ++ (wsL_law_r30 ++ (wsL_law_r31 ++ (wsL_law_r32 ++ (wsL_law_r33 ++ (wsL_law_r34 ++ (wsL_law_r35 ++ wsL_law_r36)))))))), w ∈ lw_tbl := List.forall_mem_append.mpr ⟨wsL_in_r28, wsL_in_a29⟩
theorem wsL_in_a27 : ∀ w ∈ (wsL_law_r27 ++ (wsL_law_r28 ++ (wsL_law_r29 ++ (wsL_law_r30 ++ (wsL_law_r31 ++ (wsL_law_r32 ++ (wsL_law_r33 ++ (wsL_law_r34 ++ (wsL_law_r35 ++ wsL_law_r36))))))))), w ∈ lw_tbl := List.forall_mem_append.mpr ⟨wsL_in_r27, wsL_in_a28⟩
theorem wsL_in_a26 : ∀ w ∈ (wsL_law_r26 ++ (wsL_law_r27 ++ (wsL_law_r28 ++ (wsL_law_r29 ++ (wsL_law_r30 ++ (wsL_law_r31 ++ (wsL_law_r32 ++ (wsL_law_r33 ++ (wsL_law_r34 ++ (wsL_law_r35 ++ wsL_law_r36)))))))))), w ∈ lw_tbl := List.forall_mem_append.mpr ⟨wsL_in_r26, wsL_in_a27⟩
theorem wsL_in_a25 : ∀ w ∈ (wsL_law_r25 ++ (wsL_law_r26 ++ (wsL_law_r27 ++ (wsL_law_r28 ++ (wsL_law_r29 ++ (wsL_law_r30 ++ (wsL_law_r31 ++ (wsL_law_r32 ++ (wsL_law_r33 ++ (wsL_law_r34 ++ (wsL_law_r35 ++ wsL_law_r36))))))))))), w ∈ lw_tbl := List.forall_mem_append.mpr ⟨wsL_in_r25, wsL_in_a26⟩
theorem wsL_in_a24 : ∀ w ∈ (wsL_law_r24 ++ (wsL_law_r25 ++ (wsL_law_r26 ++ (wsL_law_r27 ++ (wsL_law_r28 ++ (wsL_law_r29 ++ (wsL_law_r30 ++ (wsL_law_r31 ++ (wsL_law_r32 ++ (wsL_law_r33 ++ (wsL_law_r34 ++ (wsL_law_r35 ++ wsL_law_r36)))))))))))), w ∈ lw_tbl := List.forall_mem_append.mpr ⟨wsL_in_r24, wsL_in_a25⟩
theorem wsL_in_a23 : ∀ w ∈ (wsL_law_r23 ++ (wsL_law_r24 ++ (wsL_law_r25 ++ (wsL_law_r26 ++ (wsL_law_r27 ++ (wsL_law_r28 ++ (wsL_law_r29 ++ (wsL_law_r30 ++ (wsL_law_r31 ++ (wsL_law_r32 ++ (wsL_law_r33 ++ (wsL_law_r34 ++ (wsL_law_r35 ++ wsL_law_r36))))))))))))), w ∈ lw_tbl := List.forall_mem_append.mpr ⟨wsL_in_r23, wsL_in_a24⟩
theorem wsL_in_a22 : ∀ w ∈ (wsL_law_r22 ++ (wsL_law_r23 ++ (wsL_law_r24 ++ (wsL_law_r25 ++ (wsL_law_r26 ++ (wsL_law_r27 ++ (wsL_law_r28 ++ (wsL_law_r29 ++ (wsL_law_r30 ++ (wsL_law_r31 ++ (wsL_law_r32 ++ (wsL_law_r33 ++ (wsL_law_r34 ++ (wsL_law_r35 ++ wsL_law_r36)))))))))))))), w ∈ lw_tbl := List.forall_mem_append.mpr ⟨wsL_in_r22, wsL_in_a23⟩
theorem wsL_in_a21 : ∀ w ∈ (wsL_law_r21 ++ (wsL_law_r22 ++ (wsL_law_r23 ++ (wsL_law_r24 ++ (wsL_law_r25 ++ (wsL_law_r26 ++ (wsL_law_r27 ++ (wsL_law_r28 ++ (wsL_law_r29 ++ (wsL_law_r30 ++ (wsL_law_r31 ++ (wsL_law_r32 ++ (wsL_law_r33 ++ (wsL_law_r34 ++ (wsL_law_r35 ++ wsL_law_r36))))))))))))))), w ∈ lw_tbl := List.forall_mem_append.mpr ⟨wsL_in_r21, wsL_in_a22⟩
theorem wsL_in_a20 : ∀ w ∈ (wsL_law_r20 ++ (wsL_law_r21 ++ (wsL_law_r22 ++ (wsL_law_r23 ++ (wsL_law_r24 ++ (wsL_law_r25 ++ (wsL_law_r26 ++ (wsL_law_r27 ++ (wsL_law_r28 ++ (wsL_law_r29 ++ (wsL_law_r30 ++ (wsL_law_r31 ++ (wsL_law_r32 ++ (wsL_law_r33 ++ (wsL_law_r34 ++ (wsL_law_r35 ++ wsL_law_r36)))))))))))))))), w ∈ lw_tbl := List.forall_mem_append.mpr ⟨wsL_in_r20, wsL_in_a21⟩
theorem wsL_in_a19 : ∀ w ∈ (wsL_law_r19 ++ (wsL_law_r20 ++ (wsL_law_r21 ++ (wsL_law_r22 ++ (wsL_law_r23 ++ (wsL_law_r24 ++ (wsL_law_r25 ++ (wsL_law_r26 ++ (wsL_law_r27 ++ (wsL_law_r28 ++ (wsL_law_r29 ++ (wsL_law_r30 ++ (wsL_law_r31 ++ (wsL_law_r32 ++ (wsL_law_r33 ++ (wsL_law_r34 ++ (wsL_law_r35 ++ wsL_law_r36))))))))))))))))), w ∈ lw_tbl := List.forall_mem_append.mpr ⟨wsL_in_r19, wsL_in_a20⟩
theorem wsL_in_a18 : ∀ w ∈ (wsL_law_r18 ++ (wsL_law_r19 ++ (wsL_law_r20 ++ (wsL_law_r21 ++ (wsL_law_r22 ++ (wsL_law_r23 ++ (wsL_law_r24 ++ (wsL_law_r25 ++ (wsL_law_r26 ++ (wsL_law_r27 ++ (wsL_law_r28 ++ (wsL_law_r29 ++ (wsL_law_r30 ++ (wsL_law_r31 ++ (wsL_law_r32 ++ (wsL_law_r33 ++ (wsL_law_r34 ++ (wsL_law_r35 ++ wsL_law_r36)))))))))))))))))), w ∈ lw_tbl := List.forall_mem_append.mpr ⟨wsL_in_r18, wsL_in_a19⟩
theorem wsL_in_a17 : ∀ w ∈ (wsL_law_r17 ++ (wsL_law_r18 ++ (wsL_law_r19 ++ (wsL_law_r20 ++ (wsL_law_r21 ++ (wsL_law_r22 ++ (wsL_law_r23 ++ (wsL_law_r24 ++ (wsL_law_r25 ++ (wsL_law_r26 ++ (wsL_law_r27 ++ (wsL_law_r28 ++ (wsL_law_r29 ++ (wsL_law_r30 ++ (wsL_law_r31 ++ (wsL_law_r32 ++ (wsL_law_r33 ++ (wsL_law_r34 ++ (wsL_law_r35 ++ wsL_law_r36))))))))))))))))))), w ∈ lw_tbl := List.forall_mem_append.mpr ⟨wsL_in_r17, wsL_in_a18⟩
theorem wsL_in_a16 : ∀ w ∈ (wsL_law_r16 ++ (wsL_law_r17 ++ (wsL_law_r18 ++ (wsL_law_r19 ++ (wsL_law_r20 ++ (wsL_law_r21 ++ (wsL_law_r22 ++ (wsL_law_r23 ++ (wsL_law_r24 ++ (wsL_law_r25 ++ (wsL_law_r26 ++ (wsL_law_r27 ++ (wsL_law_r28 ++ (wsL_law_r29 ++ (wsL_law_r30 ++ (wsL_law_r31 ++ (wsL_law_r32 ++ (wsL_law_r33 ++ (wsL_law_r34 ++ (wsL_law_r35 ++ wsL_law_r36)))))))))))))))))))), w ∈ lw_tbl := List.forall_mem_append.mpr ⟨wsL_in_r16, wsL_in_a17⟩
theorem wsL_in_a15 : ∀ w ∈ (wsL_law_r15 ++ (wsL_law_r16 ++ (wsL_law_r17 ++ (wsL_law_r18 ++ (wsL_law_r19 ++ (wsL_law_r20 ++ (wsL_law_r21 ++ (wsL_law_r22 ++ (wsL_law_r23 ++ (wsL_law_r24 ++ (wsL_law_r25 ++ (wsL_law_r26 ++ (wsL_law_r27 ++ (wsL_law_r28 ++ (wsL_law_r29 ++ (wsL_law_r30 ++ (wsL_law_r31 ++ (wsL_law_r32 ++ (wsL_law_r33 ++ (wsL_law_r34 ++ (wsL_law_r35 ++ wsL_law_r36))))))))))))))))))))), w ∈ lw_tbl := List.forall_mem_append.mpr ⟨wsL_in_r15, wsL_in_a16⟩
theorem wsL_in_a14 : ∀ w ∈ (wsL_law_r14 ++ (wsL_law_r15 ++ (wsL_law_r16 ++ (wsL_law_r17 ++ (wsL_law_r18 ++ (wsL_law_r19 ++ (wsL_law_r20 ++ (wsL_law_r21 ++ (wsL_law_r22 ++ (wsL_law_r23 ++ (wsL_law_r24 ++ (wsL_law_r25 ++ (wsL_law_r26 ++ (wsL_law_r27 ++ (wsL_law_r28 ++ (wsL_law_r29 ++ (wsL_law_r30 ++ (wsL_law_r31 ++ (wsL_law_r32 ++ (wsL_law_r33 ++ (wsL_law_r34 ++ (wsL_law_r35 ++ wsL_law_r36)))))))))))))))))))))), w ∈ lw_tbl := List.forall_mem_append.mpr ⟨wsL_in_r14, wsL_in_a15⟩
theorem wsL_in_a13 : ∀ w ∈ (wsL_law_r13 ++ (wsL_law_r14 ++ (wsL_law_r15 ++ (wsL_law_r16 ++ (wsL_law_r17 ++ (wsL_law_r18 ++ (wsL_law_r19 ++ (wsL_law_r20 ++ (wsL_law_r21 ++ (wsL_law_r22 ++ (wsL_law_r23 ++ (wsL_law_r24 ++ (wsL_law_r25 ++ (wsL_law_r26 ++ (wsL_law_r27 ++ (wsL_law_r28 ++ (wsL_law_r29 ++ (wsL_law_r30 ++ (wsL_law_r31 ++ (wsL_law_r32 ++ (wsL_law_r33 ++ (wsL_law_r34 ++ (wsL_law_r35 ++ wsL_law_r36))))))))))))))))))))))), w ∈ lw_tbl := List.forall_mem_append.mpr ⟨wsL_in_r13, wsL_in_a14⟩
theorem wsL_in_a12 : ∀ w ∈ (wsL_law_r12 ++ (wsL_law_r13 ++ (wsL_law_r14 ++ (wsL_law_r15 ++ (wsL_law_r16 ++ (wsL_law_r17 ++ (wsL_law_r18 ++ (wsL_law_r19 ++ (wsL_law_r20 ++ (wsL_law_r21 ++ (wsL_law_r22 ++ (wsL_law_r23 ++ (wsL_law_r24 ++ (wsL_law_r25 ++ (wsL_law_r26 ++ (wsL_law_r27 ++ (wsL_law_r28 ++ (wsL_law_r29 ++ (wsL_law_r30 ++ (wsL_law_r31 ++ (wsL_law_r32 ++ (wsL_law_r33 ++ (wsL_law_r34 ++ (wsL_law_r35 ++ wsL_law_r36)))))))))))))))))))))))), w ∈ lw_tbl := List.forall_mem_append.mpr ⟨wsL_in_r12, wsL_in_a13⟩
theorem wsL_in_a11 : ∀ w ∈ (wsL_law_r11 ++ (wsL_law_r12 ++ (wsL_law_r13 ++ (wsL_law_r14 ++ (wsL_law_r15 ++ (wsL_law_r16 ++ (wsL_law_r17 ++ (wsL_law_r18 ++ (wsL_law_r19 ++ (wsL_law_r20 ++ (wsL_law_r21 ++ (wsL_law_r22 ++ (wsL_law_r23 ++ (wsL_law_r24 ++ (wsL_law_r25 ++ (wsL_law_r26 ++ (wsL_law_r27 ++ (wsL_law_r28 ++ (wsL_law_r29 ++ (wsL_law_r30 ++ (wsL_law_r31 ++ (wsL_law_r32 ++ (wsL_law_r33 ++ (wsL_law_r34 ++ (wsL_law_r35 ++ wsL_law_r36))))))))))))))))))))))))), w ∈ lw_tbl := List.forall_mem_append.mpr ⟨wsL_in_r11, wsL_in_a12⟩
theorem wsL_in_a10 : ∀ w ∈ (wsL_law_r10 ++ (wsL_law_r11 ++ (wsL_law_r12 ++ (wsL_law_r13 ++ (wsL_law_r14 ++ (wsL_law_r15 ++ (wsL_law_r16 ++ (wsL_law_r17 ++ (wsL_law_r18 ++ (wsL_law_r19 ++ (wsL_law_r20 ++ (wsL_law_r21 ++ (wsL_law_r22 ++ (wsL_law_r23 ++ (wsL_law_r24 ++ (wsL_law_r25 ++ (wsL_law_r26 ++ (wsL_law_r27 ++ (wsL_law_r28 ++ (wsL_law_r29 ++ (wsL_law_r30 ++ (wsL_law_r31 ++ (wsL_law_r32 ++ (wsL_law_r33 ++ (wsL_law_r34 ++ (wsL_law_r35 ++ wsL_law_r36)))))))))))))))))))))))))), w ∈ lw_tbl := List.forall_mem_append.mpr ⟨wsL_in_r10, wsL_in_a11⟩
theorem wsL_in_a9 : ∀ w ∈ (wsL_law_r9 ++ (wsL_law_r10 ++ (wsL_law_r11 ++ (wsL_law_r12 ++ (wsL_law_r13 ++ (wsL_law_r14 ++ (wsL_law_r15 ++ (wsL_law_r16 ++ (wsL_law_r17 ++ (wsL_law_r18 ++ (wsL_law_r19 ++ (wsL_law_r20 ++ (wsL_law_r21 ++ (wsL_law_r22 ++ (wsL_law_r23 ++ (wsL_law_r24 ++ (wsL_law_r25 ++ (wsL_law_r26 ++ (wsL_law_r27 ++ (wsL_law_r28 ++ (wsL_law_r29 ++ (wsL_law_r30 ++ (wsL_law_r31 ++ (wsL_law_r32 ++ (wsL_law_r33 ++ (wsL_law_r34 ++ (wsL_law_r35 ++ wsL_law_r36))))))))))))))))))))))))))), w ∈ lw_tbl := List.forall_mem_append.mpr ⟨wsL_in_r9, wsL_in_a10⟩
theorem wsL_in_a8 : ∀ w ∈ (wsL_law_r8 ++ (wsL_law_r9 ++ (wsL_law_r10 ++ (wsL_law_r11 ++ (wsL_law_r12 ++ (wsL_law_r13 ++ (wsL_law_r14 ++ (wsL_law_r15 ++ (wsL_law_r16 ++ (wsL_law_r17 ++ (wsL_law_r18 ++ (wsL_law_r19 ++ (wsL_law_r20 ++ (wsL_law_r21 ++ (wsL_law_r22 ++ (wsL_law_r23 ++ (wsL_law_r24 ++ (wsL_law_r25 ++ (wsL_law_r26 ++ (wsL_law_r27 ++ (wsL_law_r28 ++ (wsL_law_r29 ++ (wsL_law_r30 ++ (wsL_law_r31 ++ (wsL_law_r32 ++ (wsL_law_r33 ++ (wsL_law_r34 ++ (wsL_law_r35 ++ wsL_law_r36)))))))))))))))))))))))))))), w ∈ lw_tbl := List.forall_mem_append.mpr ⟨wsL_in_r8, wsL_in_a9⟩
theorem wsL_in_a7 : ∀ w ∈ (wsL_law_r7 ++ (wsL_law_r8 ++ (wsL_law_r9 ++ (wsL_law_r10 ++ (wsL_law_r11 ++ (wsL_law_r12 ++ (wsL_law_r13 ++ (wsL_law_r14 ++ (wsL_law_r15 ++ (wsL_law_r16 ++ (wsL_law_r17 ++ (wsL_law_r18 ++ (wsL_law_r19 ++ (wsL_law_r20 ++ (wsL_law_r21 ++ (wsL_law_r22 ++ (wsL_law_r23 ++ (wsL_law_r24 ++ (wsL_law_r25 ++ (wsL_law_r26 ++ (wsL_law_r27 ++ (wsL_law_r28 ++ (wsL_law_r29 ++ (wsL_law_r30 ++ (wsL_law_r31 ++ (wsL_law_r32 ++ (wsL_law_r33 ++ (wsL_law_r34 ++ (wsL_law_r35 ++ wsL_law_r36))))))))))))))))))))))))))))), w ∈ lw_tbl := List.forall_mem_append.mpr ⟨wsL_in_r7, wsL_in_a8⟩
theorem wsL_in_a6 : ∀ w ∈ (wsL_law_r6 ++ (wsL_law_r7 ++ (wsL_law_r8 ++ (wsL_law_r9 ++ (wsL_law_r10 ++ (wsL_law_r11 ++ (wsL_law_r12 ++ (wsL_law_r13 ++ (wsL_law_r14 ++ (wsL_law_r15 ++ (wsL_law_r16 ++ (wsL_law_r17 ++ (wsL_law_r18 ++ (wsL_law_r19 ++ (wsL_law_r20 ++ (wsL_law_r21 ++ (wsL_law_r22 ++ (wsL_law_r23 ++ (wsL_law_r24 ++ (wsL_law_r25 ++ (wsL_law_r26 ++ (wsL_law_r27 ++ (wsL_law_r28 ++ (wsL_law_r29 ++ (wsL_law_r30 ++ (wsL_law_r31 ++ (wsL_law_r32 ++ (wsL_law_r33 ++ (wsL_law_r34 ++ (wsL_law_r35 ++ wsL_law_r36)))))))))))))))))))))))))))))), w ∈ lw_tbl := List.forall_mem_append.mpr ⟨wsL_in_r6, wsL_in_a7⟩
theorem wsL_in_a5 : ∀ w ∈ (wsL_law_r5 ++ (wsL_law_r6 ++ (wsL_law_r7 ++ (wsL_law_r8 ++ (wsL_law_r9 ++ (wsL_law_r10 ++ (wsL_law_r11 ++ (wsL_law_r12 ++ (wsL_law_r13 ++ (wsL_law_r14 ++ (wsL_law_r15 ++ (wsL_law_r16 ++ (wsL_law_r17 ++ (wsL_law_r18 ++ (wsL_law_r19 ++ (wsL_law_r20 ++ (wsL_law_r21 ++ (wsL_law_r22 ++ (wsL_law_r23 ++ (wsL_law_r24 ++ (wsL_law_r25 ++ (wsL_law_r26 ++ (wsL_law_r27 ++ (wsL_law_r28 ++ (wsL_law_r29 ++ (wsL_law_r30 ++ (wsL_law_r31 ++ (wsL_law_r32 ++ (wsL_law_r33 ++ (wsL_law_r34 ++ (wsL_law_r35 ++ wsL_law_r36))))))))))))))))))))))))))))))), w ∈ lw_tbl := List.forall_mem_append.mpr ⟨wsL_in_r5, wsL_in_a6⟩
theorem wsL_in_a4 : ∀ w ∈ (wsL_law_r4 ++ (wsL_law_r5 ++ (wsL_law_r6 ++ (wsL_law_r7 ++ (wsL_law_r8 ++ (wsL_law_r9 ++ (wsL_law_r10 ++ (wsL_law_r11 ++ (wsL_law_r12 ++ (wsL_law_r13 ++ (wsL_law_r14 ++ (wsL_law_r15 ++ (wsL_law_r16 ++ (wsL_law_r17 ++ (wsL_law_r18 ++ (wsL_law_r19 ++ (wsL_law_r20 ++ (wsL_law_r21 ++ (wsL_law_r22 ++ (wsL_law_r23 ++ (wsL_law_r24 ++ (wsL_law_r25 ++ (wsL_law_r26 ++ (wsL_law_r27 ++ (wsL_law_r28 ++ (wsL_law_r29 ++ (wsL_law_r30 ++ (wsL_law_r31 ++ (wsL_law_r32 ++ (wsL_law_r33 ++ (wsL_law_r34 ++ (wsL_law_r35 ++ wsL_law_r36)))))))))))))))))))))))))))))))), w ∈ lw_tbl := List.forall_mem_append.mpr ⟨wsL_in_r4, wsL_in_a5⟩
theorem wsL_in_a3 : ∀ w ∈ (wsL_law_r3 ++ (wsL_law_r4 ++ (wsL_law_r5 ++ (wsL_law_r6 ++ (wsL_law_r7 ++ (wsL_law_r8 ++ (wsL_law_r9 ++ (wsL_law_r10 ++ (wsL_law_r11 ++ (wsL_law_r12 ++ (wsL_law_r13 ++ (wsL_law_r14 ++ (wsL_law_r15 ++ (wsL_law_r16 ++ (wsL_law_r17 ++ (wsL_law_r18 ++ (wsL_law_r19 ++ (wsL_law_r20 ++ (wsL_law_r21 ++ (wsL_law_r22 ++ (wsL_law_r23 ++ (wsL_law_r24 ++ (wsL_law_r25 ++ (wsL_law_r26 ++ (wsL_law_r27 ++ (wsL_law_r28 ++ (wsL_law_r29 ++ (wsL_law_r30 ++ (wsL_law_r31 ++ (wsL_law_r32 ++ (wsL_law_r33 ++ (wsL_law_r34 ++ (wsL_law_r35 ++ wsL_law_r36))))))))))))))))))))))))))))))))), w ∈ lw_tbl := List.forall_mem_append.mpr ⟨wsL_in_r3, wsL_in_a4⟩
theorem wsL_in_a2 : ∀ w ∈ (wsL_law_r2 ++ (wsL_law_r3 ++ (wsL_law_r4 ++ (wsL_law_r5 ++ (wsL_law_r6 ++ (wsL_law_r7 ++ (wsL_law_r8 ++ (wsL_law_r9 ++ (wsL_law_r10 ++ (wsL_law_r11 ++ (wsL_law_r12 ++ (wsL_law_r13 ++ (wsL_law_r14 ++ (wsL_law_r15 ++ (wsL_law_r16 ++ (wsL_law_r17 ++ (wsL_law_r18 ++ (wsL_law_r19 ++ (wsL_law_r20 ++ (wsL_law_r21 ++ (wsL_law_r22 ++ (wsL_law_r23 ++ (wsL_law_r24 ++ (wsL_law_r25 ++ (wsL_law_r26 ++ (wsL_law_r27 ++ (wsL_law_r28 ++ (wsL_law_r29 ++ (wsL_law_r30 ++ (wsL_law_r31 ++ (wsL_law_r32 ++ (wsL_law_r33 ++ (wsL_law_r34 ++ (wsL_law_r35 ++ wsL_law_r36)))))))))))))))))))))))))))))))))), w ∈ lw_tbl := List.forall_mem_append.mpr ⟨wsL_in_r2, wsL_in_a3⟩
theorem wsL_in_a1 : ∀ w ∈ (wsL_law_r1 ++ (wsL_law_r2 ++ (wsL_law_r3 ++ (wsL_law_r4 ++ (wsL_law_r5 ++ (wsL_law_r6 ++ (wsL_law_r7 ++ (wsL_law_r8 ++ (wsL_law_r9 ++ (wsL_law_r10 ++ (wsL_law_r11 ++ (wsL_law_r12 ++ (wsL_law_r13 ++ (wsL_law_r14 ++ (wsL_law_r15 ++ (wsL_law_r16 ++ (wsL_law_r17 ++ (wsL_law_r18 ++ (wsL_law_r19 ++ (wsL_law_r20 ++ (wsL_law_r21 ++ (wsL_law_r22 ++ (wsL_law_r23 ++ (wsL_law_r24 ++ (wsL_law_r25 ++ (wsL_law_r26 ++ (wsL_law_r27 ++ (wsL_law_r28 ++ (wsL_law_r29 ++ (wsL_law_r30 ++ (wsL_law_r31 ++ (wsL_law_r32 ++ (wsL_law_r33 ++ (wsL_law_r34 ++ (wsL_law_r35 ++ wsL_law_r36))))))))))))))))))))))))))))))))))), w ∈ lw_tbl := List.forall_mem_append.mpr ⟨wsL_in_r1, wsL_in_a2⟩
theorem wsL_in_b6 : ∀ w ∈ ((wsL_law_r1 ++ (wsL_law_r2 ++ (wsL_law_r3 ++ (wsL_law_r4 ++ (wsL_law_r5 ++ (wsL_law_r6 ++ (wsL_law_r7 ++ (wsL_law_r8 ++ (wsL_law_r9 ++ (wsL_law_r10 ++ (wsL_law_r11 ++ (wsL_law_r12 ++ (wsL_law_r13 ++ (wsL_law_r14 ++ (wsL_law_r15 ++ (wsL_law_r16 ++ (wsL_law_r17 ++ (wsL_law_r18 ++ (wsL_law_r19 ++ (wsL_law_r20 ++ (wsL_law_r21 ++ (wsL_law_r22 ++ (wsL_law_r23 ++ (wsL_law_r24 ++ (wsL_law_r25 ++ (wsL_law_r26 ++ (wsL_law_r27 ++ (wsL_law_r28 ++ (wsL_law_r29 ++ (wsL_law_r30 ++ (wsL_law_r31 ++ (wsL_law_r32 ++ (wsL_law_r33 ++ (wsL_law_r34 ++ (wsL_law_r35 ++ wsL_law_r36))))))))))))))))))))))))))))))))))) ++ wsX60), w ∈ lw_tbl := List.forall_mem_append.mpr ⟨wsL_in_a1, wsL_in_x6⟩
theorem wsL_in_b4 : ∀ w ∈ (((wsL_law_r1 ++ (wsL_law_r2 ++ (wsL_law_r3 ++ (wsL_law_r4 ++ (wsL_law_r5 ++ (wsL_law_r6 ++ (wsL_law_r7 ++ (wsL_law_r8 ++ (wsL_law_r9 ++ (wsL_law_r10 ++ (wsL_law_r11 ++ (wsL_law_r12 ++ (wsL_law_r13 ++ (wsL_law_r14 ++ (wsL_law_r15 ++ (wsL_law_r16 ++ (wsL_law_r17 ++ (wsL_law_r18 ++ (wsL_law_r19 ++ (wsL_law_r20 ++ (wsL_law_r21 ++ (wsL_law_r22 ++ (wsL_law_r23 ++ (wsL_law_r24 ++ (wsL_law_r25 ++ (wsL_law_r26 ++ (wsL_law_r27 ++ (wsL_law_r28 ++ (wsL_law_r29 ++ (wsL_law_r30 ++ (wsL_law_r31 ++ (wsL_law_r32 ++ (wsL_law_r33 ++ (wsL_law_r34 ++ (wsL_law_r35 ++ wsL_law_r36))))))))))))))))))))))))))))))))))) ++ wsX60) ++ wsX40), w ∈ lw_tbl := List.forall_mem_append.mpr ⟨wsL_in_b6, wsL_in_x4⟩
theorem wsL_in_b7 : ∀ w ∈ ((((wsL_law_r1 ++ (wsL_law_r2 ++ (wsL_law_r3 ++ (wsL_law_r4 ++ (wsL_law_r5 ++ (wsL_law_r6 ++ (wsL_law_r7 ++ (wsL_law_r8 ++ (wsL_law_r9 ++ (wsL_law_r10 ++ (wsL_law_r11 ++ (wsL_law_r12 ++ (wsL_law_r13 ++ (wsL_law_r14 ++ (wsL_law_r15 ++ (wsL_law_r16 ++ (wsL_law_r17 ++ (wsL_law_r18 ++ (wsL_law_r19 ++ (wsL_law_r20 ++ (wsL_law_r21 ++ (wsL_law_r22 ++ (wsL_law_r23 ++ (wsL_law_r24 ++ (wsL_law_r25 ++ (wsL_law_r26 ++ (wsL_law_r27 ++ (wsL_law_r28 ++ (wsL_law_r29 ++ (wsL_law_r30 ++ (wsL_law_r31 ++ (wsL_law_r32 ++ (wsL_law_r33 ++ (wsL_law_r34 ++ (wsL_law_r35 ++ wsL_law_r36))))))))))))))))))))))))))))))))))) ++ wsX60) ++ wsX40) ++ wsX70), w ∈ lw_tbl := List.forall_mem_append.mpr ⟨wsL_in_b4, wsL_in_x7⟩
theorem wsL_in_b0 : ∀ w ∈ (((((wsL_law_r1 ++ (wsL_law_r2 ++ (wsL_law_r3 ++ (wsL_law_r4 ++ (wsL_law_r5 ++ (wsL_law_r6 ++ (wsL_law_r7 ++ (wsL_law_r8 ++ (wsL_law_r9 ++ (wsL_law_r10 ++ (wsL_law_r11 ++ (wsL_law_r12 ++ (wsL_law_r13 ++ (wsL_law_r14 ++ (wsL_law_r15 ++ (wsL_law_r16 ++ (wsL_law_r17 ++ (wsL_law_r18 ++ (wsL_law_r19 ++ (wsL_law_r20 ++ (wsL_law_r21 ++ (wsL_law_r22 ++ (wsL_law_r23 ++ (wsL_law_r24 ++ (wsL_law_r25 ++ (wsL_law_r26 ++ (wsL_law_r27 ++ (wsL_law_r28 ++ (wsL_law_r29 ++ (wsL_law_r30 ++ (wsL_law_r31 ++ (wsL_law_r32 ++ (wsL_law_r33 ++ (wsL_law_r34 ++ (wsL_law_r35 ++ wsL_law_r36))))))))))))))))))))))))))))))))))) ++ wsX60) ++ wsX40) ++ wsX70) ++ wsX00), w ∈ lw_tbl := List.forall_mem_append.mpr ⟨wsL_in_b7, wsL_in_x0⟩
theorem wsL_in_b2 : ∀ w ∈ ((((((wsL_law_r1 ++ (wsL_law_r2 ++ (wsL_law_r3 ++ (wsL_law_r4 ++ (wsL_law_r5 ++ (wsL_law_r6 ++ (wsL_law_r7 ++ (wsL_law_r8 ++ (wsL_law_r9 ++ (wsL_law_r10 ++ (wsL_law_r11 ++ (wsL_law_r12 ++ (wsL_law_r13 ++ (wsL_law_r14 ++ (wsL_law_r15 ++ (wsL_law_r16 ++ (wsL_law_r17 ++ (wsL_law_r18 ++ (wsL_law_r19 ++ (wsL_law_r20 ++ (wsL_law_r21 ++ (wsL_law_r22 ++ (wsL_law_r23 ++ (wsL_law_r24 ++ (wsL_law_r25 ++ (wsL_law_r26 ++ (wsL_law_r27 ++ (wsL_law_r28 ++ (wsL_law_r29 ++ (wsL_law_r30 ++ (wsL_law_r31 ++ (wsL_law_r32 ++ (wsL_law_r33 ++ (wsL_law_r34 ++ (wsL_law_r35 ++ wsL_law_r36))))))))))))))))))))))))))))))))))) ++ wsX60) ++ wsX40) ++ wsX70) ++ wsX00) ++ wsX20), w ∈ lw_tbl := List.forall_mem_append.mpr ⟨wsL_in_b0, wsL_in_x2⟩
theorem wsL_in_b5 : ∀ w ∈ (((((((wsL_law_r1 ++ (wsL_law_r2 ++ (wsL_law_r3 ++ (wsL_law_r4 ++ (wsL_law_r5 ++ (wsL_law_r6 ++ (wsL_law_r7 ++ (wsL_law_r8 ++ (wsL_law_r9 ++ (wsL_law_r10 ++ (wsL_law_r11 ++ (wsL_law_r12 ++ (wsL_law_r13 ++ (wsL_law_r14 ++ (wsL_law_r15 ++ (wsL_law_r16 ++ (wsL_law_r17 ++ (wsL_law_r18 ++ (wsL_law_r19 ++ (wsL_law_r20 ++ (wsL_law_r21 ++ (wsL_law_r22 ++ (wsL_law_r23 ++ (wsL_law_r24 ++ (wsL_law_r25 ++ (wsL_law_r26 ++ (wsL_law_r27 ++ (wsL_law_r28 ++ (wsL_law_r29 ++ (wsL_law_r30 ++ (wsL_law_r31 ++ (wsL_law_r32 ++ (wsL_law_r33 ++ (wsL_law_r34 ++ (wsL_law_r35 ++ wsL_law_r36))))))))))))))))))))))))))))))))))) ++ wsX60) ++ wsX40) ++ wsX70) ++ wsX00) ++ wsX20) ++ wsX50), w ∈ lw_tbl := List.forall_mem_append.mpr ⟨wsL_in_b2, wsL_in_x5⟩
theorem wsL_in_b1 : ∀ w ∈ ((((((((wsL_law_r1 ++ (wsL_law_r2 ++ (wsL_law_r3 ++ (wsL_law_r4 ++ (wsL_law_r5 ++ (wsL_law_r6 ++ (wsL_law_r7 ++ (wsL_law_r8 ++ (wsL_law_r9 ++ (wsL_law_r10 ++ (wsL_law_r11 ++ (wsL_law_r12 ++ (wsL_law_r13 ++ (wsL_law_r14 ++ (wsL_law_r15 ++ (wsL_law_r16 ++ (wsL_law_r17 ++ (wsL_law_r18 ++ (wsL_law_r19 ++ (wsL_law_r20 ++ (wsL_law_r21 ++ (wsL_law_r22 ++ (wsL_law_r23 ++ (wsL_law_r24 ++ (wsL_law_r25 ++ (wsL_law_r26 ++ (wsL_law_r27 ++ (wsL_law_r28 ++ (wsL_law_r29 ++ (wsL_law_r30 ++ (wsL_law_r31 ++ (wsL_law_r32 ++ (wsL_law_r33 ++ (wsL_law_r34 ++ (wsL_law_r35 ++ wsL_law_r36))))))))))))))))))))))))))))))))))) ++ wsX60) ++ wsX40) ++ wsX70) ++ wsX00) ++ wsX20) ++ wsX50) ++ wsX10), w ∈ lw_tbl := List.forall_mem_append.mpr ⟨wsL_in_b5, wsL_in_x1⟩
theorem wsL_in_b3 : ∀ w ∈ (((((((((wsL_law_r1 ++ (wsL_law_r2 ++ (wsL_law_r3 ++ (wsL_law_r4 ++ (wsL_law_r5 ++ (wsL_law_r6 ++ (wsL_law_r7 ++ (wsL_law_r8 ++ (wsL_law_r9 ++ (wsL_law_r10 ++ (wsL_law_r11 ++ (wsL_law_r12 ++ (wsL_law_r13 ++ (wsL_law_r14 ++ (wsL_law_r15 ++ (wsL_law_r16 ++ (wsL_law_r17 ++ (wsL_law_r18 ++ (wsL_law_r19 ++ (wsL_law_r20 ++ (wsL_law_r21 ++ (wsL_law_r22 ++ (wsL_law_r23 ++ (wsL_law_r24 ++ (wsL_law_r25 ++ (wsL_law_r26 ++ (wsL_law_r27 ++ (wsL_law_r28 ++ (wsL_law_r29 ++ (wsL_law_r30 ++ (wsL_law_r31 ++ (wsL_law_r32 ++ (wsL_law_r33 ++ (wsL_law_r34 ++ (wsL_law_r35 ++ wsL_law_r36))))))))))))))))))))))))))))))))))) ++ wsX60) ++ wsX40) ++ wsX70) ++ wsX00) ++ wsX20) ++ wsX50) ++ wsX10) ++ wsX30), w ∈ lw_tbl := List.forall_mem_append.mpr ⟨wsL_in_b1, wsL_in_x3⟩
set_option maxRecDepth 100000 in
theorem wsL_law_in : ∀ w ∈ wsL_law, w ∈ lw_tbl := by
  intro w h
  unfold wsL_law at h
  rcases List.mem_append.mp h with h | h
  · exact wsL_in_b3 w h
  · exact absurd h List.not_mem_nil
end
section
theorem inlX0 : ∀ w ∈ wsX00, w ∈ wsL_law := fun _ h => List.mem_append_left _ (List.mem_append_left _ (List.mem_append_left _ (List.mem_append_left _ (List.mem_append_left _ (List.mem_append_right _ h)))))
theorem inX0 : ∀ w ∈ wsX00, w ∈ lw_tbl := fun w h => wsL_law_in w (inlX0 w h)
theorem inlX1 : ∀ w ∈ wsX10, w ∈ wsL_law := fun _ h => List.mem_append_left _ (List.mem_append_left _ (List.mem_append_right _ h))
theorem inX1 : ∀ w ∈ wsX10, w ∈ lw_tbl := fun w h => wsL_law_in w (inlX1 w h)
theorem inlX2 : ∀ w ∈ wsX20, w ∈ wsL_law := fun _ h => List.mem_append_left _ (List.mem_append_left _ (List.mem_append_left _ (List.mem_append_left _ (List.mem_append_right _ h))))
theorem inX2 : ∀ w ∈ wsX20, w ∈ lw_tbl := fun w h => wsL_law_in w (inlX2 w h)
theorem inlX3 : ∀ w ∈ wsX30, w ∈ wsL_law := fun _ h => List.mem_append_left _ (List.mem_append_right _ h)
theorem inX3 : ∀ w ∈ wsX30, w ∈ lw_tbl := fun w h => wsL_law_in w (inlX3 w h)
theorem inlX4 : ∀ w ∈ wsX40, w ∈ wsL_law := fun _ h => List.mem_append_left _ (List.mem_append_left _ (List.mem_append_left _ (List.mem_append_left _ (List.mem_append_left _ (List.mem_append_left _ (List.mem_append_right _ h))))))
theorem inX4 : ∀ w ∈ wsX40, w ∈ lw_tbl := fun w h => wsL_law_in w (inlX4 w h)
theorem inlX5 : ∀ w ∈ wsX50, w ∈ wsL_law := fun _ h => List.mem_append_left _ (List.mem_append_left _ (List.mem_append_left _ (List.mem_append_right _ h)))
theorem inX5 : ∀ w ∈ wsX50, w ∈ lw_tbl := fun w h => wsL_law_in w (inlX5 w h)
theorem inlX6 : ∀ w ∈ wsX60, w ∈ wsL_law := fun _ h => List.mem_append_left _ (List.mem_append_left _ (List.mem_append_left _ (List.mem_append_left _ (List.mem_append_left _ (List.mem_append_left _ (List.mem_append_left _ (List.mem_append_left _ (List.mem_append_right _ h))))))))
theorem inX6 : ∀ w ∈ wsX60, w ∈ lw_tbl := fun w h => wsL_law_in w (inlX6 w h)
theorem inlX7 : ∀ w ∈ wsX70, w ∈ wsL_law := fun _ h => List.mem_append_left _ (List.mem_append_left _ (List.mem_append_left _ (List.mem_append_left _ (List.mem_append_left _ (List.mem_append_left _ (List.mem_append_left _ (List.mem_append_right _ h)))))))
theorem inX7 : ∀ w ∈ wsX70, w ∈ lw_tbl := fun w h => wsL_law_in w (inlX7 w h)
theorem inJ9 : ∀ w ∈ wsJ90, w ∈ lw_tbl := by decide +kernel
theorem inJ0 : ∀ w ∈ wsJ00, w ∈ lw_tbl := by decide +kernel
theorem inJ1 : ∀ w ∈ wsJ10, w ∈ lw_tbl := by decide +kernel
theorem inJ2 : ∀ w ∈ wsJ20, w ∈ lw_tbl := by decide +kernel
theorem inJ10 : ∀ w ∈ wsJ100, w ∈ lw_tbl := by decide +kernel
theorem inJ3 : ∀ w ∈ wsJ30, w ∈ lw_tbl := by decide +kernel
set_option maxRecDepth 20000 in
theorem ggX0_init_X4_init : GoodIn wsX0_init wsX4_init := goodIn_r _ [10, 11, 2, 3, 12, 13, 14, 15, 16, 17, 18, 19, 20, 21, 22, 23, 24, 25, 26, 27, 28, 29, 30, 31, 32, 33, 34, 35, 36, 37, 38, 39, 40, 41, 42, 43, 44, 45, 46, 47, 62, 63, 64, 65, 66, 67, 50, 51, 52, 53, 54, 55, 56, 57, 58, 59, 60, 61, 68, 69, 70, 71] (by decide +kernel) (by decide +kernel)
set_option maxRecDepth 20000 in
theorem gX0_init_X4_init_n21 : GoodIn wsX0_init (wsX4_init) := ggX0_init_X4_init
theorem dX0_init_0 : decode cX0_init 0 = .ok (.aload_n 0, 1) := by decide +kernel
theorem dX0_init_1 : decode cX0_init 1 = .ok (.invokespecial 3, 3) := by decide +kernel
theorem dX0_init_4 : decode cX0_init 4 = .ok (.aload_n 0, 1) := by decide +kernel
theorem dX0_init_5 : decode cX0_init 5 = .ok (.iconst 5, 1) := by decide +kernel
theorem dX0_init_6 : decode cX0_init 6 = .ok (.anewarray 9, 3) := by decide +kernel
theorem dX0_init_9 : decode cX0_init 9 = .ok (.putfield 11, 3) := by decide +kernel
theorem dX0_init_12 : decode cX0_init 12 = .ok (.aload_n 0, 1) := by decide +kernel
theorem dX0_init_13 : decode cX0_init 13 = .ok (.iconst 0, 1) := by decide +kernel
theorem dX0_init_14 : decode cX0_init 14 = .ok (.putfield 17, 3) := by decide +kernel
theorem dX0_init_17 : decode cX0_init 17 = .ok (.iconst 0, 1) := by decide +kernel
theorem dX0_init_18 : decode cX0_init 18 = .ok (.istore_n 1, 1) := by decide +kernel
theorem dX0_init_19 : decode cX0_init 19 = .ok (.iload_n 1, 1) := by decide +kernel
theorem dX0_init_20 : decode cX0_init 20 = .ok (.iconst 4, 1) := by decide +kernel
theorem dX0_init_21 : decode cX0_init 21 = .ok (.if_icmp .gt 22, 3) := by decide +kernel
theorem dX0_init_24 : decode cX0_init 24 = .ok (.aload_n 0, 1) := by decide +kernel
theorem dX0_init_25 : decode cX0_init 25 = .ok (.getfield 11, 3) := by decide +kernel
theorem dX0_init_28 : decode cX0_init 28 = .ok (.iload_n 1, 1) := by decide +kernel
theorem dX0_init_29 : decode cX0_init 29 = .ok (.new 9, 3) := by decide +kernel
theorem dX0_init_32 : decode cX0_init 32 = .ok (.dup, 1) := by decide +kernel
theorem dX0_init_33 : decode cX0_init 33 = .ok (.invokespecial 21, 3) := by decide +kernel
theorem dX0_init_36 : decode cX0_init 36 = .ok (.aastore, 1) := by decide +kernel
theorem dX0_init_37 : decode cX0_init 37 = .ok (.iinc 1 1, 3) := by decide +kernel
theorem dX0_init_40 : decode cX0_init 40 = .ok (.goto (-21), 3) := by decide +kernel
theorem dX0_init_43 : decode cX0_init 43 = .ok (.return_, 1) := by decide +kernel
set_option maxRecDepth 20000 in
theorem ggX0_prepare_X4_copyFrom : GoodIn wsX0_prepare wsX4_copyFrom := goodIn_r _ [7, 8, 9, 10, 11, 12, 13, 14, 15, 16, 17, 18, 19, 20, 21, 22, 23, 24, 25, 26, 27, 28, 29, 30, 31, 32, 33, 34, 35, 36, 37, 38, 39, 40, 41, 42, 43, 44, 45, 46, 47, 48, 49, 50, 51, 52, 55, 56, 57, 58, 59, 60, 61, 62, 63, 64, 65, 66, 67, 68, 69, 70, 71, 72, 73, 74, 75, 76] (by decide +kernel) (by decide +kernel)
set_option maxRecDepth 20000 in
theorem gX0_prepare_X4_copyFrom : GoodIn wsX0_prepare (wsV RX0 22 RX4 yX4_copyFrom wsX4_copyFrom) := goodIn_app (goodIn_of _ (by decide +kernel)) ggX0_prepare_X4_copyFrom
theorem dX0_prepare_0 : decode cX0_prepare 0 = .ok (.aload_n 0, 1) := by decide +kernel
theorem dX0_prepare_1 : decode cX0_prepare 1 = .ok (.getfield 17, 3) := by decide +kernel
theorem dX0_prepare_4 : decode cX0_prepare 4 = .ok (.ifCond .lt 24, 3) := by decide +kernel
theorem dX0_prepare_7 : decode cX0_prepare 7 = .ok (.aload_n 0, 1) := by decide +kernel
theorem dX0_prepare_8 : decode cX0_prepare 8 = .ok (.getfield 17, 3) := by decide +kernel
theorem dX0_prepare_11 : decode cX0_prepare 11 = .ok (.iconst 4, 1) := by decide +kernel
theorem dX0_prepare_12 : decode cX0_prepare 12 = .ok (.if_icmp .gt 16, 3) := by decide +kernel
theorem dX0_prepare_15 : decode cX0_prepare 15 = .ok (.aload_n 0, 1) := by decide +kernel
theorem dX0_prepare_16 : decode cX0_prepare 16 = .ok (.getfield 11, 3) := by decide +kernel
theorem dX0_prepare_19 : decode cX0_prepare 19 = .ok (.aload_n 0, 1) := by decide +kernel
theorem dX0_prepare_20 : decode cX0_prepare 20 = .ok (.getfield 17, 3) := by decide +kernel
theorem dX0_prepare_23 : decode cX0_prepare 23 = .ok (.aaload, 1) := by decide +kernel
theorem dX0_prepare_24 : decode cX0_prepare 24 = .ok (.aload_n 1, 1) := by decide +kernel
theorem dX0_prepare_25 : decode cX0_prepare 25 = .ok (.invokevirtual 22, 3) := by decide +kernel
theorem dX0_prepare_28 : decode cX0_prepare 28 = .ok (.return_, 1) := by decide +kernel
theorem dX0_keep_0 : decode cX0_keep 0 = .ok (.aload_n 0, 1) := by decide +kernel
theorem dX0_keep_1 : decode cX0_keep 1 = .ok (.getfield 17, 3) := by decide +kernel
theorem dX0_keep_4 : decode cX0_keep 4 = .ok (.iconst 4, 1) := by decide +kernel
theorem dX0_keep_5 : decode cX0_keep 5 = .ok (.if_icmp .ge 14, 3) := by decide +kernel
theorem dX0_keep_8 : decode cX0_keep 8 = .ok (.aload_n 0, 1) := by decide +kernel
theorem dX0_keep_9 : decode cX0_keep 9 = .ok (.dup, 1) := by decide +kernel
theorem dX0_keep_10 : decode cX0_keep 10 = .ok (.getfield 17, 3) := by decide +kernel
theorem dX0_keep_13 : decode cX0_keep 13 = .ok (.iconst 1, 1) := by decide +kernel
theorem dX0_keep_14 : decode cX0_keep 14 = .ok (.iadd, 1) := by decide +kernel
theorem dX0_keep_15 : decode cX0_keep 15 = .ok (.putfield 17, 3) := by decide +kernel
theorem dX0_keep_18 : decode cX0_keep 18 = .ok (.return_, 1) := by decide +kernel
theorem dX0_keep_19 : decode cX0_keep 19 = .ok (.aload_n 0, 1) := by decide +kernel
theorem dX0_keep_20 : decode cX0_keep 20 = .ok (.getfield 11, 3) := by decide +kernel
theorem dX0_keep_23 : decode cX0_keep 23 = .ok (.iconst 0, 1) := by decide +kernel
theorem dX0_keep_24 : decode cX0_keep 24 = .ok (.aaload, 1) := by decide +kernel
theorem dX0_keep_25 : decode cX0_keep 25 = .ok (.astore_n 1, 1) := by decide +kernel
theorem dX0_keep_26 : decode cX0_keep 26 = .ok (.iconst 0, 1) := by decide +kernel
theorem dX0_keep_27 : decode cX0_keep 27 = .ok (.istore_n 2, 1) := by decide +kernel
theorem dX0_keep_28 : decode cX0_keep 28 = .ok (.iload_n 2, 1) := by decide +kernel
theorem dX0_keep_29 : decode cX0_keep 29 = .ok (.iconst 4, 1) := by decide +kernel
theorem dX0_keep_30 : decode cX0_keep 30 = .ok (.if_icmp .ge 23, 3) := by decide +kernel
theorem dX0_keep_33 : decode cX0_keep 33 = .ok (.aload_n 0, 1) := by decide +kernel
theorem dX0_keep_34 : decode cX0_keep 34 = .ok (.getfield 11, 3) := by decide +kernel
theorem dX0_keep_37 : decode cX0_keep 37 = .ok (.iload_n 2, 1) := by decide +kernel
theorem dX0_keep_38 : decode cX0_keep 38 = .ok (.aload_n 0, 1) := by decide +kernel
theorem dX0_keep_39 : decode cX0_keep 39 = .ok (.getfield 11, 3) := by decide +kernel
theorem dX0_keep_42 : decode cX0_keep 42 = .ok (.iload_n 2, 1) := by decide +kernel
theorem dX0_keep_43 : decode cX0_keep 43 = .ok (.iconst 1, 1) := by decide +kernel
theorem dX0_keep_44 : decode cX0_keep 44 = .ok (.iadd, 1) := by decide +kernel
theorem dX0_keep_45 : decode cX0_keep 45 = .ok (.aaload, 1) := by decide +kernel
theorem dX0_keep_46 : decode cX0_keep 46 = .ok (.aastore, 1) := by decide +kernel
theorem dX0_keep_47 : decode cX0_keep 47 = .ok (.iinc 2 1, 3) := by decide +kernel
theorem dX0_keep_50 : decode cX0_keep 50 = .ok (.goto (-22), 3) := by decide +kernel
theorem dX0_keep_53 : decode cX0_keep 53 = .ok (.aload_n 0, 1) := by decide +kernel
theorem dX0_keep_54 : decode cX0_keep 54 = .ok (.getfield 11, 3) := by decide +kernel
theorem dX0_keep_57 : decode cX0_keep 57 = .ok (.iconst 4, 1) := by decide +kernel
theorem dX0_keep_58 : decode cX0_keep 58 = .ok (.aload_n 1, 1) := by decide +kernel
theorem dX0_keep_59 : decode cX0_keep 59 = .ok (.aastore, 1) := by decide +kernel
theorem dX0_keep_60 : decode cX0_keep 60 = .ok (.return_, 1) := by decide +kernel
set_option maxRecDepth 20000 in
theorem ggX0_restore_X4_copyFrom : GoodIn wsX0_restore wsX4_copyFrom := goodIn_r _ [7, 8, 9, 10, 11, 12, 13, 14, 15, 16, 17, 18, 19, 20, 21, 22, 23, 24, 25, 26, 27, 28, 29, 30, 31, 32, 33, 34, 35, 36, 37, 38, 39, 40, 41, 42, 43, 44, 45, 46, 47, 48, 49, 50, 51, 52, 55, 56, 57, 58, 59, 60, 61, 62, 63, 64, 65, 66, 67, 68, 69, 70, 71, 72, 73, 74, 75, 76] (by decide +kernel) (by decide +kernel)
set_option maxRecDepth 20000 in
theorem gX0_restore_X4_copyFrom : GoodIn wsX0_restore (wsV RX0 22 RX4 yX4_copyFrom wsX4_copyFrom) := goodIn_app (goodIn_of _ (by decide +kernel)) ggX0_restore_X4_copyFrom
theorem dX0_restore_0 : decode cX0_restore 0 = .ok (.aload_n 0, 1) := by decide +kernel
theorem dX0_restore_1 : decode cX0_restore 1 = .ok (.getfield 17, 3) := by decide +kernel
theorem dX0_restore_4 : decode cX0_restore 4 = .ok (.iconst 1, 1) := by decide +kernel
theorem dX0_restore_5 : decode cX0_restore 5 = .ok (.if_icmp .lt 11, 3) := by decide +kernel
theorem dX0_restore_8 : decode cX0_restore 8 = .ok (.aload_n 0, 1) := by decide +kernel
theorem dX0_restore_9 : decode cX0_restore 9 = .ok (.getfield 17, 3) := by decide +kernel
theorem dX0_restore_12 : decode cX0_restore 12 = .ok (.iconst 4, 1) := by decide +kernel
theorem dX0_restore_13 : decode cX0_restore 13 = .ok (.if_icmp .le 5, 3) := by decide +kernel
theorem dX0_restore_16 : decode cX0_restore 16 = .ok (.iconst 0, 1) := by decide +kernel
theorem dX0_restore_17 : decode cX0_restore 17 = .ok (.ireturn, 1) := by decide +kernel
theorem dX0_restore_18 : decode cX0_restore 18 = .ok (.aload_n 0, 1) := by decide +kernel
theorem dX0_restore_19 : decode cX0_restore 19 = .ok (.dup, 1) := by decide +kernel
theorem dX0_restore_20 : decode cX0_restore 20 = .ok (.getfield 17, 3) := by decide +kernel
theorem dX0_restore_23 : decode cX0_restore 23 = .ok (.iconst 1, 1) := by decide +kernel
theorem dX0_restore_24 : decode cX0_restore 24 = .ok (.isub, 1) := by decide +kernel
theorem dX0_restore_25 : decode cX0_restore 25 = .ok (.putfield 17, 3) := by decide +kernel
theorem dX0_restore_28 : decode cX0_restore 28 = .ok (.aload_n 1, 1) := by decide +kernel
theorem dX0_restore_29 : decode cX0_restore 29 = .ok (.aload_n 0, 1) := by decide +kernel
theorem dX0_restore_30 : decode cX0_restore 30 = .ok (.getfield 11, 3) := by decide +kernel
theorem dX0_restore_33 : decode cX0_restore 33 = .ok (.aload_n 0, 1) := by decide +kernel
theorem dX0_restore_34 : decode cX0_restore 34 = .ok (.getfield 17, 3) := by decide +kernel
theorem dX0_restore_37 : decode cX0_restore 37 = .ok (.aaload, 1) := by decide +kernel
theorem dX0_restore_38 : decode cX0_restore 38 = .ok (.invokevirtual 22, 3) := by decide +kernel
theorem dX0_restore_41 : decode cX0_restore 41 = .ok (.iconst 1, 1) := by decide +kernel
theorem dX0_restore_42 : decode cX0_restore 42 = .ok (.ireturn, 1) := by decide +kernel
theorem dX1_init_0 : decode cX1_init 0 = .ok (.aload_n 0, 1) := by decide +kernel
theorem dX1_init_1 : decode cX1_init 1 = .ok (.invokespecial 3, 3) := by decide +kernel
theorem dX1_init_4 : decode cX1_init 4 = .ok (.aload_n 0, 1) := by decide +kernel
theorem dX1_init_5 : decode cX1_init 5 = .ok (.iconst 0, 1) := by decide +kernel
theorem dX1_init_6 : decode cX1_init 6 = .ok (.putfield 9, 3) := by decide +kernel
theorem dX1_init_9 : decode cX1_init 9 = .ok (.aload_n 0, 1) := by decide +kernel
theorem dX1_init_10 : decode cX1_init 10 = .ok (.bipush 100, 2) := by decide +kernel
theorem dX1_init_12 : decode cX1_init 12 = .ok (.newarray .int, 2) := by decide +kernel
theorem dX1_init_14 : decode cX1_init 14 = .ok (.putfield 15, 3) := by decide +kernel
theorem dX1_init_17 : decode cX1_init 17 = .ok (.aload_n 0, 1) := by decide +kernel
theorem dX1_init_18 : decode cX1_init 18 = .ok (.bipush 100, 2) := by decide +kernel
theorem dX1_init_20 : decode cX1_init 20 = .ok (.newarray .int, 2) := by decide +kernel
theorem dX1_init_22 : decode cX1_init 22 = .ok (.putfield 19, 3) := by decide +kernel
theorem dX1_init_25 : decode cX1_init 25 = .ok (.aload_n 0, 1) := by decide +kernel
theorem dX1_init_26 : decode cX1_init 26 = .ok (.bipush 100, 2) := by decide +kernel
theorem dX1_init_28 : decode cX1_init 28 = .ok (.newarray .int, 2) := by decide +kernel
theorem dX1_init_30 : decode cX1_init 30 = .ok (.putfield 22, 3) := by decide +kernel
theorem dX1_init_33 : decode cX1_init 33 = .ok (.aload_n 0, 1) := by decide +kernel
theorem dX1_init_34 : decode cX1_init 34 = .ok (.bipush 100, 2) := by decide +kernel
theorem dX1_init_36 : decode cX1_init 36 = .ok (.newarray .int, 2) := by decide +kernel
theorem dX1_init_38 : decode cX1_init 38 = .ok (.putfield 25, 3) := by decide +kernel
theorem dX1_init_41 : decode cX1_init 41 = .ok (.aload_n 0, 1) := by decide +kernel
theorem dX1_init_42 : decode cX1_init 42 = .ok (.bipush 100, 2) := by decide +kernel
theorem dX1_init_44 : decode cX1_init 44 = .ok (.newarray .int, 2) := by decide +kernel
theorem dX1_init_46 : decode cX1_init 46 = .ok (.putfield 28, 3) := by decide +kernel
theorem dX1_init_49 : decode cX1_init 49 = .ok (.return_, 1) := by decide +kernel
theorem dX1_has_0 : decode cX1_has 0 = .ok (.iload_n 1, 1) := by decide +kernel
theorem dX1_has_1 : decode cX1_has 1 = .ok (.iconst 1, 1) := by decide +kernel
theorem dX1_has_2 : decode cX1_has 2 = .ok (.if_icmp .lt 21, 3) := by decide +kernel
theorem dX1_has_5 : decode cX1_has 5 = .ok (.iload_n 1, 1) := by decide +kernel
theorem dX1_has_6 : decode cX1_has 6 = .ok (.aload_n 0, 1) := by decide +kernel
theorem dX1_has_7 : decode cX1_has 7 = .ok (.getfield 9, 3) := by decide +kernel
theorem dX1_has_10 : decode cX1_has 10 = .ok (.if_icmp .gt 13, 3) := by decide +kernel
theorem dX1_has_13 : decode cX1_has 13 = .ok (.iload_n 1, 1) := by decide +kernel
theorem dX1_has_14 : decode cX1_has 14 = .ok (.bipush 100, 2) := by decide +kernel
theorem dX1_has_16 : decode cX1_has 16 = .ok (.if_icmp .gt 7, 3) := by decide +kernel
theorem dX1_has_19 : decode cX1_has 19 = .ok (.iconst 1, 1) := by decide +kernel
theorem dX1_has_20 : decode cX1_has 20 = .ok (.goto 4, 3) := by decide +kernel
theorem dX1_has_23 : decode cX1_has 23 = .ok (.iconst 0, 1) := by decide +kernel
theorem dX1_has_24 : decode cX1_has 24 = .ok (.ireturn, 1) := by decide +kernel
set_option maxRecDepth 20000 in
theorem ggX1_kindOf_X1_has : GoodIn wsX1_kindOf wsX1_has := goodIn_r _ [7, 8, 9, 10, 11, 12, 13, 14] (by decide +kernel) (by decide +kernel)
set_option maxRecDepth 20000 in
theorem gX1_kindOf_X1_has : GoodIn wsX1_kindOf (wsV RX1 31 RX1 yX1_has wsX1_has) := goodIn_app (goodIn_of _ (by decide +kernel)) ggX1_kindOf_X1_has
theorem dX1_kindOf_0 : decode cX1_kindOf 0 = .ok (.aload_n 0, 1) := by decide +kernel
theorem dX1_kindOf_1 : decode cX1_kindOf 1 = .ok (.iload_n 1, 1) := by decide +kernel
theorem dX1_kindOf_2 : decode cX1_kindOf 2 = .ok (.invokevirtual 31, 3) := by decide +kernel
theorem dX1_kindOf_5 : decode cX1_kindOf 5 = .ok (.ifCond .eq 14, 3) := by decide +kernel
theorem dX1_kindOf_8 : decode cX1_kindOf 8 = .ok (.aload_n 0, 1) := by decide +kernel
theorem dX1_kindOf_9 : decode cX1_kindOf 9 = .ok (.getfield 15, 3) := by decide +kernel
theorem dX1_kindOf_12 : decode cX1_kindOf 12 = .ok (.iload_n 1, 1) := by decide +kernel
theorem dX1_kindOf_13 : decode cX1_kindOf 13 = .ok (.iconst 1, 1) := by decide +kernel
theorem dX1_kindOf_14 : decode cX1_kindOf 14 = .ok (.isub, 1) := by decide +kernel
theorem dX1_kindOf_15 : decode cX1_kindOf 15 = .ok (.iaload, 1) := by decide +kernel
theorem dX1_kindOf_16 : decode cX1_kindOf 16 = .ok (.goto 5, 3) := by decide +kernel
theorem dX1_kindOf_19 : decode cX1_kindOf 19 = .ok (.ldc 35, 2) := by decide +kernel
theorem dX1_kindOf_21 : decode cX1_kindOf 21 = .ok (.ireturn, 1) := by decide +kernel
set_option maxRecDepth 20000 in
theorem ggX1_transactionOf_X1_has : GoodIn wsX1_transactionOf wsX1_has := goodIn_r _ [7, 8, 9, 10, 11, 12, 13, 14] (by decide +kernel) (by decide +kernel)
set_option maxRecDepth 20000 in
theorem gX1_transactionOf_X1_has : GoodIn wsX1_transactionOf (wsV RX1 31 RX1 yX1_has wsX1_has) := goodIn_app (goodIn_of _ (by decide +kernel)) ggX1_transactionOf_X1_has
theorem dX1_transactionOf_0 : decode cX1_transactionOf 0 = .ok (.aload_n 0, 1) := by decide +kernel
theorem dX1_transactionOf_1 : decode cX1_transactionOf 1 = .ok (.iload_n 1, 1) := by decide +kernel
theorem dX1_transactionOf_2 : decode cX1_transactionOf 2 = .ok (.invokevirtual 31, 3) := by decide +kernel
theorem dX1_transactionOf_5 : decode cX1_transactionOf 5 = .ok (.ifCond .eq 14, 3) := by decide +kernel
theorem dX1_transactionOf_8 : decode cX1_transactionOf 8 = .ok (.aload_n 0, 1) := by decide +kernel
theorem dX1_transactionOf_9 : decode cX1_transactionOf 9 = .ok (.getfield 19, 3) := by decide +kernel
theorem dX1_transactionOf_12 : decode cX1_transactionOf 12 = .ok (.iload_n 1, 1) := by decide +kernel
theorem dX1_transactionOf_13 : decode cX1_transactionOf 13 = .ok (.iconst 1, 1) := by decide +kernel
theorem dX1_transactionOf_14 : decode cX1_transactionOf 14 = .ok (.isub, 1) := by decide +kernel
theorem dX1_transactionOf_15 : decode cX1_transactionOf 15 = .ok (.iaload, 1) := by decide +kernel
theorem dX1_transactionOf_16 : decode cX1_transactionOf 16 = .ok (.goto 5, 3) := by decide +kernel
theorem dX1_transactionOf_19 : decode cX1_transactionOf 19 = .ok (.ldc 35, 2) := by decide +kernel
theorem dX1_transactionOf_21 : decode cX1_transactionOf 21 = .ok (.ireturn, 1) := by decide +kernel
set_option maxRecDepth 20000 in
theorem ggX1_keyOf_X1_has : GoodIn wsX1_keyOf wsX1_has := goodIn_r _ [7, 8, 9, 10, 11, 12, 13, 14] (by decide +kernel) (by decide +kernel)
set_option maxRecDepth 20000 in
theorem gX1_keyOf_X1_has : GoodIn wsX1_keyOf (wsV RX1 31 RX1 yX1_has wsX1_has) := goodIn_app (goodIn_of _ (by decide +kernel)) ggX1_keyOf_X1_has
theorem dX1_keyOf_0 : decode cX1_keyOf 0 = .ok (.aload_n 0, 1) := by decide +kernel
theorem dX1_keyOf_1 : decode cX1_keyOf 1 = .ok (.iload_n 1, 1) := by decide +kernel
theorem dX1_keyOf_2 : decode cX1_keyOf 2 = .ok (.invokevirtual 31, 3) := by decide +kernel
theorem dX1_keyOf_5 : decode cX1_keyOf 5 = .ok (.ifCond .eq 14, 3) := by decide +kernel
theorem dX1_keyOf_8 : decode cX1_keyOf 8 = .ok (.aload_n 0, 1) := by decide +kernel
theorem dX1_keyOf_9 : decode cX1_keyOf 9 = .ok (.getfield 22, 3) := by decide +kernel
theorem dX1_keyOf_12 : decode cX1_keyOf 12 = .ok (.iload_n 1, 1) := by decide +kernel
theorem dX1_keyOf_13 : decode cX1_keyOf 13 = .ok (.iconst 1, 1) := by decide +kernel
theorem dX1_keyOf_14 : decode cX1_keyOf 14 = .ok (.isub, 1) := by decide +kernel
theorem dX1_keyOf_15 : decode cX1_keyOf 15 = .ok (.iaload, 1) := by decide +kernel
theorem dX1_keyOf_16 : decode cX1_keyOf 16 = .ok (.goto 5, 3) := by decide +kernel
theorem dX1_keyOf_19 : decode cX1_keyOf 19 = .ok (.ldc 35, 2) := by decide +kernel
theorem dX1_keyOf_21 : decode cX1_keyOf 21 = .ok (.ireturn, 1) := by decide +kernel
set_option maxRecDepth 20000 in
theorem ggX1_valueIn_X1_has : GoodIn wsX1_valueIn wsX1_has := goodIn_r _ [7, 8, 9, 10, 11, 12, 13, 14] (by decide +kernel) (by decide +kernel)
set_option maxRecDepth 20000 in
theorem gX1_valueIn_X1_has : GoodIn wsX1_valueIn (wsV RX1 31 RX1 yX1_has wsX1_has) := goodIn_app (goodIn_of _ (by decide +kernel)) ggX1_valueIn_X1_has
theorem dX1_valueIn_0 : decode cX1_valueIn 0 = .ok (.aload_n 0, 1) := by decide +kernel
theorem dX1_valueIn_1 : decode cX1_valueIn 1 = .ok (.iload_n 1, 1) := by decide +kernel
theorem dX1_valueIn_2 : decode cX1_valueIn 2 = .ok (.invokevirtual 31, 3) := by decide +kernel
theorem dX1_valueIn_5 : decode cX1_valueIn 5 = .ok (.ifCond .eq 14, 3) := by decide +kernel
theorem dX1_valueIn_8 : decode cX1_valueIn 8 = .ok (.aload_n 0, 1) := by decide +kernel
theorem dX1_valueIn_9 : decode cX1_valueIn 9 = .ok (.getfield 25, 3) := by decide +kernel
theorem dX1_valueIn_12 : decode cX1_valueIn 12 = .ok (.iload_n 1, 1) := by decide +kernel
theorem dX1_valueIn_13 : decode cX1_valueIn 13 = .ok (.iconst 1, 1) := by decide +kernel
theorem dX1_valueIn_14 : decode cX1_valueIn 14 = .ok (.isub, 1) := by decide +kernel
theorem dX1_valueIn_15 : decode cX1_valueIn 15 = .ok (.iaload, 1) := by decide +kernel
theorem dX1_valueIn_16 : decode cX1_valueIn 16 = .ok (.goto 5, 3) := by decide +kernel
theorem dX1_valueIn_19 : decode cX1_valueIn 19 = .ok (.ldc 35, 2) := by decide +kernel
theorem dX1_valueIn_21 : decode cX1_valueIn 21 = .ok (.ireturn, 1) := by decide +kernel
set_option maxRecDepth 20000 in
theorem ggX1_tickOf_X1_has : GoodIn wsX1_tickOf wsX1_has := goodIn_r _ [7, 8, 9, 10, 11, 12, 13, 14] (by decide +kernel) (by decide +kernel)
set_option maxRecDepth 20000 in
theorem gX1_tickOf_X1_has : GoodIn wsX1_tickOf (wsV RX1 31 RX1 yX1_has wsX1_has) := goodIn_app (goodIn_of _ (by decide +kernel)) ggX1_tickOf_X1_has
theorem dX1_tickOf_0 : decode cX1_tickOf 0 = .ok (.aload_n 0, 1) := by decide +kernel
theorem dX1_tickOf_1 : decode cX1_tickOf 1 = .ok (.iload_n 1, 1) := by decide +kernel
theorem dX1_tickOf_2 : decode cX1_tickOf 2 = .ok (.invokevirtual 31, 3) := by decide +kernel
theorem dX1_tickOf_5 : decode cX1_tickOf 5 = .ok (.ifCond .eq 14, 3) := by decide +kernel
theorem dX1_tickOf_8 : decode cX1_tickOf 8 = .ok (.aload_n 0, 1) := by decide +kernel
theorem dX1_tickOf_9 : decode cX1_tickOf 9 = .ok (.getfield 28, 3) := by decide +kernel
theorem dX1_tickOf_12 : decode cX1_tickOf 12 = .ok (.iload_n 1, 1) := by decide +kernel
theorem dX1_tickOf_13 : decode cX1_tickOf 13 = .ok (.iconst 1, 1) := by decide +kernel
theorem dX1_tickOf_14 : decode cX1_tickOf 14 = .ok (.isub, 1) := by decide +kernel
theorem dX1_tickOf_15 : decode cX1_tickOf 15 = .ok (.iaload, 1) := by decide +kernel
theorem dX1_tickOf_16 : decode cX1_tickOf 16 = .ok (.goto 5, 3) := by decide +kernel
theorem dX1_tickOf_19 : decode cX1_tickOf 19 = .ok (.ldc 35, 2) := by decide +kernel
theorem dX1_tickOf_21 : decode cX1_tickOf 21 = .ok (.ireturn, 1) := by decide +kernel
theorem dX1_append_0 : decode cX1_append 0 = .ok (.aload_n 0, 1) := by decide +kernel
theorem dX1_append_1 : decode cX1_append 1 = .ok (.getfield 9, 3) := by decide +kernel
theorem dX1_append_4 : decode cX1_append 4 = .ok (.istore 6, 2) := by decide +kernel
theorem dX1_append_6 : decode cX1_append 6 = .ok (.iload 6, 2) := by decide +kernel
theorem dX1_append_8 : decode cX1_append 8 = .ok (.ifCond .lt 10, 3) := by decide +kernel
theorem dX1_append_11 : decode cX1_append 11 = .ok (.iload 6, 2) := by decide +kernel
theorem dX1_append_13 : decode cX1_append 13 = .ok (.bipush 100, 2) := by decide +kernel
theorem dX1_append_15 : decode cX1_append 15 = .ok (.if_icmp .lt 6, 3) := by decide +kernel
theorem dX1_append_18 : decode cX1_append 18 = .ok (.ldc 36, 2) := by decide +kernel
theorem dX1_append_20 : decode cX1_append 20 = .ok (.ireturn, 1) := by decide +kernel
theorem dX1_append_21 : decode cX1_append 21 = .ok (.aload_n 0, 1) := by decide +kernel
theorem dX1_append_22 : decode cX1_append 22 = .ok (.getfield 15, 3) := by decide +kernel
theorem dX1_append_25 : decode cX1_append 25 = .ok (.iload 6, 2) := by decide +kernel
theorem dX1_append_27 : decode cX1_append 27 = .ok (.iload_n 1, 1) := by decide +kernel
theorem dX1_append_28 : decode cX1_append 28 = .ok (.iastore, 1) := by decide +kernel
theorem dX1_append_29 : decode cX1_append 29 = .ok (.aload_n 0, 1) := by decide +kernel
theorem dX1_append_30 : decode cX1_append 30 = .ok (.getfield 19, 3) := by decide +kernel
theorem dX1_append_33 : decode cX1_append 33 = .ok (.iload 6, 2) := by decide +kernel
theorem dX1_append_35 : decode cX1_append 35 = .ok (.iload_n 2, 1) := by decide +kernel
theorem dX1_append_36 : decode cX1_append 36 = .ok (.iastore, 1) := by decide +kernel
theorem dX1_append_37 : decode cX1_append 37 = .ok (.aload_n 0, 1) := by decide +kernel
theorem dX1_append_38 : decode cX1_append 38 = .ok (.getfield 22, 3) := by decide +kernel
theorem dX1_append_41 : decode cX1_append 41 = .ok (.iload 6, 2) := by decide +kernel
theorem dX1_append_43 : decode cX1_append 43 = .ok (.iload_n 3, 1) := by decide +kernel
theorem dX1_append_44 : decode cX1_append 44 = .ok (.iastore, 1) := by decide +kernel
theorem dX1_append_45 : decode cX1_append 45 = .ok (.aload_n 0, 1) := by decide +kernel
theorem dX1_append_46 : decode cX1_append 46 = .ok (.getfield 25, 3) := by decide +kernel
theorem dX1_append_49 : decode cX1_append 49 = .ok (.iload 6, 2) := by decide +kernel
theorem dX1_append_51 : decode cX1_append 51 = .ok (.iload 4, 2) := by decide +kernel
theorem dX1_append_53 : decode cX1_append 53 = .ok (.iastore, 1) := by decide +kernel
theorem dX1_append_54 : decode cX1_append 54 = .ok (.aload_n 0, 1) := by decide +kernel
theorem dX1_append_55 : decode cX1_append 55 = .ok (.getfield 28, 3) := by decide +kernel
theorem dX1_append_58 : decode cX1_append 58 = .ok (.iload 6, 2) := by decide +kernel
theorem dX1_append_60 : decode cX1_append 60 = .ok (.iload 5, 2) := by decide +kernel
theorem dX1_append_62 : decode cX1_append 62 = .ok (.iastore, 1) := by decide +kernel
theorem dX1_append_63 : decode cX1_append 63 = .ok (.aload_n 0, 1) := by decide +kernel
theorem dX1_append_64 : decode cX1_append 64 = .ok (.iload 6, 2) := by decide +kernel
theorem dX1_append_66 : decode cX1_append 66 = .ok (.iconst 1, 1) := by decide +kernel
theorem dX1_append_67 : decode cX1_append 67 = .ok (.iadd, 1) := by decide +kernel
theorem dX1_append_68 : decode cX1_append 68 = .ok (.putfield 9, 3) := by decide +kernel
theorem dX1_append_71 : decode cX1_append 71 = .ok (.aload_n 0, 1) := by decide +kernel
theorem dX1_append_72 : decode cX1_append 72 = .ok (.getfield 9, 3) := by decide +kernel
theorem dX1_append_75 : decode cX1_append 75 = .ok (.ireturn, 1) := by decide +kernel
set_option maxRecDepth 20000 in
theorem ggX1_commitsBehind_X1_kindOf : GoodIn wsX1_commitsBehind wsX1_kindOf := goodIn_r _ [6, 7, 8, 9, 10, 11, 5, 12, 1, 13, 14, 15, 16, 17, 18] (by decide +kernel) (by decide +kernel)
set_option maxRecDepth 20000 in
theorem gX1_commitsBehind_X1_kindOf : GoodIn wsX1_commitsBehind (wsV RX1 37 RX1 yX1_kindOf wsX1_kindOf) := goodIn_app (goodIn_of _ (by decide +kernel)) ggX1_commitsBehind_X1_kindOf
theorem dX1_commitsBehind_0 : decode cX1_commitsBehind 0 = .ok (.iconst 0, 1) := by decide +kernel
theorem dX1_commitsBehind_1 : decode cX1_commitsBehind 1 = .ok (.istore_n 2, 1) := by decide +kernel
theorem dX1_commitsBehind_2 : decode cX1_commitsBehind 2 = .ok (.iload_n 1, 1) := by decide +kernel
theorem dX1_commitsBehind_3 : decode cX1_commitsBehind 3 = .ok (.iconst 1, 1) := by decide +kernel
theorem dX1_commitsBehind_4 : decode cX1_commitsBehind 4 = .ok (.iadd, 1) := by decide +kernel
theorem dX1_commitsBehind_5 : decode cX1_commitsBehind 5 = .ok (.istore_n 3, 1) := by decide +kernel
theorem dX1_commitsBehind_6 : decode cX1_commitsBehind 6 = .ok (.iload_n 3, 1) := by decide +kernel
theorem dX1_commitsBehind_7 : decode cX1_commitsBehind 7 = .ok (.aload_n 0, 1) := by decide +kernel
theorem dX1_commitsBehind_8 : decode cX1_commitsBehind 8 = .ok (.getfield 9, 3) := by decide +kernel
theorem dX1_commitsBehind_11 : decode cX1_commitsBehind 11 = .ok (.if_icmp .gt 21, 3) := by decide +kernel
theorem dX1_commitsBehind_14 : decode cX1_commitsBehind 14 = .ok (.aload_n 0, 1) := by decide +kernel
theorem dX1_commitsBehind_15 : decode cX1_commitsBehind 15 = .ok (.iload_n 3, 1) := by decide +kernel
theorem dX1_commitsBehind_16 : decode cX1_commitsBehind 16 = .ok (.invokevirtual 37, 3) := by decide +kernel
theorem dX1_commitsBehind_19 : decode cX1_commitsBehind 19 = .ok (.iconst 1, 1) := by decide +kernel
theorem dX1_commitsBehind_20 : decode cX1_commitsBehind 20 = .ok (.if_icmp .ne 6, 3) := by decide +kernel
theorem dX1_commitsBehind_23 : decode cX1_commitsBehind 23 = .ok (.iinc 2 1, 3) := by decide +kernel
theorem dX1_commitsBehind_26 : decode cX1_commitsBehind 26 = .ok (.iinc 3 1, 3) := by decide +kernel
theorem dX1_commitsBehind_29 : decode cX1_commitsBehind 29 = .ok (.goto (-23), 3) := by decide +kernel
theorem dX1_commitsBehind_32 : decode cX1_commitsBehind 32 = .ok (.iload_n 2, 1) := by decide +kernel
theorem dX1_commitsBehind_33 : decode cX1_commitsBehind 33 = .ok (.ireturn, 1) := by decide +kernel
set_option maxRecDepth 20000 in
theorem ggX1_putsOf_X1_isPutOf : GoodIn wsX1_putsOf wsX1_isPutOf := goodIn_r _ [6, 7, 8, 9, 5, 10, 11, 12, 13, 14, 15, 16, 1, 17, 18, 19, 20, 21, 22, 23, 24, 25, 26, 27] (by decide +kernel) (by decide +kernel)
set_option maxRecDepth 20000 in
theorem gX1_putsOf_X1_isPutOf : GoodIn wsX1_putsOf (wsV RX1 41 RX1 yX1_isPutOf wsX1_isPutOf) := goodIn_app (goodIn_of _ (by decide +kernel)) ggX1_putsOf_X1_isPutOf
theorem dX1_putsOf_0 : decode cX1_putsOf 0 = .ok (.iconst 0, 1) := by decide +kernel
theorem dX1_putsOf_1 : decode cX1_putsOf 1 = .ok (.istore_n 2, 1) := by decide +kernel
theorem dX1_putsOf_2 : decode cX1_putsOf 2 = .ok (.iconst 1, 1) := by decide +kernel
theorem dX1_putsOf_3 : decode cX1_putsOf 3 = .ok (.istore_n 3, 1) := by decide +kernel
theorem dX1_putsOf_4 : decode cX1_putsOf 4 = .ok (.iload_n 3, 1) := by decide +kernel
theorem dX1_putsOf_5 : decode cX1_putsOf 5 = .ok (.aload_n 0, 1) := by decide +kernel
theorem dX1_putsOf_6 : decode cX1_putsOf 6 = .ok (.getfield 9, 3) := by decide +kernel
theorem dX1_putsOf_9 : decode cX1_putsOf 9 = .ok (.if_icmp .gt 21, 3) := by decide +kernel
theorem dX1_putsOf_12 : decode cX1_putsOf 12 = .ok (.aload_n 0, 1) := by decide +kernel
theorem dX1_putsOf_13 : decode cX1_putsOf 13 = .ok (.iload_n 3, 1) := by decide +kernel
theorem dX1_putsOf_14 : decode cX1_putsOf 14 = .ok (.iload_n 1, 1) := by decide +kernel
theorem dX1_putsOf_15 : decode cX1_putsOf 15 = .ok (.invokevirtual 41, 3) := by decide +kernel
theorem dX1_putsOf_18 : decode cX1_putsOf 18 = .ok (.ifCond .eq 6, 3) := by decide +kernel
theorem dX1_putsOf_21 : decode cX1_putsOf 21 = .ok (.iinc 2 1, 3) := by decide +kernel
theorem dX1_putsOf_24 : decode cX1_putsOf 24 = .ok (.iinc 3 1, 3) := by decide +kernel
theorem dX1_putsOf_27 : decode cX1_putsOf 27 = .ok (.goto (-23), 3) := by decide +kernel
theorem dX1_putsOf_30 : decode cX1_putsOf 30 = .ok (.iload_n 2, 1) := by decide +kernel
theorem dX1_putsOf_31 : decode cX1_putsOf 31 = .ok (.ireturn, 1) := by decide +kernel
set_option maxRecDepth 20000 in
theorem ggX1_isPutOf_X1_transactionOf : GoodIn wsX1_isPutOf wsX1_transactionOf := goodIn_r _ [5, 6, 7, 8, 9, 10, 4, 11, 12, 18, 19, 20, 21, 22, 23] (by decide +kernel) (by decide +kernel)
set_option maxRecDepth 20000 in
theorem gX1_isPutOf_X1_transactionOf : GoodIn wsX1_isPutOf (wsV RX1 45 RX1 yX1_transactionOf wsX1_transactionOf) := goodIn_app (goodIn_of _ (by decide +kernel)) ggX1_isPutOf_X1_transactionOf
set_option maxRecDepth 20000 in
theorem ggX1_isPutOf_X1_kindOf : GoodIn wsX1_isPutOf wsX1_kindOf := goodIn_r _ [16, 17, 7, 8, 9, 10, 4, 11, 12, 18, 19, 20, 21, 22, 23] (by decide +kernel) (by decide +kernel)
set_option maxRecDepth 20000 in
theorem gX1_isPutOf_X1_kindOf : GoodIn wsX1_isPutOf (wsV RX1 37 RX1 yX1_kindOf wsX1_kindOf) := goodIn_app (goodIn_of _ (by decide +kernel)) ggX1_isPutOf_X1_kindOf
theorem dX1_isPutOf_0 : decode cX1_isPutOf 0 = .ok (.aload_n 0, 1) := by decide +kernel
theorem dX1_isPutOf_1 : decode cX1_isPutOf 1 = .ok (.iload_n 1, 1) := by decide +kernel
theorem dX1_isPutOf_2 : decode cX1_isPutOf 2 = .ok (.invokevirtual 45, 3) := by decide +kernel
theorem dX1_isPutOf_5 : decode cX1_isPutOf 5 = .ok (.iload_n 2, 1) := by decide +kernel
theorem dX1_isPutOf_6 : decode cX1_isPutOf 6 = .ok (.if_icmp .ne 15, 3) := by decide +kernel
theorem dX1_isPutOf_9 : decode cX1_isPutOf 9 = .ok (.aload_n 0, 1) := by decide +kernel
theorem dX1_isPutOf_10 : decode cX1_isPutOf 10 = .ok (.iload_n 1, 1) := by decide +kernel
theorem dX1_isPutOf_11 : decode cX1_isPutOf 11 = .ok (.invokevirtual 37, 3) := by decide +kernel
theorem dX1_isPutOf_14 : decode cX1_isPutOf 14 = .ok (.ifCond .ne 7, 3) := by decide +kernel
theorem dX1_isPutOf_17 : decode cX1_isPutOf 17 = .ok (.iconst 1, 1) := by decide +kernel
theorem dX1_isPutOf_18 : decode cX1_isPutOf 18 = .ok (.goto 4, 3) := by decide +kernel
theorem dX1_isPutOf_21 : decode cX1_isPutOf 21 = .ok (.iconst 0, 1) := by decide +kernel
theorem dX1_isPutOf_22 : decode cX1_isPutOf 22 = .ok (.ireturn, 1) := by decide +kernel
set_option maxRecDepth 20000 in
theorem ggX1_lastPut_X1_isPutOf : GoodIn wsX1_lastPut wsX1_isPutOf := goodIn_r _ [5, 6, 7, 8, 4, 9, 10, 11, 12, 13, 14, 15, 16, 17, 18, 19, 20, 21, 27, 28, 29, 30, 31, 32] (by decide +kernel) (by decide +kernel)
set_option maxRecDepth 20000 in
theorem gX1_lastPut_X1_isPutOf : GoodIn wsX1_lastPut (wsV RX1 41 RX1 yX1_isPutOf wsX1_isPutOf) := goodIn_app (goodIn_of _ (by decide +kernel)) ggX1_lastPut_X1_isPutOf
set_option maxRecDepth 20000 in
theorem ggX1_lastPut_X1_keyOf : GoodIn wsX1_lastPut wsX1_keyOf := goodIn_r _ [25, 26, 11, 12, 13, 14, 4, 15, 16, 27, 28, 29, 30, 31, 32] (by decide +kernel) (by decide +kernel)
set_option maxRecDepth 20000 in
theorem gX1_lastPut_X1_keyOf : GoodIn wsX1_lastPut (wsV RX1 48 RX1 yX1_keyOf wsX1_keyOf) := goodIn_app (goodIn_of _ (by decide +kernel)) ggX1_lastPut_X1_keyOf
theorem dX1_lastPut_0 : decode cX1_lastPut 0 = .ok (.iload_n 3, 1) := by decide +kernel
theorem dX1_lastPut_1 : decode cX1_lastPut 1 = .ok (.istore 4, 2) := by decide +kernel
theorem dX1_lastPut_3 : decode cX1_lastPut 3 = .ok (.iload 4, 2) := by decide +kernel
theorem dX1_lastPut_5 : decode cX1_lastPut 5 = .ok (.iconst 1, 1) := by decide +kernel
theorem dX1_lastPut_6 : decode cX1_lastPut 6 = .ok (.if_icmp .lt 32, 3) := by decide +kernel
theorem dX1_lastPut_9 : decode cX1_lastPut 9 = .ok (.aload_n 0, 1) := by decide +kernel
theorem dX1_lastPut_10 : decode cX1_lastPut 10 = .ok (.iload 4, 2) := by decide +kernel
theorem dX1_lastPut_12 : decode cX1_lastPut 12 = .ok (.iload_n 1, 1) := by decide +kernel
theorem dX1_lastPut_13 : decode cX1_lastPut 13 = .ok (.invokevirtual 41, 3) := by decide +kernel
theorem dX1_lastPut_16 : decode cX1_lastPut 16 = .ok (.ifCond .eq 16, 3) := by decide +kernel
theorem dX1_lastPut_19 : decode cX1_lastPut 19 = .ok (.aload_n 0, 1) := by decide +kernel
theorem dX1_lastPut_20 : decode cX1_lastPut 20 = .ok (.iload 4, 2) := by decide +kernel
theorem dX1_lastPut_22 : decode cX1_lastPut 22 = .ok (.invokevirtual 48, 3) := by decide +kernel
theorem dX1_lastPut_25 : decode cX1_lastPut 25 = .ok (.iload_n 2, 1) := by decide +kernel
theorem dX1_lastPut_26 : decode cX1_lastPut 26 = .ok (.if_icmp .ne 6, 3) := by decide +kernel
theorem dX1_lastPut_29 : decode cX1_lastPut 29 = .ok (.iload 4, 2) := by decide +kernel
theorem dX1_lastPut_31 : decode cX1_lastPut 31 = .ok (.ireturn, 1) := by decide +kernel
theorem dX1_lastPut_32 : decode cX1_lastPut 32 = .ok (.iinc 4 (-1), 3) := by decide +kernel
theorem dX1_lastPut_35 : decode cX1_lastPut 35 = .ok (.goto (-32), 3) := by decide +kernel
theorem dX1_lastPut_38 : decode cX1_lastPut 38 = .ok (.iconst 0, 1) := by decide +kernel
theorem dX1_lastPut_39 : decode cX1_lastPut 39 = .ok (.ireturn, 1) := by decide +kernel
set_option maxRecDepth 20000 in
theorem ggX1_lastCommit_X1_kindOf : GoodIn wsX1_lastCommit wsX1_kindOf := goodIn_r _ [5, 6, 7, 8, 9, 10, 4, 11, 12, 31, 32, 33, 34, 35, 36] (by decide +kernel) (by decide +kernel)
set_option maxRecDepth 20000 in
theorem gX1_lastCommit_X1_kindOf : GoodIn wsX1_lastCommit (wsV RX1 37 RX1 yX1_kindOf wsX1_kindOf) := goodIn_app (goodIn_of _ (by decide +kernel)) ggX1_lastCommit_X1_kindOf
set_option maxRecDepth 20000 in
theorem ggX1_lastCommit_X1_transactionOf : GoodIn wsX1_lastCommit wsX1_transactionOf := goodIn_r _ [16, 17, 7, 8, 9, 10, 4, 11, 12, 31, 32, 33, 34, 35, 36] (by decide +kernel) (by decide +kernel)
set_option maxRecDepth 20000 in
theorem gX1_lastCommit_X1_transactionOf : GoodIn wsX1_lastCommit (wsV RX1 45 RX1 yX1_transactionOf wsX1_transactionOf) := goodIn_app (goodIn_of _ (by decide +kernel)) ggX1_lastCommit_X1_transactionOf
set_option maxRecDepth 20000 in
theorem ggX1_lastCommit_X1_lastPut : GoodIn wsX1_lastCommit wsX1_lastPut := goodIn_r _ [21, 22, 23, 24, 4, 25, 13, 14, 15, 16, 17, 7, 8, 9, 10, 11, 12, 1, 2, 3, 5, 6, 26, 27, 28, 29, 30, 31, 32, 33, 34, 35, 36] (by decide +kernel) (by decide +kernel)
set_option maxRecDepth 20000 in
theorem gX1_lastCommit_X1_lastPut : GoodIn wsX1_lastCommit (wsV RX1 51 RX1 yX1_lastPut wsX1_lastPut) := goodIn_app (goodIn_of _ (by decide +kernel)) ggX1_lastCommit_X1_lastPut
theorem dX1_lastCommit_0 : decode cX1_lastCommit 0 = .ok (.iload_n 2, 1) := by decide +kernel
theorem dX1_lastCommit_1 : decode cX1_lastCommit 1 = .ok (.istore_n 3, 1) := by decide +kernel
theorem dX1_lastCommit_2 : decode cX1_lastCommit 2 = .ok (.iload_n 3, 1) := by decide +kernel
theorem dX1_lastCommit_3 : decode cX1_lastCommit 3 = .ok (.iconst 1, 1) := by decide +kernel
theorem dX1_lastCommit_4 : decode cX1_lastCommit 4 = .ok (.if_icmp .lt 34, 3) := by decide +kernel
theorem dX1_lastCommit_7 : decode cX1_lastCommit 7 = .ok (.aload_n 0, 1) := by decide +kernel
theorem dX1_lastCommit_8 : decode cX1_lastCommit 8 = .ok (.iload_n 3, 1) := by decide +kernel
theorem dX1_lastCommit_9 : decode cX1_lastCommit 9 = .ok (.invokevirtual 37, 3) := by decide +kernel
theorem dX1_lastCommit_12 : decode cX1_lastCommit 12 = .ok (.iconst 1, 1) := by decide +kernel
theorem dX1_lastCommit_13 : decode cX1_lastCommit 13 = .ok (.if_icmp .ne 19, 3) := by decide +kernel
theorem dX1_lastCommit_16 : decode cX1_lastCommit 16 = .ok (.aload_n 0, 1) := by decide +kernel
theorem dX1_lastCommit_17 : decode cX1_lastCommit 17 = .ok (.aload_n 0, 1) := by decide +kernel
theorem dX1_lastCommit_18 : decode cX1_lastCommit 18 = .ok (.iload_n 3, 1) := by decide +kernel
theorem dX1_lastCommit_19 : decode cX1_lastCommit 19 = .ok (.invokevirtual 45, 3) := by decide +kernel
theorem dX1_lastCommit_22 : decode cX1_lastCommit 22 = .ok (.iload_n 1, 1) := by decide +kernel
theorem dX1_lastCommit_23 : decode cX1_lastCommit 23 = .ok (.iload_n 3, 1) := by decide +kernel
theorem dX1_lastCommit_24 : decode cX1_lastCommit 24 = .ok (.invokevirtual 51, 3) := by decide +kernel
theorem dX1_lastCommit_27 : decode cX1_lastCommit 27 = .ok (.ifCond .eq 5, 3) := by decide +kernel
theorem dX1_lastCommit_30 : decode cX1_lastCommit 30 = .ok (.iload_n 3, 1) := by decide +kernel
theorem dX1_lastCommit_31 : decode cX1_lastCommit 31 = .ok (.ireturn, 1) := by decide +kernel
theorem dX1_lastCommit_32 : decode cX1_lastCommit 32 = .ok (.iinc 3 (-1), 3) := by decide +kernel
theorem dX1_lastCommit_35 : decode cX1_lastCommit 35 = .ok (.goto (-33), 3) := by decide +kernel
theorem dX1_lastCommit_38 : decode cX1_lastCommit 38 = .ok (.iconst 0, 1) := by decide +kernel
theorem dX1_lastCommit_39 : decode cX1_lastCommit 39 = .ok (.ireturn, 1) := by decide +kernel
set_option maxRecDepth 20000 in
theorem ggX1_valueAt_X1_lastCommit : GoodIn wsX1_valueAt wsX1_lastCommit := goodIn_r _ [5, 6, 7, 8, 4, 9, 10, 11, 12, 13, 14, 15, 16, 17, 18, 19, 20, 21, 22, 23, 24, 25, 26, 27, 28, 29, 30, 31, 32, 33, 34, 40, 41, 42, 43, 44, 45] (by decide +kernel) (by decide +kernel)
set_option maxRecDepth 20000 in
theorem gX1_valueAt_X1_lastCommit : GoodIn wsX1_valueAt (wsV RX1 55 RX1 yX1_lastCommit wsX1_lastCommit) := goodIn_app (goodIn_of _ (by decide +kernel)) ggX1_valueAt_X1_lastCommit
set_option maxRecDepth 20000 in
theorem ggX1_valueAt_X1_transactionOf : GoodIn wsX1_valueAt wsX1_transactionOf := goodIn_r _ [20, 21, 11, 12, 13, 14, 4, 15, 16, 40, 41, 42, 43, 44, 45] (by decide +kernel) (by decide +kernel)
set_option maxRecDepth 20000 in
theorem gX1_valueAt_X1_transactionOf : GoodIn wsX1_valueAt (wsV RX1 45 RX1 yX1_transactionOf wsX1_transactionOf) := goodIn_app (goodIn_of _ (by decide +kernel)) ggX1_valueAt_X1_transactionOf
set_option maxRecDepth 20000 in
theorem ggX1_valueAt_X1_lastPut : GoodIn wsX1_valueAt wsX1_lastPut := goodIn_r _ [25, 26, 27, 28, 4, 29, 17, 18, 19, 20, 21, 11, 12, 13, 14, 15, 16, 6, 7, 8, 9, 10, 30, 31, 32, 33, 34, 40, 41, 42, 43, 44, 45] (by decide +kernel) (by decide +kernel)
set_option maxRecDepth 20000 in
theorem gX1_valueAt_X1_lastPut : GoodIn wsX1_valueAt (wsV RX1 51 RX1 yX1_lastPut wsX1_lastPut) := goodIn_app (goodIn_of _ (by decide +kernel)) ggX1_valueAt_X1_lastPut
set_option maxRecDepth 20000 in
theorem ggX1_valueAt_X1_valueIn : GoodIn wsX1_valueAt wsX1_valueIn := goodIn_r _ [38, 39, 11, 12, 13, 14, 4, 15, 16, 40, 41, 42, 43, 44, 45] (by decide +kernel) (by decide +kernel)
set_option maxRecDepth 20000 in
theorem gX1_valueAt_X1_valueIn : GoodIn wsX1_valueAt (wsV RX1 59 RX1 yX1_valueIn wsX1_valueIn) := goodIn_app (goodIn_of _ (by decide +kernel)) ggX1_valueAt_X1_valueIn
theorem dX1_valueAt_0 : decode cX1_valueAt 0 = .ok (.aload_n 0, 1) := by decide +kernel
theorem dX1_valueAt_1 : decode cX1_valueAt 1 = .ok (.iload_n 1, 1) := by decide +kernel
theorem dX1_valueAt_2 : decode cX1_valueAt 2 = .ok (.iload_n 2, 1) := by decide +kernel
theorem dX1_valueAt_3 : decode cX1_valueAt 3 = .ok (.invokevirtual 55, 3) := by decide +kernel
theorem dX1_valueAt_6 : decode cX1_valueAt 6 = .ok (.istore_n 3, 1) := by decide +kernel
theorem dX1_valueAt_7 : decode cX1_valueAt 7 = .ok (.iload_n 3, 1) := by decide +kernel
theorem dX1_valueAt_8 : decode cX1_valueAt 8 = .ok (.ifCond .ne 5, 3) := by decide +kernel
theorem dX1_valueAt_11 : decode cX1_valueAt 11 = .ok (.iconst 0, 1) := by decide +kernel
theorem dX1_valueAt_12 : decode cX1_valueAt 12 = .ok (.ireturn, 1) := by decide +kernel
theorem dX1_valueAt_13 : decode cX1_valueAt 13 = .ok (.aload_n 0, 1) := by decide +kernel
theorem dX1_valueAt_14 : decode cX1_valueAt 14 = .ok (.aload_n 0, 1) := by decide +kernel
theorem dX1_valueAt_15 : decode cX1_valueAt 15 = .ok (.aload_n 0, 1) := by decide +kernel
theorem dX1_valueAt_16 : decode cX1_valueAt 16 = .ok (.iload_n 3, 1) := by decide +kernel
theorem dX1_valueAt_17 : decode cX1_valueAt 17 = .ok (.invokevirtual 45, 3) := by decide +kernel
theorem dX1_valueAt_20 : decode cX1_valueAt 20 = .ok (.iload_n 1, 1) := by decide +kernel
theorem dX1_valueAt_21 : decode cX1_valueAt 21 = .ok (.iload_n 3, 1) := by decide +kernel
theorem dX1_valueAt_22 : decode cX1_valueAt 22 = .ok (.invokevirtual 51, 3) := by decide +kernel
theorem dX1_valueAt_25 : decode cX1_valueAt 25 = .ok (.invokevirtual 59, 3) := by decide +kernel
theorem dX1_valueAt_28 : decode cX1_valueAt 28 = .ok (.ireturn, 1) := by decide +kernel
set_option maxRecDepth 20000 in
theorem ggX1_fillValues_X1_kindOf : GoodIn wsX1_fillValues wsX1_kindOf := goodIn_r _ [5, 6, 7, 8, 9, 10, 4, 11, 12, 39, 40, 41, 42, 43, 44] (by decide +kernel) (by decide +kernel)
set_option maxRecDepth 20000 in
theorem gX1_fillValues_X1_kindOf : GoodIn wsX1_fillValues (wsV RX1 37 RX1 yX1_kindOf wsX1_kindOf) := goodIn_app (goodIn_of _ (by decide +kernel)) ggX1_fillValues_X1_kindOf
set_option maxRecDepth 20000 in
theorem ggX1_fillValues_X1_transactionOf : GoodIn wsX1_fillValues wsX1_transactionOf := goodIn_r _ [16, 17, 7, 8, 9, 10, 4, 11, 12, 39, 40, 41, 42, 43, 44] (by decide +kernel) (by decide +kernel)
set_option maxRecDepth 20000 in
theorem gX1_fillValues_X1_transactionOf : GoodIn wsX1_fillValues (wsV RX1 45 RX1 yX1_transactionOf wsX1_transactionOf) := goodIn_app (goodIn_of _ (by decide +kernel)) ggX1_fillValues_X1_transactionOf
set_option maxRecDepth 20000 in
theorem ggX1_fillValues_X1_applyPuts : GoodIn wsX1_fillValues wsX1_applyPuts := goodIn_r _ [21, 22, 23, 24, 4, 25, 13, 14, 15, 16, 17, 7, 8, 9, 10, 11, 12, 1, 2, 3, 5, 6, 26, 27, 28, 29, 30, 31, 32, 33, 34, 35, 36, 37, 38, 39, 40, 41, 42, 43, 44] (by decide +kernel) (by decide +kernel)
set_option maxRecDepth 20000 in
theorem gX1_fillValues_X1_applyPuts : GoodIn wsX1_fillValues (wsV RX1 62 RX1 yX1_applyPuts wsX1_applyPuts) := goodIn_app (goodIn_of _ (by decide +kernel)) ggX1_fillValues_X1_applyPuts
theorem dX1_fillValues_0 : decode cX1_fillValues 0 = .ok (.iconst 0, 1) := by decide +kernel
theorem dX1_fillValues_1 : decode cX1_fillValues 1 = .ok (.istore_n 3, 1) := by decide +kernel
theorem dX1_fillValues_2 : decode cX1_fillValues 2 = .ok (.iload_n 3, 1) := by decide +kernel
theorem dX1_fillValues_3 : decode cX1_fillValues 3 = .ok (.aload_n 2, 1) := by decide +kernel
theorem dX1_fillValues_4 : decode cX1_fillValues 4 = .ok (.arraylength, 1) := by decide +kernel
theorem dX1_fillValues_5 : decode cX1_fillValues 5 = .ok (.if_icmp .ge 13, 3) := by decide +kernel
theorem dX1_fillValues_8 : decode cX1_fillValues 8 = .ok (.aload_n 2, 1) := by decide +kernel
theorem dX1_fillValues_9 : decode cX1_fillValues 9 = .ok (.iload_n 3, 1) := by decide +kernel
theorem dX1_fillValues_10 : decode cX1_fillValues 10 = .ok (.iconst 0, 1) := by decide +kernel
theorem dX1_fillValues_11 : decode cX1_fillValues 11 = .ok (.iastore, 1) := by decide +kernel
theorem dX1_fillValues_12 : decode cX1_fillValues 12 = .ok (.iinc 3 1, 3) := by decide +kernel
theorem dX1_fillValues_15 : decode cX1_fillValues 15 = .ok (.goto (-13), 3) := by decide +kernel
theorem dX1_fillValues_18 : decode cX1_fillValues 18 = .ok (.iconst 1, 1) := by decide +kernel
theorem dX1_fillValues_19 : decode cX1_fillValues 19 = .ok (.istore_n 3, 1) := by decide +kernel
theorem dX1_fillValues_20 : decode cX1_fillValues 20 = .ok (.iload_n 3, 1) := by decide +kernel
theorem dX1_fillValues_21 : decode cX1_fillValues 21 = .ok (.iload_n 1, 1) := by decide +kernel
theorem dX1_fillValues_22 : decode cX1_fillValues 22 = .ok (.if_icmp .gt 29, 3) := by decide +kernel
theorem dX1_fillValues_25 : decode cX1_fillValues 25 = .ok (.aload_n 0, 1) := by decide +kernel
theorem dX1_fillValues_26 : decode cX1_fillValues 26 = .ok (.iload_n 3, 1) := by decide +kernel
theorem dX1_fillValues_27 : decode cX1_fillValues 27 = .ok (.invokevirtual 37, 3) := by decide +kernel
theorem dX1_fillValues_30 : decode cX1_fillValues 30 = .ok (.iconst 1, 1) := by decide +kernel
theorem dX1_fillValues_31 : decode cX1_fillValues 31 = .ok (.if_icmp .ne 14, 3) := by decide +kernel
theorem dX1_fillValues_34 : decode cX1_fillValues 34 = .ok (.aload_n 0, 1) := by decide +kernel
theorem dX1_fillValues_35 : decode cX1_fillValues 35 = .ok (.aload_n 0, 1) := by decide +kernel
theorem dX1_fillValues_36 : decode cX1_fillValues 36 = .ok (.iload_n 3, 1) := by decide +kernel
theorem dX1_fillValues_37 : decode cX1_fillValues 37 = .ok (.invokevirtual 45, 3) := by decide +kernel
theorem dX1_fillValues_40 : decode cX1_fillValues 40 = .ok (.iload_n 3, 1) := by decide +kernel
theorem dX1_fillValues_41 : decode cX1_fillValues 41 = .ok (.aload_n 2, 1) := by decide +kernel
theorem dX1_fillValues_42 : decode cX1_fillValues 42 = .ok (.invokevirtual 62, 3) := by decide +kernel
theorem dX1_fillValues_45 : decode cX1_fillValues 45 = .ok (.iinc 3 1, 3) := by decide +kernel
theorem dX1_fillValues_48 : decode cX1_fillValues 48 = .ok (.goto (-28), 3) := by decide +kernel
theorem dX1_fillValues_51 : decode cX1_fillValues 51 = .ok (.return_, 1) := by decide +kernel
set_option maxRecDepth 20000 in
theorem ggX1_applyPuts_X1_isPutOf : GoodIn wsX1_applyPuts wsX1_isPutOf := goodIn_r _ [5, 6, 7, 8, 4, 9, 10, 11, 12, 13, 14, 15, 16, 17, 18, 19, 20, 21, 35, 36, 37, 38, 39, 40] (by decide +kernel) (by decide +kernel)
set_option maxRecDepth 20000 in
theorem gX1_applyPuts_X1_isPutOf : GoodIn wsX1_applyPuts (wsV RX1 41 RX1 yX1_isPutOf wsX1_isPutOf) := goodIn_app (goodIn_of _ (by decide +kernel)) ggX1_applyPuts_X1_isPutOf
set_option maxRecDepth 20000 in
theorem ggX1_applyPuts_X1_keyOf : GoodIn wsX1_applyPuts wsX1_keyOf := goodIn_r _ [25, 26, 11, 12, 13, 14, 4, 15, 16, 35, 36, 37, 38, 39, 40] (by decide +kernel) (by decide +kernel)
set_option maxRecDepth 20000 in
theorem gX1_applyPuts_X1_keyOf : GoodIn wsX1_applyPuts (wsV RX1 48 RX1 yX1_keyOf wsX1_keyOf) := goodIn_app (goodIn_of _ (by decide +kernel)) ggX1_applyPuts_X1_keyOf
set_option maxRecDepth 20000 in
theorem ggX1_applyPuts_X1_valueIn : GoodIn wsX1_applyPuts wsX1_valueIn := goodIn_r _ [30, 31, 11, 12, 13, 14, 4, 15, 16, 35, 36, 37, 38, 39, 40] (by decide +kernel) (by decide +kernel)
set_option maxRecDepth 20000 in
theorem gX1_applyPuts_X1_valueIn : GoodIn wsX1_applyPuts (wsV RX1 59 RX1 yX1_valueIn wsX1_valueIn) := goodIn_app (goodIn_of _ (by decide +kernel)) ggX1_applyPuts_X1_valueIn
set_option maxRecDepth 20000 in
theorem ggX1_applyPuts_X1_setValue : GoodIn wsX1_applyPuts wsX1_setValue := goodIn_r _ [34] (by decide +kernel) (by decide +kernel)
set_option maxRecDepth 20000 in
theorem gX1_applyPuts_X1_setValue : GoodIn wsX1_applyPuts (va_wsS RX1 66 yX1_setValue wsX1_setValue) := goodIn_app (goodIn_of _ (by decide +kernel)) ggX1_applyPuts_X1_setValue
theorem dX1_applyPuts_0 : decode cX1_applyPuts 0 = .ok (.iconst 1, 1) := by decide +kernel
theorem dX1_applyPuts_1 : decode cX1_applyPuts 1 = .ok (.istore 4, 2) := by decide +kernel
theorem dX1_applyPuts_3 : decode cX1_applyPuts 3 = .ok (.iload 4, 2) := by decide +kernel
theorem dX1_applyPuts_5 : decode cX1_applyPuts 5 = .ok (.iload_n 2, 1) := by decide +kernel
theorem dX1_applyPuts_6 : decode cX1_applyPuts 6 = .ok (.if_icmp .ge 35, 3) := by decide +kernel
theorem dX1_applyPuts_9 : decode cX1_applyPuts 9 = .ok (.aload_n 0, 1) := by decide +kernel
theorem dX1_applyPuts_10 : decode cX1_applyPuts 10 = .ok (.iload 4, 2) := by decide +kernel
theorem dX1_applyPuts_12 : decode cX1_applyPuts 12 = .ok (.iload_n 1, 1) := by decide +kernel
theorem dX1_applyPuts_13 : decode cX1_applyPuts 13 = .ok (.invokevirtual 41, 3) := by decide +kernel
theorem dX1_applyPuts_16 : decode cX1_applyPuts 16 = .ok (.ifCond .eq 19, 3) := by decide +kernel
theorem dX1_applyPuts_19 : decode cX1_applyPuts 19 = .ok (.aload_n 3, 1) := by decide +kernel
theorem dX1_applyPuts_20 : decode cX1_applyPuts 20 = .ok (.aload_n 0, 1) := by decide +kernel
theorem dX1_applyPuts_21 : decode cX1_applyPuts 21 = .ok (.iload 4, 2) := by decide +kernel
theorem dX1_applyPuts_23 : decode cX1_applyPuts 23 = .ok (.invokevirtual 48, 3) := by decide +kernel
theorem dX1_applyPuts_26 : decode cX1_applyPuts 26 = .ok (.aload_n 0, 1) := by decide +kernel
theorem dX1_applyPuts_27 : decode cX1_applyPuts 27 = .ok (.iload 4, 2) := by decide +kernel
theorem dX1_applyPuts_29 : decode cX1_applyPuts 29 = .ok (.invokevirtual 59, 3) := by decide +kernel
theorem dX1_applyPuts_32 : decode cX1_applyPuts 32 = .ok (.invokestatic 66, 3) := by decide +kernel
theorem dX1_applyPuts_35 : decode cX1_applyPuts 35 = .ok (.iinc 4 1, 3) := by decide +kernel
theorem dX1_applyPuts_38 : decode cX1_applyPuts 38 = .ok (.goto (-35), 3) := by decide +kernel
theorem dX1_applyPuts_41 : decode cX1_applyPuts 41 = .ok (.return_, 1) := by decide +kernel
theorem dX1_setValue_0 : decode cX1_setValue 0 = .ok (.iload_n 1, 1) := by decide +kernel
theorem dX1_setValue_1 : decode cX1_setValue 1 = .ok (.ifCond .lt 13, 3) := by decide +kernel
theorem dX1_setValue_4 : decode cX1_setValue 4 = .ok (.iload_n 1, 1) := by decide +kernel
theorem dX1_setValue_5 : decode cX1_setValue 5 = .ok (.aload_n 0, 1) := by decide +kernel
theorem dX1_setValue_6 : decode cX1_setValue 6 = .ok (.arraylength, 1) := by decide +kernel
theorem dX1_setValue_7 : decode cX1_setValue 7 = .ok (.if_icmp .ge 7, 3) := by decide +kernel
theorem dX1_setValue_10 : decode cX1_setValue 10 = .ok (.aload_n 0, 1) := by decide +kernel
theorem dX1_setValue_11 : decode cX1_setValue 11 = .ok (.iload_n 1, 1) := by decide +kernel
theorem dX1_setValue_12 : decode cX1_setValue 12 = .ok (.iload_n 2, 1) := by decide +kernel
theorem dX1_setValue_13 : decode cX1_setValue 13 = .ok (.iastore, 1) := by decide +kernel
theorem dX1_setValue_14 : decode cX1_setValue 14 = .ok (.return_, 1) := by decide +kernel
theorem dX1_copyFrom_0 : decode cX1_copyFrom 0 = .ok (.iconst 0, 1) := by decide +kernel
theorem dX1_copyFrom_1 : decode cX1_copyFrom 1 = .ok (.aload_n 1, 1) := by decide +kernel
theorem dX1_copyFrom_2 : decode cX1_copyFrom 2 = .ok (.getfield 9, 3) := by decide +kernel
theorem dX1_copyFrom_5 : decode cX1_copyFrom 5 = .ok (.bipush 100, 2) := by decide +kernel
theorem dX1_copyFrom_7 : decode cX1_copyFrom 7 = .ok (.invokestatic 70, 3) := by decide +kernel
theorem dX1_copyFrom_10 : decode cX1_copyFrom 10 = .ok (.invokestatic 75, 3) := by decide +kernel
theorem dX1_copyFrom_13 : decode cX1_copyFrom 13 = .ok (.istore_n 2, 1) := by decide +kernel
theorem dX1_copyFrom_14 : decode cX1_copyFrom 14 = .ok (.aload_n 1, 1) := by decide +kernel
theorem dX1_copyFrom_15 : decode cX1_copyFrom 15 = .ok (.getfield 15, 3) := by decide +kernel
theorem dX1_copyFrom_18 : decode cX1_copyFrom 18 = .ok (.iconst 0, 1) := by decide +kernel
theorem dX1_copyFrom_19 : decode cX1_copyFrom 19 = .ok (.aload_n 0, 1) := by decide +kernel
theorem dX1_copyFrom_20 : decode cX1_copyFrom 20 = .ok (.getfield 15, 3) := by decide +kernel
theorem dX1_copyFrom_23 : decode cX1_copyFrom 23 = .ok (.iconst 0, 1) := by decide +kernel
theorem dX1_copyFrom_24 : decode cX1_copyFrom 24 = .ok (.iload_n 2, 1) := by decide +kernel
theorem dX1_copyFrom_25 : decode cX1_copyFrom 25 = .ok (.invokestatic 78, 3) := by decide +kernel
theorem dX1_copyFrom_28 : decode cX1_copyFrom 28 = .ok (.aload_n 1, 1) := by decide +kernel
theorem dX1_copyFrom_29 : decode cX1_copyFrom 29 = .ok (.getfield 19, 3) := by decide +kernel
theorem dX1_copyFrom_32 : decode cX1_copyFrom 32 = .ok (.iconst 0, 1) := by decide +kernel
theorem dX1_copyFrom_33 : decode cX1_copyFrom 33 = .ok (.aload_n 0, 1) := by decide +kernel
theorem dX1_copyFrom_34 : decode cX1_copyFrom 34 = .ok (.getfield 19, 3) := by decide +kernel
theorem dX1_copyFrom_37 : decode cX1_copyFrom 37 = .ok (.iconst 0, 1) := by decide +kernel
theorem dX1_copyFrom_38 : decode cX1_copyFrom 38 = .ok (.iload_n 2, 1) := by decide +kernel
theorem dX1_copyFrom_39 : decode cX1_copyFrom 39 = .ok (.invokestatic 78, 3) := by decide +kernel
theorem dX1_copyFrom_42 : decode cX1_copyFrom 42 = .ok (.aload_n 1, 1) := by decide +kernel
theorem dX1_copyFrom_43 : decode cX1_copyFrom 43 = .ok (.getfield 22, 3) := by decide +kernel
theorem dX1_copyFrom_46 : decode cX1_copyFrom 46 = .ok (.iconst 0, 1) := by decide +kernel
theorem dX1_copyFrom_47 : decode cX1_copyFrom 47 = .ok (.aload_n 0, 1) := by decide +kernel
theorem dX1_copyFrom_48 : decode cX1_copyFrom 48 = .ok (.getfield 22, 3) := by decide +kernel
theorem dX1_copyFrom_51 : decode cX1_copyFrom 51 = .ok (.iconst 0, 1) := by decide +kernel
theorem dX1_copyFrom_52 : decode cX1_copyFrom 52 = .ok (.iload_n 2, 1) := by decide +kernel
theorem dX1_copyFrom_53 : decode cX1_copyFrom 53 = .ok (.invokestatic 78, 3) := by decide +kernel
theorem dX1_copyFrom_56 : decode cX1_copyFrom 56 = .ok (.aload_n 1, 1) := by decide +kernel
theorem dX1_copyFrom_57 : decode cX1_copyFrom 57 = .ok (.getfield 25, 3) := by decide +kernel
theorem dX1_copyFrom_60 : decode cX1_copyFrom 60 = .ok (.iconst 0, 1) := by decide +kernel
theorem dX1_copyFrom_61 : decode cX1_copyFrom 61 = .ok (.aload_n 0, 1) := by decide +kernel
theorem dX1_copyFrom_62 : decode cX1_copyFrom 62 = .ok (.getfield 25, 3) := by decide +kernel
theorem dX1_copyFrom_65 : decode cX1_copyFrom 65 = .ok (.iconst 0, 1) := by decide +kernel
theorem dX1_copyFrom_66 : decode cX1_copyFrom 66 = .ok (.iload_n 2, 1) := by decide +kernel
theorem dX1_copyFrom_67 : decode cX1_copyFrom 67 = .ok (.invokestatic 78, 3) := by decide +kernel
theorem dX1_copyFrom_70 : decode cX1_copyFrom 70 = .ok (.aload_n 1, 1) := by decide +kernel
theorem dX1_copyFrom_71 : decode cX1_copyFrom 71 = .ok (.getfield 28, 3) := by decide +kernel
theorem dX1_copyFrom_74 : decode cX1_copyFrom 74 = .ok (.iconst 0, 1) := by decide +kernel
theorem dX1_copyFrom_75 : decode cX1_copyFrom 75 = .ok (.aload_n 0, 1) := by decide +kernel
theorem dX1_copyFrom_76 : decode cX1_copyFrom 76 = .ok (.getfield 28, 3) := by decide +kernel
theorem dX1_copyFrom_79 : decode cX1_copyFrom 79 = .ok (.iconst 0, 1) := by decide +kernel
theorem dX1_copyFrom_80 : decode cX1_copyFrom 80 = .ok (.iload_n 2, 1) := by decide +kernel
theorem dX1_copyFrom_81 : decode cX1_copyFrom 81 = .ok (.invokestatic 78, 3) := by decide +kernel
theorem dX1_copyFrom_84 : decode cX1_copyFrom 84 = .ok (.aload_n 0, 1) := by decide +kernel
theorem dX1_copyFrom_85 : decode cX1_copyFrom 85 = .ok (.iload_n 2, 1) := by decide +kernel
theorem dX1_copyFrom_86 : decode cX1_copyFrom 86 = .ok (.putfield 9, 3) := by decide +kernel
theorem dX1_copyFrom_89 : decode cX1_copyFrom 89 = .ok (.return_, 1) := by decide +kernel
theorem dX2_init_0 : decode cX2_init 0 = .ok (.aload_n 0, 1) := by decide +kernel
theorem dX2_init_1 : decode cX2_init 1 = .ok (.invokespecial 3, 3) := by decide +kernel
theorem dX2_init_4 : decode cX2_init 4 = .ok (.aload_n 0, 1) := by decide +kernel
theorem dX2_init_5 : decode cX2_init 5 = .ok (.bipush 60, 2) := by decide +kernel
theorem dX2_init_7 : decode cX2_init 7 = .ok (.newarray .char, 2) := by decide +kernel
theorem dX2_init_9 : decode cX2_init 9 = .ok (.putfield 9, 3) := by decide +kernel
theorem dX2_init_12 : decode cX2_init 12 = .ok (.aload_n 0, 1) := by decide +kernel
theorem dX2_init_13 : decode cX2_init 13 = .ok (.iconst 0, 1) := by decide +kernel
theorem dX2_init_14 : decode cX2_init 14 = .ok (.putfield 15, 3) := by decide +kernel
theorem dX2_init_17 : decode cX2_init 17 = .ok (.aload_n 0, 1) := by decide +kernel
theorem dX2_init_18 : decode cX2_init 18 = .ok (.iconst 0, 1) := by decide +kernel
theorem dX2_init_19 : decode cX2_init 19 = .ok (.putfield 19, 3) := by decide +kernel
theorem dX2_init_22 : decode cX2_init 22 = .ok (.aload_n 0, 1) := by decide +kernel
theorem dX2_init_23 : decode cX2_init 23 = .ok (.iconst 0, 1) := by decide +kernel
theorem dX2_init_24 : decode cX2_init 24 = .ok (.putfield 22, 3) := by decide +kernel
theorem dX2_init_27 : decode cX2_init 27 = .ok (.aload_n 0, 1) := by decide +kernel
theorem dX2_init_28 : decode cX2_init 28 = .ok (.iconst 3, 1) := by decide +kernel
theorem dX2_init_29 : decode cX2_init 29 = .ok (.newarray .int, 2) := by decide +kernel
theorem dX2_init_31 : decode cX2_init 31 = .ok (.putfield 25, 3) := by decide +kernel
theorem dX2_init_34 : decode cX2_init 34 = .ok (.aload_n 0, 1) := by decide +kernel
theorem dX2_init_35 : decode cX2_init 35 = .ok (.iconst 0, 1) := by decide +kernel
theorem dX2_init_36 : decode cX2_init 36 = .ok (.putfield 29, 3) := by decide +kernel
theorem dX2_init_39 : decode cX2_init 39 = .ok (.return_, 1) := by decide +kernel
theorem dX2_append_0 : decode cX2_append 0 = .ok (.aload_n 0, 1) := by decide +kernel
theorem dX2_append_1 : decode cX2_append 1 = .ok (.getfield 15, 3) := by decide +kernel
theorem dX2_append_4 : decode cX2_append 4 = .ok (.ifCond .lt 12, 3) := by decide +kernel
theorem dX2_append_7 : decode cX2_append 7 = .ok (.aload_n 0, 1) := by decide +kernel
theorem dX2_append_8 : decode cX2_append 8 = .ok (.getfield 15, 3) := by decide +kernel
theorem dX2_append_11 : decode cX2_append 11 = .ok (.bipush 60, 2) := by decide +kernel
theorem dX2_append_13 : decode cX2_append 13 = .ok (.if_icmp .lt 5, 3) := by decide +kernel
theorem dX2_append_16 : decode cX2_append 16 = .ok (.iconst 0, 1) := by decide +kernel
theorem dX2_append_17 : decode cX2_append 17 = .ok (.ireturn, 1) := by decide +kernel
theorem dX2_append_18 : decode cX2_append 18 = .ok (.aload_n 0, 1) := by decide +kernel
theorem dX2_append_19 : decode cX2_append 19 = .ok (.getfield 9, 3) := by decide +kernel
theorem dX2_append_22 : decode cX2_append 22 = .ok (.aload_n 0, 1) := by decide +kernel
theorem dX2_append_23 : decode cX2_append 23 = .ok (.getfield 15, 3) := by decide +kernel
theorem dX2_append_26 : decode cX2_append 26 = .ok (.iload_n 1, 1) := by decide +kernel
theorem dX2_append_27 : decode cX2_append 27 = .ok (.castore, 1) := by decide +kernel
theorem dX2_append_28 : decode cX2_append 28 = .ok (.aload_n 0, 1) := by decide +kernel
theorem dX2_append_29 : decode cX2_append 29 = .ok (.dup, 1) := by decide +kernel
theorem dX2_append_30 : decode cX2_append 30 = .ok (.getfield 15, 3) := by decide +kernel
theorem dX2_append_33 : decode cX2_append 33 = .ok (.iconst 1, 1) := by decide +kernel
theorem dX2_append_34 : decode cX2_append 34 = .ok (.iadd, 1) := by decide +kernel
theorem dX2_append_35 : decode cX2_append 35 = .ok (.putfield 15, 3) := by decide +kernel
theorem dX2_append_38 : decode cX2_append 38 = .ok (.iconst 1, 1) := by decide +kernel
theorem dX2_append_39 : decode cX2_append 39 = .ok (.ireturn, 1) := by decide +kernel
theorem dX2_characterAt_0 : decode cX2_characterAt 0 = .ok (.iload_n 1, 1) := by decide +kernel
theorem dX2_characterAt_1 : decode cX2_characterAt 1 = .ok (.ifCond .lt 26, 3) := by decide +kernel
theorem dX2_characterAt_4 : decode cX2_characterAt 4 = .ok (.iload_n 1, 1) := by decide +kernel
theorem dX2_characterAt_5 : decode cX2_characterAt 5 = .ok (.aload_n 0, 1) := by decide +kernel
theorem dX2_characterAt_6 : decode cX2_characterAt 6 = .ok (.getfield 15, 3) := by decide +kernel
theorem dX2_characterAt_9 : decode cX2_characterAt 9 = .ok (.if_icmp .ge 18, 3) := by decide +kernel
theorem dX2_characterAt_12 : decode cX2_characterAt 12 = .ok (.iload_n 1, 1) := by decide +kernel
theorem dX2_characterAt_13 : decode cX2_characterAt 13 = .ok (.bipush 60, 2) := by decide +kernel
theorem dX2_characterAt_15 : decode cX2_characterAt 15 = .ok (.if_icmp .ge 12, 3) := by decide +kernel
theorem dX2_characterAt_18 : decode cX2_characterAt 18 = .ok (.aload_n 0, 1) := by decide +kernel
theorem dX2_characterAt_19 : decode cX2_characterAt 19 = .ok (.getfield 9, 3) := by decide +kernel
theorem dX2_characterAt_22 : decode cX2_characterAt 22 = .ok (.iload_n 1, 1) := by decide +kernel
theorem dX2_characterAt_23 : decode cX2_characterAt 23 = .ok (.caload, 1) := by decide +kernel
theorem dX2_characterAt_24 : decode cX2_characterAt 24 = .ok (.goto 4, 3) := by decide +kernel
theorem dX2_characterAt_27 : decode cX2_characterAt 27 = .ok (.iconst 0, 1) := by decide +kernel
theorem dX2_characterAt_28 : decode cX2_characterAt 28 = .ok (.ireturn, 1) := by decide +kernel
theorem dX2_number_0 : decode cX2_number 0 = .ok (.iload_n 1, 1) := by decide +kernel
theorem dX2_number_1 : decode cX2_number 1 = .ok (.ifCond .lt 25, 3) := by decide +kernel
theorem dX2_number_4 : decode cX2_number 4 = .ok (.iload_n 1, 1) := by decide +kernel
theorem dX2_number_5 : decode cX2_number 5 = .ok (.aload_n 0, 1) := by decide +kernel
theorem dX2_number_6 : decode cX2_number 6 = .ok (.getfield 29, 3) := by decide +kernel
theorem dX2_number_9 : decode cX2_number 9 = .ok (.if_icmp .ge 17, 3) := by decide +kernel
theorem dX2_number_12 : decode cX2_number 12 = .ok (.iload_n 1, 1) := by decide +kernel
theorem dX2_number_13 : decode cX2_number 13 = .ok (.iconst 3, 1) := by decide +kernel
theorem dX2_number_14 : decode cX2_number 14 = .ok (.if_icmp .ge 12, 3) := by decide +kernel
theorem dX2_number_17 : decode cX2_number 17 = .ok (.aload_n 0, 1) := by decide +kernel
theorem dX2_number_18 : decode cX2_number 18 = .ok (.getfield 25, 3) := by decide +kernel
theorem dX2_number_21 : decode cX2_number 21 = .ok (.iload_n 1, 1) := by decide +kernel
theorem dX2_number_22 : decode cX2_number 22 = .ok (.iaload, 1) := by decide +kernel
theorem dX2_number_23 : decode cX2_number 23 = .ok (.goto 4, 3) := by decide +kernel
theorem dX2_number_26 : decode cX2_number 26 = .ok (.iconst 0, 1) := by decide +kernel
theorem dX2_number_27 : decode cX2_number 27 = .ok (.ireturn, 1) := by decide +kernel
set_option maxRecDepth 20000 in
theorem ggX2_readOrder_X2_characterAt : GoodIn wsX2_readOrder wsX2_characterAt := goodIn_r _ [8, 9, 10, 79, 80, 81, 82, 83, 84] (by decide +kernel) (by decide +kernel)
set_option maxRecDepth 20000 in
theorem gX2_readOrder_X2_characterAt : GoodIn wsX2_readOrder (wsV RX2 32 RX2 yX2_characterAt wsX2_characterAt) := goodIn_app (goodIn_of _ (by decide +kernel)) ggX2_readOrder_X2_characterAt
set_option maxRecDepth 20000 in
theorem ggX2_readOrder_X2_formBehind : GoodIn wsX2_readOrder wsX2_formBehind := goodIn_r _ [13] (by decide +kernel) (by decide +kernel)
set_option maxRecDepth 20000 in
theorem gX2_readOrder_X2_formBehind : GoodIn wsX2_readOrder (va_wsS RX2 36 yX2_formBehind wsX2_formBehind) := goodIn_app (goodIn_of _ (by decide +kernel)) ggX2_readOrder_X2_formBehind
set_option maxRecDepth 20000 in
theorem ggX2_readOrder_J0_isEmpty_aae02 : GoodIn wsX2_readOrder wsJ0_isEmpty_aae02 := goodIn_r _ [18, 19] (by decide +kernel) (by decide +kernel)
set_option maxRecDepth 20000 in
theorem gX2_readOrder_J0_isEmpty_aae02 : GoodIn wsX2_readOrder (wsV RX2 40 RJ0 yJ0_isEmpty_aae02 wsJ0_isEmpty_aae02) := goodIn_app (goodIn_of _ (by decide +kernel)) ggX2_readOrder_J0_isEmpty_aae02
set_option maxRecDepth 20000 in
theorem ggX2_readOrder_J0_length_8abf5 : GoodIn wsX2_readOrder wsJ0_length_8abf5 := goodIn_r _ [23, 19, 24, 25, 26, 17, 27, 28, 29] (by decide +kernel) (by decide +kernel)
set_option maxRecDepth 20000 in
theorem gX2_readOrder_J0_length_8abf5 : GoodIn wsX2_readOrder (wsV RX2 46 RJ0 yJ0_length_8abf5 wsJ0_length_8abf5) := goodIn_app (goodIn_of _ (by decide +kernel)) ggX2_readOrder_J0_length_8abf5
set_option maxRecDepth 20000 in
theorem ggX2_readOrder_J0_charAt_5068e : GoodIn wsX2_readOrder wsJ0_charAt_5068e := goodIn_r _ [33, 19, 34, 35, 36, 17, 37, 28, 29, 38, 39, 40, 41, 42, 43, 44, 45, 46, 47, 48, 49, 50, 51, 52, 53, 54, 55, 56, 57, 58, 59, 60, 61, 62, 63, 64, 65, 66] (by decide +kernel) (by decide +kernel)
set_option maxRecDepth 20000 in
theorem gX2_readOrder_J0_charAt_5068e : GoodIn wsX2_readOrder (wsV RX2 49 RJ0 yJ0_charAt_5068e wsJ0_charAt_5068e) := goodIn_app (goodIn_of _ (by decide +kernel)) ggX2_readOrder_J0_charAt_5068e
set_option maxRecDepth 20000 in
theorem ggX2_readOrder_X2_readPart : GoodIn wsX2_readOrder wsX2_readPart := goodIn_r _ [70, 1, 71, 72, 73, 7, 74, 2, 75, 4, 5, 6, 8, 9, 10, 76, 77, 78, 79, 80, 81, 82, 83, 84] (by decide +kernel) (by decide +kernel)
set_option maxRecDepth 20000 in
theorem gX2_readOrder_X2_readPart : GoodIn wsX2_readOrder (wsV RX2 52 RX2 yX2_readPart wsX2_readPart) := goodIn_app (goodIn_of _ (by decide +kernel)) ggX2_readOrder_X2_readPart
theorem dX2_readOrder_0 : decode cX2_readOrder 0 = .ok (.aload_n 0, 1) := by decide +kernel
theorem dX2_readOrder_1 : decode cX2_readOrder 1 = .ok (.iload_n 1, 1) := by decide +kernel
theorem dX2_readOrder_2 : decode cX2_readOrder 2 = .ok (.putfield 19, 3) := by decide +kernel
theorem dX2_readOrder_5 : decode cX2_readOrder 5 = .ok (.aload_n 0, 1) := by decide +kernel
theorem dX2_readOrder_6 : decode cX2_readOrder 6 = .ok (.iconst 0, 1) := by decide +kernel
theorem dX2_readOrder_7 : decode cX2_readOrder 7 = .ok (.putfield 29, 3) := by decide +kernel
theorem dX2_readOrder_10 : decode cX2_readOrder 10 = .ok (.aload_n 0, 1) := by decide +kernel
theorem dX2_readOrder_11 : decode cX2_readOrder 11 = .ok (.aload_n 0, 1) := by decide +kernel
theorem dX2_readOrder_12 : decode cX2_readOrder 12 = .ok (.iload_n 1, 1) := by decide +kernel
theorem dX2_readOrder_13 : decode cX2_readOrder 13 = .ok (.invokevirtual 32, 3) := by decide +kernel
theorem dX2_readOrder_16 : decode cX2_readOrder 16 = .ok (.putfield 22, 3) := by decide +kernel
theorem dX2_readOrder_19 : decode cX2_readOrder 19 = .ok (.aload_n 0, 1) := by decide +kernel
theorem dX2_readOrder_20 : decode cX2_readOrder 20 = .ok (.getfield 22, 3) := by decide +kernel
theorem dX2_readOrder_23 : decode cX2_readOrder 23 = .ok (.invokestatic 36, 3) := by decide +kernel
theorem dX2_readOrder_26 : decode cX2_readOrder 26 = .ok (.astore_n 2, 1) := by decide +kernel
theorem dX2_readOrder_27 : decode cX2_readOrder 27 = .ok (.aload_n 2, 1) := by decide +kernel
theorem dX2_readOrder_28 : decode cX2_readOrder 28 = .ok (.invokevirtual 40, 3) := by decide +kernel
theorem dX2_readOrder_31 : decode cX2_readOrder 31 = .ok (.ifCond .eq 5, 3) := by decide +kernel
theorem dX2_readOrder_34 : decode cX2_readOrder 34 = .ok (.iconst 0, 1) := by decide +kernel
theorem dX2_readOrder_35 : decode cX2_readOrder 35 = .ok (.ireturn, 1) := by decide +kernel
theorem dX2_readOrder_36 : decode cX2_readOrder 36 = .ok (.aload_n 0, 1) := by decide +kernel
theorem dX2_readOrder_37 : decode cX2_readOrder 37 = .ok (.dup, 1) := by decide +kernel
theorem dX2_readOrder_38 : decode cX2_readOrder 38 = .ok (.getfield 19, 3) := by decide +kernel
theorem dX2_readOrder_41 : decode cX2_readOrder 41 = .ok (.iconst 1, 1) := by decide +kernel
theorem dX2_readOrder_42 : decode cX2_readOrder 42 = .ok (.iadd, 1) := by decide +kernel
theorem dX2_readOrder_43 : decode cX2_readOrder 43 = .ok (.putfield 19, 3) := by decide +kernel
theorem dX2_readOrder_46 : decode cX2_readOrder 46 = .ok (.iconst 0, 1) := by decide +kernel
theorem dX2_readOrder_47 : decode cX2_readOrder 47 = .ok (.istore_n 3, 1) := by decide +kernel
theorem dX2_readOrder_48 : decode cX2_readOrder 48 = .ok (.iload_n 3, 1) := by decide +kernel
theorem dX2_readOrder_49 : decode cX2_readOrder 49 = .ok (.aload_n 2, 1) := by decide +kernel
theorem dX2_readOrder_50 : decode cX2_readOrder 50 = .ok (.invokevirtual 46, 3) := by decide +kernel
theorem dX2_readOrder_53 : decode cX2_readOrder 53 = .ok (.if_icmp .ge 23, 3) := by decide +kernel
theorem dX2_readOrder_56 : decode cX2_readOrder 56 = .ok (.aload_n 0, 1) := by decide +kernel
theorem dX2_readOrder_57 : decode cX2_readOrder 57 = .ok (.aload_n 2, 1) := by decide +kernel
theorem dX2_readOrder_58 : decode cX2_readOrder 58 = .ok (.iload_n 3, 1) := by decide +kernel
theorem dX2_readOrder_59 : decode cX2_readOrder 59 = .ok (.invokevirtual 49, 3) := by decide +kernel
theorem dX2_readOrder_62 : decode cX2_readOrder 62 = .ok (.invokevirtual 52, 3) := by decide +kernel
theorem dX2_readOrder_65 : decode cX2_readOrder 65 = .ok (.ifCond .ne 5, 3) := by decide +kernel
theorem dX2_readOrder_68 : decode cX2_readOrder 68 = .ok (.iconst 0, 1) := by decide +kernel
theorem dX2_readOrder_69 : decode cX2_readOrder 69 = .ok (.ireturn, 1) := by decide +kernel
theorem dX2_readOrder_70 : decode cX2_readOrder 70 = .ok (.iinc 3 1, 3) := by decide +kernel
theorem dX2_readOrder_73 : decode cX2_readOrder 73 = .ok (.goto (-25), 3) := by decide +kernel
theorem dX2_readOrder_76 : decode cX2_readOrder 76 = .ok (.iconst 1, 1) := by decide +kernel
theorem dX2_readOrder_77 : decode cX2_readOrder 77 = .ok (.ireturn, 1) := by decide +kernel
theorem dX2_formBehind_0 : decode cX2_formBehind 0 = .ok (.iload_n 0, 1) := by decide +kernel
theorem dX2_formBehind_1 : decode cX2_formBehind 1 = .ok (.tableswitch 104 97 116 #[95, 104, 95, 104, 104, 104, 104, 104, 104, 104, 104, 104, 104, 104, 95, 98, 104, 104, 101, 95], 95) := by decide +kernel
theorem dX2_formBehind_96 : decode cX2_formBehind 96 = .ok (.ldc 56, 2) := by decide +kernel
theorem dX2_formBehind_98 : decode cX2_formBehind 98 = .ok (.areturn, 1) := by decide +kernel
theorem dX2_formBehind_99 : decode cX2_formBehind 99 = .ok (.ldc 58, 2) := by decide +kernel
theorem dX2_formBehind_101 : decode cX2_formBehind 101 = .ok (.areturn, 1) := by decide +kernel
theorem dX2_formBehind_102 : decode cX2_formBehind 102 = .ok (.ldc 60, 2) := by decide +kernel
theorem dX2_formBehind_104 : decode cX2_formBehind 104 = .ok (.areturn, 1) := by decide +kernel
theorem dX2_formBehind_105 : decode cX2_formBehind 105 = .ok (.ldc 62, 2) := by decide +kernel
theorem dX2_formBehind_107 : decode cX2_formBehind 107 = .ok (.areturn, 1) := by decide +kernel
set_option maxRecDepth 20000 in
theorem ggX2_readPart_X2_readNumber : GoodIn wsX2_readPart wsX2_readNumber := goodIn_r _ [6, 1, 7, 8, 9, 10, 11, 5, 12, 13, 14, 15, 16, 17, 18, 19, 20, 21, 22, 23] (by decide +kernel) (by decide +kernel)
set_option maxRecDepth 20000 in
theorem gX2_readPart_X2_readNumber : GoodIn wsX2_readPart (wsV RX2 64 RX2 yX2_readNumber wsX2_readNumber) := goodIn_app (goodIn_of _ (by decide +kernel)) ggX2_readPart_X2_readNumber
set_option maxRecDepth 20000 in
theorem ggX2_readPart_X2_characterAt : GoodIn wsX2_readPart wsX2_characterAt := goodIn_r _ [12, 13, 14, 18, 19, 20, 21, 22, 23] (by decide +kernel) (by decide +kernel)
set_option maxRecDepth 20000 in
theorem gX2_readPart_X2_characterAt : GoodIn wsX2_readPart (wsV RX2 32 RX2 yX2_characterAt wsX2_characterAt) := goodIn_app (goodIn_of _ (by decide +kernel)) ggX2_readPart_X2_characterAt
theorem dX2_readPart_0 : decode cX2_readPart 0 = .ok (.iload_n 1, 1) := by decide +kernel
theorem dX2_readPart_1 : decode cX2_readPart 1 = .ok (.bipush 35, 2) := by decide +kernel
theorem dX2_readPart_3 : decode cX2_readPart 3 = .ok (.if_icmp .ne 8, 3) := by decide +kernel
theorem dX2_readPart_6 : decode cX2_readPart 6 = .ok (.aload_n 0, 1) := by decide +kernel
theorem dX2_readPart_7 : decode cX2_readPart 7 = .ok (.invokevirtual 64, 3) := by decide +kernel
theorem dX2_readPart_10 : decode cX2_readPart 10 = .ok (.ireturn, 1) := by decide +kernel
theorem dX2_readPart_11 : decode cX2_readPart 11 = .ok (.aload_n 0, 1) := by decide +kernel
theorem dX2_readPart_12 : decode cX2_readPart 12 = .ok (.aload_n 0, 1) := by decide +kernel
theorem dX2_readPart_13 : decode cX2_readPart 13 = .ok (.getfield 19, 3) := by decide +kernel
theorem dX2_readPart_16 : decode cX2_readPart 16 = .ok (.invokevirtual 32, 3) := by decide +kernel
theorem dX2_readPart_19 : decode cX2_readPart 19 = .ok (.iload_n 1, 1) := by decide +kernel
theorem dX2_readPart_20 : decode cX2_readPart 20 = .ok (.if_icmp .eq 5, 3) := by decide +kernel
theorem dX2_readPart_23 : decode cX2_readPart 23 = .ok (.iconst 0, 1) := by decide +kernel
theorem dX2_readPart_24 : decode cX2_readPart 24 = .ok (.ireturn, 1) := by decide +kernel
theorem dX2_readPart_25 : decode cX2_readPart 25 = .ok (.aload_n 0, 1) := by decide +kernel
theorem dX2_readPart_26 : decode cX2_readPart 26 = .ok (.dup, 1) := by decide +kernel
theorem dX2_readPart_27 : decode cX2_readPart 27 = .ok (.getfield 19, 3) := by decide +kernel
theorem dX2_readPart_30 : decode cX2_readPart 30 = .ok (.iconst 1, 1) := by decide +kernel
theorem dX2_readPart_31 : decode cX2_readPart 31 = .ok (.iadd, 1) := by decide +kernel
theorem dX2_readPart_32 : decode cX2_readPart 32 = .ok (.putfield 19, 3) := by decide +kernel
theorem dX2_readPart_35 : decode cX2_readPart 35 = .ok (.iconst 1, 1) := by decide +kernel
theorem dX2_readPart_36 : decode cX2_readPart 36 = .ok (.ireturn, 1) := by decide +kernel
set_option maxRecDepth 20000 in
theorem ggX2_readNumber_X2_characterAt : GoodIn wsX2_readNumber wsX2_characterAt := goodIn_r _ [8, 9, 10, 14, 15, 16, 17, 18, 19] (by decide +kernel) (by decide +kernel)
set_option maxRecDepth 20000 in
theorem gX2_readNumber_X2_characterAt : GoodIn wsX2_readNumber (wsV RX2 32 RX2 yX2_characterAt wsX2_characterAt) := goodIn_app (goodIn_of _ (by decide +kernel)) ggX2_readNumber_X2_characterAt
set_option maxRecDepth 20000 in
theorem ggX2_readNumber_X2_isDigit : GoodIn wsX2_readNumber wsX2_isDigit := goodIn_r _ [13] (by decide +kernel) (by decide +kernel)
set_option maxRecDepth 20000 in
theorem gX2_readNumber_X2_isDigit : GoodIn wsX2_readNumber (va_wsS RX2 67 yX2_isDigit wsX2_isDigit) := goodIn_app (goodIn_of _ (by decide +kernel)) ggX2_readNumber_X2_isDigit
theorem dX2_readNumber_0 : decode cX2_readNumber 0 = .ok (.iconst 0, 1) := by decide +kernel
theorem dX2_readNumber_1 : decode cX2_readNumber 1 = .ok (.istore_n 1, 1) := by decide +kernel
theorem dX2_readNumber_2 : decode cX2_readNumber 2 = .ok (.iconst 0, 1) := by decide +kernel
theorem dX2_readNumber_3 : decode cX2_readNumber 3 = .ok (.istore_n 2, 1) := by decide +kernel
theorem dX2_readNumber_4 : decode cX2_readNumber 4 = .ok (.iload_n 2, 1) := by decide +kernel
theorem dX2_readNumber_5 : decode cX2_readNumber 5 = .ok (.iconst 3, 1) := by decide +kernel
theorem dX2_readNumber_6 : decode cX2_readNumber 6 = .ok (.if_icmp .ge 50, 3) := by decide +kernel
theorem dX2_readNumber_9 : decode cX2_readNumber 9 = .ok (.aload_n 0, 1) := by decide +kernel
theorem dX2_readNumber_10 : decode cX2_readNumber 10 = .ok (.aload_n 0, 1) := by decide +kernel
theorem dX2_readNumber_11 : decode cX2_readNumber 11 = .ok (.getfield 19, 3) := by decide +kernel
theorem dX2_readNumber_14 : decode cX2_readNumber 14 = .ok (.invokevirtual 32, 3) := by decide +kernel
theorem dX2_readNumber_17 : decode cX2_readNumber 17 = .ok (.invokestatic 67, 3) := by decide +kernel
theorem dX2_readNumber_20 : decode cX2_readNumber 20 = .ok (.ifCond .eq 36, 3) := by decide +kernel
theorem dX2_readNumber_23 : decode cX2_readNumber 23 = .ok (.iload_n 1, 1) := by decide +kernel
theorem dX2_readNumber_24 : decode cX2_readNumber 24 = .ok (.bipush 10, 2) := by decide +kernel
theorem dX2_readNumber_26 : decode cX2_readNumber 26 = .ok (.imul, 1) := by decide +kernel
theorem dX2_readNumber_27 : decode cX2_readNumber 27 = .ok (.aload_n 0, 1) := by decide +kernel
theorem dX2_readNumber_28 : decode cX2_readNumber 28 = .ok (.aload_n 0, 1) := by decide +kernel
theorem dX2_readNumber_29 : decode cX2_readNumber 29 = .ok (.getfield 19, 3) := by decide +kernel
theorem dX2_readNumber_32 : decode cX2_readNumber 32 = .ok (.invokevirtual 32, 3) := by decide +kernel
theorem dX2_readNumber_35 : decode cX2_readNumber 35 = .ok (.bipush 48, 2) := by decide +kernel
theorem dX2_readNumber_37 : decode cX2_readNumber 37 = .ok (.isub, 1) := by decide +kernel
theorem dX2_readNumber_38 : decode cX2_readNumber 38 = .ok (.iadd, 1) := by decide +kernel
theorem dX2_readNumber_39 : decode cX2_readNumber 39 = .ok (.istore_n 1, 1) := by decide +kernel
theorem dX2_readNumber_40 : decode cX2_readNumber 40 = .ok (.iinc 2 1, 3) := by decide +kernel
theorem dX2_readNumber_43 : decode cX2_readNumber 43 = .ok (.aload_n 0, 1) := by decide +kernel
theorem dX2_readNumber_44 : decode cX2_readNumber 44 = .ok (.dup, 1) := by decide +kernel
theorem dX2_readNumber_45 : decode cX2_readNumber 45 = .ok (.getfield 19, 3) := by decide +kernel
theorem dX2_readNumber_48 : decode cX2_readNumber 48 = .ok (.iconst 1, 1) := by decide +kernel
theorem dX2_readNumber_49 : decode cX2_readNumber 49 = .ok (.iadd, 1) := by decide +kernel
theorem dX2_readNumber_50 : decode cX2_readNumber 50 = .ok (.putfield 19, 3) := by decide +kernel
theorem dX2_readNumber_53 : decode cX2_readNumber 53 = .ok (.goto (-49), 3) := by decide +kernel
theorem dX2_readNumber_56 : decode cX2_readNumber 56 = .ok (.iload_n 2, 1) := by decide +kernel
theorem dX2_readNumber_57 : decode cX2_readNumber 57 = .ok (.ifCond .eq 18, 3) := by decide +kernel
theorem dX2_readNumber_60 : decode cX2_readNumber 60 = .ok (.aload_n 0, 1) := by decide +kernel
theorem dX2_readNumber_61 : decode cX2_readNumber 61 = .ok (.getfield 29, 3) := by decide +kernel
theorem dX2_readNumber_64 : decode cX2_readNumber 64 = .ok (.ifCond .lt 11, 3) := by decide +kernel
theorem dX2_readNumber_67 : decode cX2_readNumber 67 = .ok (.aload_n 0, 1) := by decide +kernel
theorem dX2_readNumber_68 : decode cX2_readNumber 68 = .ok (.getfield 29, 3) := by decide +kernel
theorem dX2_readNumber_71 : decode cX2_readNumber 71 = .ok (.iconst 3, 1) := by decide +kernel
theorem dX2_readNumber_72 : decode cX2_readNumber 72 = .ok (.if_icmp .lt 5, 3) := by decide +kernel
theorem dX2_readNumber_75 : decode cX2_readNumber 75 = .ok (.iconst 0, 1) := by decide +kernel
theorem dX2_readNumber_76 : decode cX2_readNumber 76 = .ok (.ireturn, 1) := by decide +kernel
theorem dX2_readNumber_77 : decode cX2_readNumber 77 = .ok (.aload_n 0, 1) := by decide +kernel
theorem dX2_readNumber_78 : decode cX2_readNumber 78 = .ok (.getfield 25, 3) := by decide +kernel
theorem dX2_readNumber_81 : decode cX2_readNumber 81 = .ok (.aload_n 0, 1) := by decide +kernel
theorem dX2_readNumber_82 : decode cX2_readNumber 82 = .ok (.getfield 29, 3) := by decide +kernel
theorem dX2_readNumber_85 : decode cX2_readNumber 85 = .ok (.iload_n 1, 1) := by decide +kernel
theorem dX2_readNumber_86 : decode cX2_readNumber 86 = .ok (.iastore, 1) := by decide +kernel
theorem dX2_readNumber_87 : decode cX2_readNumber 87 = .ok (.aload_n 0, 1) := by decide +kernel
theorem dX2_readNumber_88 : decode cX2_readNumber 88 = .ok (.dup, 1) := by decide +kernel
theorem dX2_readNumber_89 : decode cX2_readNumber 89 = .ok (.getfield 29, 3) := by decide +kernel
theorem dX2_readNumber_92 : decode cX2_readNumber 92 = .ok (.iconst 1, 1) := by decide +kernel
theorem dX2_readNumber_93 : decode cX2_readNumber 93 = .ok (.iadd, 1) := by decide +kernel
theorem dX2_readNumber_94 : decode cX2_readNumber 94 = .ok (.putfield 29, 3) := by decide +kernel
theorem dX2_readNumber_97 : decode cX2_readNumber 97 = .ok (.iconst 1, 1) := by decide +kernel
theorem dX2_readNumber_98 : decode cX2_readNumber 98 = .ok (.ireturn, 1) := by decide +kernel
theorem dX2_isDigit_0 : decode cX2_isDigit 0 = .ok (.iload_n 0, 1) := by decide +kernel
theorem dX2_isDigit_1 : decode cX2_isDigit 1 = .ok (.bipush 48, 2) := by decide +kernel
theorem dX2_isDigit_3 : decode cX2_isDigit 3 = .ok (.if_icmp .lt 13, 3) := by decide +kernel
theorem dX2_isDigit_6 : decode cX2_isDigit 6 = .ok (.iload_n 0, 1) := by decide +kernel
theorem dX2_isDigit_7 : decode cX2_isDigit 7 = .ok (.bipush 57, 2) := by decide +kernel
theorem dX2_isDigit_9 : decode cX2_isDigit 9 = .ok (.if_icmp .gt 7, 3) := by decide +kernel
theorem dX2_isDigit_12 : decode cX2_isDigit 12 = .ok (.iconst 1, 1) := by decide +kernel
theorem dX2_isDigit_13 : decode cX2_isDigit 13 = .ok (.goto 4, 3) := by decide +kernel
theorem dX2_isDigit_16 : decode cX2_isDigit 16 = .ok (.iconst 0, 1) := by decide +kernel
theorem dX2_isDigit_17 : decode cX2_isDigit 17 = .ok (.ireturn, 1) := by decide +kernel
theorem dX3_init_0 : decode cX3_init 0 = .ok (.aload_n 0, 1) := by decide +kernel
theorem dX3_init_1 : decode cX3_init 1 = .ok (.invokespecial 3, 3) := by decide +kernel
theorem dX3_init_4 : decode cX3_init 4 = .ok (.aload_n 0, 1) := by decide +kernel
theorem dX3_init_5 : decode cX3_init 5 = .ok (.iconst 0, 1) := by decide +kernel
theorem dX3_init_6 : decode cX3_init 6 = .ok (.putfield 9, 3) := by decide +kernel
theorem dX3_init_9 : decode cX3_init 9 = .ok (.aload_n 0, 1) := by decide +kernel
theorem dX3_init_10 : decode cX3_init 10 = .ok (.iconst 0, 1) := by decide +kernel
theorem dX3_init_11 : decode cX3_init 11 = .ok (.putfield 15, 3) := by decide +kernel
theorem dX3_init_14 : decode cX3_init 14 = .ok (.aload_n 0, 1) := by decide +kernel
theorem dX3_init_15 : decode cX3_init 15 = .ok (.iconst 0, 1) := by decide +kernel
theorem dX3_init_16 : decode cX3_init 16 = .ok (.putfield 18, 3) := by decide +kernel
theorem dX3_init_19 : decode cX3_init 19 = .ok (.aload_n 0, 1) := by decide +kernel
theorem dX3_init_20 : decode cX3_init 20 = .ok (.bipush 101, 2) := by decide +kernel
theorem dX3_init_22 : decode cX3_init 22 = .ok (.newarray .boolean, 2) := by decide +kernel
theorem dX3_init_24 : decode cX3_init 24 = .ok (.putfield 22, 3) := by decide +kernel
theorem dX3_init_27 : decode cX3_init 27 = .ok (.return_, 1) := by decide +kernel
theorem dX3_canServe_0 : decode cX3_canServe 0 = .ok (.aload_n 0, 1) := by decide +kernel
theorem dX3_canServe_1 : decode cX3_canServe 1 = .ok (.getfield 18, 3) := by decide +kernel
theorem dX3_canServe_4 : decode cX3_canServe 4 = .ok (.ifCond .ne 15, 3) := by decide +kernel
theorem dX3_canServe_7 : decode cX3_canServe 7 = .ok (.aload_n 0, 1) := by decide +kernel
theorem dX3_canServe_8 : decode cX3_canServe 8 = .ok (.getfield 15, 3) := by decide +kernel
theorem dX3_canServe_11 : decode cX3_canServe 11 = .ok (.iload_n 1, 1) := by decide +kernel
theorem dX3_canServe_12 : decode cX3_canServe 12 = .ok (.if_icmp .lt 7, 3) := by decide +kernel
theorem dX3_canServe_15 : decode cX3_canServe 15 = .ok (.iconst 1, 1) := by decide +kernel
theorem dX3_canServe_16 : decode cX3_canServe 16 = .ok (.goto 4, 3) := by decide +kernel
theorem dX3_canServe_19 : decode cX3_canServe 19 = .ok (.iconst 0, 1) := by decide +kernel
theorem dX3_canServe_20 : decode cX3_canServe 20 = .ok (.ireturn, 1) := by decide +kernel
theorem dX3_isGap_0 : decode cX3_isGap 0 = .ok (.iload_n 1, 1) := by decide +kernel
theorem dX3_isGap_1 : decode cX3_isGap 1 = .ok (.iconst 1, 1) := by decide +kernel
theorem dX3_isGap_2 : decode cX3_isGap 2 = .ok (.if_icmp .lt 22, 3) := by decide +kernel
theorem dX3_isGap_5 : decode cX3_isGap 5 = .ok (.iload_n 1, 1) := by decide +kernel
theorem dX3_isGap_6 : decode cX3_isGap 6 = .ok (.bipush 100, 2) := by decide +kernel
theorem dX3_isGap_8 : decode cX3_isGap 8 = .ok (.if_icmp .gt 16, 3) := by decide +kernel
theorem dX3_isGap_11 : decode cX3_isGap 11 = .ok (.aload_n 0, 1) := by decide +kernel
theorem dX3_isGap_12 : decode cX3_isGap 12 = .ok (.getfield 22, 3) := by decide +kernel
theorem dX3_isGap_15 : decode cX3_isGap 15 = .ok (.iload_n 1, 1) := by decide +kernel
theorem dX3_isGap_16 : decode cX3_isGap 16 = .ok (.baload, 1) := by decide +kernel
theorem dX3_isGap_17 : decode cX3_isGap 17 = .ok (.ifCond .eq 7, 3) := by decide +kernel
theorem dX3_isGap_20 : decode cX3_isGap 20 = .ok (.iconst 1, 1) := by decide +kernel
theorem dX3_isGap_21 : decode cX3_isGap 21 = .ok (.goto 4, 3) := by decide +kernel
theorem dX3_isGap_24 : decode cX3_isGap 24 = .ok (.iconst 0, 1) := by decide +kernel
theorem dX3_isGap_25 : decode cX3_isGap 25 = .ok (.ireturn, 1) := by decide +kernel
theorem dX3_setGap_0 : decode cX3_setGap 0 = .ok (.iload_n 1, 1) := by decide +kernel
theorem dX3_setGap_1 : decode cX3_setGap 1 = .ok (.iconst 1, 1) := by decide +kernel
theorem dX3_setGap_2 : decode cX3_setGap 2 = .ok (.if_icmp .lt 16, 3) := by decide +kernel
theorem dX3_setGap_5 : decode cX3_setGap 5 = .ok (.iload_n 1, 1) := by decide +kernel
theorem dX3_setGap_6 : decode cX3_setGap 6 = .ok (.bipush 100, 2) := by decide +kernel
theorem dX3_setGap_8 : decode cX3_setGap 8 = .ok (.if_icmp .gt 10, 3) := by decide +kernel
theorem dX3_setGap_11 : decode cX3_setGap 11 = .ok (.aload_n 0, 1) := by decide +kernel
theorem dX3_setGap_12 : decode cX3_setGap 12 = .ok (.getfield 22, 3) := by decide +kernel
theorem dX3_setGap_15 : decode cX3_setGap 15 = .ok (.iload_n 1, 1) := by decide +kernel
theorem dX3_setGap_16 : decode cX3_setGap 16 = .ok (.iconst 1, 1) := by decide +kernel
theorem dX3_setGap_17 : decode cX3_setGap 17 = .ok (.bastore, 1) := by decide +kernel
theorem dX3_setGap_18 : decode cX3_setGap 18 = .ok (.return_, 1) := by decide +kernel
theorem dX3_gapCount_0 : decode cX3_gapCount 0 = .ok (.iconst 0, 1) := by decide +kernel
theorem dX3_gapCount_1 : decode cX3_gapCount 1 = .ok (.istore_n 1, 1) := by decide +kernel
theorem dX3_gapCount_2 : decode cX3_gapCount 2 = .ok (.iconst 1, 1) := by decide +kernel
theorem dX3_gapCount_3 : decode cX3_gapCount 3 = .ok (.istore_n 2, 1) := by decide +kernel
theorem dX3_gapCount_4 : decode cX3_gapCount 4 = .ok (.iload_n 2, 1) := by decide +kernel
theorem dX3_gapCount_5 : decode cX3_gapCount 5 = .ok (.bipush 100, 2) := by decide +kernel
theorem dX3_gapCount_7 : decode cX3_gapCount 7 = .ok (.if_icmp .gt 21, 3) := by decide +kernel
theorem dX3_gapCount_10 : decode cX3_gapCount 10 = .ok (.aload_n 0, 1) := by decide +kernel
theorem dX3_gapCount_11 : decode cX3_gapCount 11 = .ok (.getfield 22, 3) := by decide +kernel
theorem dX3_gapCount_14 : decode cX3_gapCount 14 = .ok (.iload_n 2, 1) := by decide +kernel
theorem dX3_gapCount_15 : decode cX3_gapCount 15 = .ok (.baload, 1) := by decide +kernel
theorem dX3_gapCount_16 : decode cX3_gapCount 16 = .ok (.ifCond .eq 6, 3) := by decide +kernel
theorem dX3_gapCount_19 : decode cX3_gapCount 19 = .ok (.iinc 1 1, 3) := by decide +kernel
theorem dX3_gapCount_22 : decode cX3_gapCount 22 = .ok (.iinc 2 1, 3) := by decide +kernel
theorem dX3_gapCount_25 : decode cX3_gapCount 25 = .ok (.goto (-21), 3) := by decide +kernel
theorem dX3_gapCount_28 : decode cX3_gapCount 28 = .ok (.iload_n 1, 1) := by decide +kernel
theorem dX3_gapCount_29 : decode cX3_gapCount 29 = .ok (.ireturn, 1) := by decide +kernel
theorem dX3_lowestGap_0 : decode cX3_lowestGap 0 = .ok (.iconst 1, 1) := by decide +kernel
theorem dX3_lowestGap_1 : decode cX3_lowestGap 1 = .ok (.istore_n 1, 1) := by decide +kernel
theorem dX3_lowestGap_2 : decode cX3_lowestGap 2 = .ok (.iload_n 1, 1) := by decide +kernel
theorem dX3_lowestGap_3 : decode cX3_lowestGap 3 = .ok (.bipush 100, 2) := by decide +kernel
theorem dX3_lowestGap_5 : decode cX3_lowestGap 5 = .ok (.if_icmp .gt 20, 3) := by decide +kernel
theorem dX3_lowestGap_8 : decode cX3_lowestGap 8 = .ok (.aload_n 0, 1) := by decide +kernel
theorem dX3_lowestGap_9 : decode cX3_lowestGap 9 = .ok (.getfield 22, 3) := by decide +kernel
theorem dX3_lowestGap_12 : decode cX3_lowestGap 12 = .ok (.iload_n 1, 1) := by decide +kernel
theorem dX3_lowestGap_13 : decode cX3_lowestGap 13 = .ok (.baload, 1) := by decide +kernel
theorem dX3_lowestGap_14 : decode cX3_lowestGap 14 = .ok (.ifCond .eq 5, 3) := by decide +kernel
theorem dX3_lowestGap_17 : decode cX3_lowestGap 17 = .ok (.iload_n 1, 1) := by decide +kernel
theorem dX3_lowestGap_18 : decode cX3_lowestGap 18 = .ok (.ireturn, 1) := by decide +kernel
theorem dX3_lowestGap_19 : decode cX3_lowestGap 19 = .ok (.iinc 1 1, 3) := by decide +kernel
theorem dX3_lowestGap_22 : decode cX3_lowestGap 22 = .ok (.goto (-20), 3) := by decide +kernel
theorem dX3_lowestGap_25 : decode cX3_lowestGap 25 = .ok (.iconst 0, 1) := by decide +kernel
theorem dX3_lowestGap_26 : decode cX3_lowestGap 26 = .ok (.ireturn, 1) := by decide +kernel
set_option maxRecDepth 20000 in
theorem ggX3_reachable_X3_lowestGap : GoodIn wsX3_reachable wsX3_lowestGap := goodIn_r _ [6, 7, 8, 9, 10, 11] (by decide +kernel) (by decide +kernel)
set_option maxRecDepth 20000 in
theorem gX3_reachable_X3_lowestGap : GoodIn wsX3_reachable (wsV RX3 26 RX3 yX3_lowestGap wsX3_lowestGap) := goodIn_app (goodIn_of _ (by decide +kernel)) ggX3_reachable_X3_lowestGap
theorem dX3_reachable_0 : decode cX3_reachable 0 = .ok (.aload_n 0, 1) := by decide +kernel
theorem dX3_reachable_1 : decode cX3_reachable 1 = .ok (.invokevirtual 26, 3) := by decide +kernel
theorem dX3_reachable_4 : decode cX3_reachable 4 = .ok (.istore_n 1, 1) := by decide +kernel
theorem dX3_reachable_5 : decode cX3_reachable 5 = .ok (.iload_n 1, 1) := by decide +kernel
theorem dX3_reachable_6 : decode cX3_reachable 6 = .ok (.ifCond .ne 10, 3) := by decide +kernel
theorem dX3_reachable_9 : decode cX3_reachable 9 = .ok (.aload_n 0, 1) := by decide +kernel
theorem dX3_reachable_10 : decode cX3_reachable 10 = .ok (.getfield 9, 3) := by decide +kernel
theorem dX3_reachable_13 : decode cX3_reachable 13 = .ok (.goto 6, 3) := by decide +kernel
theorem dX3_reachable_16 : decode cX3_reachable 16 = .ok (.iload_n 1, 1) := by decide +kernel
theorem dX3_reachable_17 : decode cX3_reachable 17 = .ok (.iconst 1, 1) := by decide +kernel
theorem dX3_reachable_18 : decode cX3_reachable 18 = .ok (.isub, 1) := by decide +kernel
theorem dX3_reachable_19 : decode cX3_reachable 19 = .ok (.ireturn, 1) := by decide +kernel
theorem dX3_dropGapsBehind_0 : decode cX3_dropGapsBehind 0 = .ok (.iconst 0, 1) := by decide +kernel
theorem dX3_dropGapsBehind_1 : decode cX3_dropGapsBehind 1 = .ok (.iload_n 1, 1) := by decide +kernel
theorem dX3_dropGapsBehind_2 : decode cX3_dropGapsBehind 2 = .ok (.invokestatic 30, 3) := by decide +kernel
theorem dX3_dropGapsBehind_5 : decode cX3_dropGapsBehind 5 = .ok (.iconst 1, 1) := by decide +kernel
theorem dX3_dropGapsBehind_6 : decode cX3_dropGapsBehind 6 = .ok (.iadd, 1) := by decide +kernel
theorem dX3_dropGapsBehind_7 : decode cX3_dropGapsBehind 7 = .ok (.istore_n 2, 1) := by decide +kernel
theorem dX3_dropGapsBehind_8 : decode cX3_dropGapsBehind 8 = .ok (.iload_n 2, 1) := by decide +kernel
theorem dX3_dropGapsBehind_9 : decode cX3_dropGapsBehind 9 = .ok (.bipush 100, 2) := by decide +kernel
theorem dX3_dropGapsBehind_11 : decode cX3_dropGapsBehind 11 = .ok (.if_icmp .gt 16, 3) := by decide +kernel
theorem dX3_dropGapsBehind_14 : decode cX3_dropGapsBehind 14 = .ok (.aload_n 0, 1) := by decide +kernel
theorem dX3_dropGapsBehind_15 : decode cX3_dropGapsBehind 15 = .ok (.getfield 22, 3) := by decide +kernel
theorem dX3_dropGapsBehind_18 : decode cX3_dropGapsBehind 18 = .ok (.iload_n 2, 1) := by decide +kernel
theorem dX3_dropGapsBehind_19 : decode cX3_dropGapsBehind 19 = .ok (.iconst 0, 1) := by decide +kernel
theorem dX3_dropGapsBehind_20 : decode cX3_dropGapsBehind 20 = .ok (.bastore, 1) := by decide +kernel
theorem dX3_dropGapsBehind_21 : decode cX3_dropGapsBehind 21 = .ok (.iinc 2 1, 3) := by decide +kernel
theorem dX3_dropGapsBehind_24 : decode cX3_dropGapsBehind 24 = .ok (.goto (-16), 3) := by decide +kernel
theorem dX3_dropGapsBehind_27 : decode cX3_dropGapsBehind 27 = .ok (.return_, 1) := by decide +kernel
set_option maxRecDepth 20000 in
theorem ggX3_standAt_X3_dropGapsBehind : GoodIn wsX3_standAt wsX3_dropGapsBehind := goodIn_r _ [8, 9, 10, 11, 12, 13, 14, 15, 16, 17] (by decide +kernel) (by decide +kernel)
set_option maxRecDepth 20000 in
theorem gX3_standAt_X3_dropGapsBehind : GoodIn wsX3_standAt (wsV RX3 36 RX3 yX3_dropGapsBehind wsX3_dropGapsBehind) := goodIn_app (goodIn_of _ (by decide +kernel)) ggX3_standAt_X3_dropGapsBehind
theorem dX3_standAt_0 : decode cX3_standAt 0 = .ok (.aload_n 0, 1) := by decide +kernel
theorem dX3_standAt_1 : decode cX3_standAt 1 = .ok (.iload_n 1, 1) := by decide +kernel
theorem dX3_standAt_2 : decode cX3_standAt 2 = .ok (.putfield 9, 3) := by decide +kernel
theorem dX3_standAt_5 : decode cX3_standAt 5 = .ok (.aload_n 0, 1) := by decide +kernel
theorem dX3_standAt_6 : decode cX3_standAt 6 = .ok (.iload_n 1, 1) := by decide +kernel
theorem dX3_standAt_7 : decode cX3_standAt 7 = .ok (.putfield 15, 3) := by decide +kernel
theorem dX3_standAt_10 : decode cX3_standAt 10 = .ok (.aload_n 0, 1) := by decide +kernel
theorem dX3_standAt_11 : decode cX3_standAt 11 = .ok (.iload_n 2, 1) := by decide +kernel
theorem dX3_standAt_12 : decode cX3_standAt 12 = .ok (.putfield 18, 3) := by decide +kernel
theorem dX3_standAt_15 : decode cX3_standAt 15 = .ok (.aload_n 0, 1) := by decide +kernel
theorem dX3_standAt_16 : decode cX3_standAt 16 = .ok (.iconst 0, 1) := by decide +kernel
theorem dX3_standAt_17 : decode cX3_standAt 17 = .ok (.invokevirtual 36, 3) := by decide +kernel
theorem dX3_standAt_20 : decode cX3_standAt 20 = .ok (.return_, 1) := by decide +kernel
set_option maxRecDepth 20000 in
theorem ggX3_cutTo_X3_dropGapsBehind : GoodIn wsX3_cutTo wsX3_dropGapsBehind := goodIn_r _ [12, 13, 14, 4, 15, 16, 17, 18, 19, 20] (by decide +kernel) (by decide +kernel)
set_option maxRecDepth 20000 in
theorem gX3_cutTo_X3_dropGapsBehind : GoodIn wsX3_cutTo (wsV RX3 36 RX3 yX3_dropGapsBehind wsX3_dropGapsBehind) := goodIn_app (goodIn_of _ (by decide +kernel)) ggX3_cutTo_X3_dropGapsBehind
theorem dX3_cutTo_0 : decode cX3_cutTo 0 = .ok (.aload_n 0, 1) := by decide +kernel
theorem dX3_cutTo_1 : decode cX3_cutTo 1 = .ok (.aload_n 0, 1) := by decide +kernel
theorem dX3_cutTo_2 : decode cX3_cutTo 2 = .ok (.getfield 9, 3) := by decide +kernel
theorem dX3_cutTo_5 : decode cX3_cutTo 5 = .ok (.iload_n 1, 1) := by decide +kernel
theorem dX3_cutTo_6 : decode cX3_cutTo 6 = .ok (.invokestatic 40, 3) := by decide +kernel
theorem dX3_cutTo_9 : decode cX3_cutTo 9 = .ok (.putfield 9, 3) := by decide +kernel
theorem dX3_cutTo_12 : decode cX3_cutTo 12 = .ok (.aload_n 0, 1) := by decide +kernel
theorem dX3_cutTo_13 : decode cX3_cutTo 13 = .ok (.iload_n 1, 1) := by decide +kernel
theorem dX3_cutTo_14 : decode cX3_cutTo 14 = .ok (.invokevirtual 36, 3) := by decide +kernel
theorem dX3_cutTo_17 : decode cX3_cutTo 17 = .ok (.aload_n 0, 1) := by decide +kernel
theorem dX3_cutTo_18 : decode cX3_cutTo 18 = .ok (.getfield 15, 3) := by decide +kernel
theorem dX3_cutTo_21 : decode cX3_cutTo 21 = .ok (.iload_n 1, 1) := by decide +kernel
theorem dX3_cutTo_22 : decode cX3_cutTo 22 = .ok (.if_icmp .le 13, 3) := by decide +kernel
theorem dX3_cutTo_25 : decode cX3_cutTo 25 = .ok (.aload_n 0, 1) := by decide +kernel
theorem dX3_cutTo_26 : decode cX3_cutTo 26 = .ok (.iload_n 1, 1) := by decide +kernel
theorem dX3_cutTo_27 : decode cX3_cutTo 27 = .ok (.putfield 15, 3) := by decide +kernel
theorem dX3_cutTo_30 : decode cX3_cutTo 30 = .ok (.aload_n 0, 1) := by decide +kernel
theorem dX3_cutTo_31 : decode cX3_cutTo 31 = .ok (.iconst 1, 1) := by decide +kernel
theorem dX3_cutTo_32 : decode cX3_cutTo 32 = .ok (.putfield 18, 3) := by decide +kernel
theorem dX3_cutTo_35 : decode cX3_cutTo 35 = .ok (.return_, 1) := by decide +kernel
theorem dX3_copyFrom_0 : decode cX3_copyFrom 0 = .ok (.aload_n 0, 1) := by decide +kernel
theorem dX3_copyFrom_1 : decode cX3_copyFrom 1 = .ok (.aload_n 1, 1) := by decide +kernel
theorem dX3_copyFrom_2 : decode cX3_copyFrom 2 = .ok (.getfield 9, 3) := by decide +kernel
theorem dX3_copyFrom_5 : decode cX3_copyFrom 5 = .ok (.putfield 9, 3) := by decide +kernel
theorem dX3_copyFrom_8 : decode cX3_copyFrom 8 = .ok (.aload_n 0, 1) := by decide +kernel
theorem dX3_copyFrom_9 : decode cX3_copyFrom 9 = .ok (.aload_n 1, 1) := by decide +kernel
theorem dX3_copyFrom_10 : decode cX3_copyFrom 10 = .ok (.getfield 15, 3) := by decide +kernel
theorem dX3_copyFrom_13 : decode cX3_copyFrom 13 = .ok (.putfield 15, 3) := by decide +kernel
theorem dX3_copyFrom_16 : decode cX3_copyFrom 16 = .ok (.aload_n 0, 1) := by decide +kernel
theorem dX3_copyFrom_17 : decode cX3_copyFrom 17 = .ok (.aload_n 1, 1) := by decide +kernel
theorem dX3_copyFrom_18 : decode cX3_copyFrom 18 = .ok (.getfield 18, 3) := by decide +kernel
theorem dX3_copyFrom_21 : decode cX3_copyFrom 21 = .ok (.putfield 18, 3) := by decide +kernel
theorem dX3_copyFrom_24 : decode cX3_copyFrom 24 = .ok (.aload_n 1, 1) := by decide +kernel
theorem dX3_copyFrom_25 : decode cX3_copyFrom 25 = .ok (.getfield 22, 3) := by decide +kernel
theorem dX3_copyFrom_28 : decode cX3_copyFrom 28 = .ok (.iconst 0, 1) := by decide +kernel
theorem dX3_copyFrom_29 : decode cX3_copyFrom 29 = .ok (.aload_n 0, 1) := by decide +kernel
theorem dX3_copyFrom_30 : decode cX3_copyFrom 30 = .ok (.getfield 22, 3) := by decide +kernel
theorem dX3_copyFrom_33 : decode cX3_copyFrom 33 = .ok (.iconst 0, 1) := by decide +kernel
theorem dX3_copyFrom_34 : decode cX3_copyFrom 34 = .ok (.bipush 101, 2) := by decide +kernel
theorem dX3_copyFrom_36 : decode cX3_copyFrom 36 = .ok (.invokestatic 43, 3) := by decide +kernel
theorem dX3_copyFrom_39 : decode cX3_copyFrom 39 = .ok (.return_, 1) := by decide +kernel
set_option maxRecDepth 20000 in
theorem ggX4_init_X1_init : GoodIn wsX4_init wsX1_init := goodIn_r _ [24, 25, 2, 3, 26, 13, 27, 28, 29, 30, 31, 40, 41, 42, 43, 44, 45] (by decide +kernel) (by decide +kernel)
set_option maxRecDepth 20000 in
theorem gX4_init_X1_init_n11 : GoodIn wsX4_init (wsX1_init) := ggX4_init_X1_init
set_option maxRecDepth 20000 in
theorem ggX4_init_X3_init : GoodIn wsX4_init wsX3_init := goodIn_r _ [33, 34, 2, 3, 35, 36, 37, 38, 39, 58, 59, 60, 61] (by decide +kernel) (by decide +kernel)
set_option maxRecDepth 20000 in
theorem gX4_init_X3_init_n20 : GoodIn wsX4_init (wsX3_init) := ggX4_init_X3_init
theorem dX4_init_0 : decode cX4_init 0 = .ok (.aload_n 0, 1) := by decide +kernel
theorem dX4_init_1 : decode cX4_init 1 = .ok (.invokespecial 3, 3) := by decide +kernel
theorem dX4_init_4 : decode cX4_init 4 = .ok (.aload_n 0, 1) := by decide +kernel
theorem dX4_init_5 : decode cX4_init 5 = .ok (.new 9, 3) := by decide +kernel
theorem dX4_init_8 : decode cX4_init 8 = .ok (.dup, 1) := by decide +kernel
theorem dX4_init_9 : decode cX4_init 9 = .ok (.invokespecial 11, 3) := by decide +kernel
theorem dX4_init_12 : decode cX4_init 12 = .ok (.putfield 12, 3) := by decide +kernel
theorem dX4_init_15 : decode cX4_init 15 = .ok (.aload_n 0, 1) := by decide +kernel
theorem dX4_init_16 : decode cX4_init 16 = .ok (.new 18, 3) := by decide +kernel
theorem dX4_init_19 : decode cX4_init 19 = .ok (.dup, 1) := by decide +kernel
theorem dX4_init_20 : decode cX4_init 20 = .ok (.invokespecial 20, 3) := by decide +kernel
theorem dX4_init_23 : decode cX4_init 23 = .ok (.putfield 21, 3) := by decide +kernel
theorem dX4_init_26 : decode cX4_init 26 = .ok (.aload_n 0, 1) := by decide +kernel
theorem dX4_init_27 : decode cX4_init 27 = .ok (.new 18, 3) := by decide +kernel
theorem dX4_init_30 : decode cX4_init 30 = .ok (.dup, 1) := by decide +kernel
theorem dX4_init_31 : decode cX4_init 31 = .ok (.invokespecial 20, 3) := by decide +kernel
theorem dX4_init_34 : decode cX4_init 34 = .ok (.putfield 25, 3) := by decide +kernel
theorem dX4_init_37 : decode cX4_init 37 = .ok (.aload_n 0, 1) := by decide +kernel
theorem dX4_init_38 : decode cX4_init 38 = .ok (.iconst 3, 1) := by decide +kernel
theorem dX4_init_39 : decode cX4_init 39 = .ok (.newarray .int, 2) := by decide +kernel
theorem dX4_init_41 : decode cX4_init 41 = .ok (.putfield 28, 3) := by decide +kernel
theorem dX4_init_44 : decode cX4_init 44 = .ok (.aload_n 0, 1) := by decide +kernel
theorem dX4_init_45 : decode cX4_init 45 = .ok (.iconst 0, 1) := by decide +kernel
theorem dX4_init_46 : decode cX4_init 46 = .ok (.putfield 32, 3) := by decide +kernel
theorem dX4_init_49 : decode cX4_init 49 = .ok (.aload_n 0, 1) := by decide +kernel
theorem dX4_init_50 : decode cX4_init 50 = .ok (.iconst 1, 1) := by decide +kernel
theorem dX4_init_51 : decode cX4_init 51 = .ok (.putfield 36, 3) := by decide +kernel
theorem dX4_init_54 : decode cX4_init 54 = .ok (.aload_n 0, 1) := by decide +kernel
theorem dX4_init_55 : decode cX4_init 55 = .ok (.iconst 0, 1) := by decide +kernel
theorem dX4_init_56 : decode cX4_init 56 = .ok (.putfield 39, 3) := by decide +kernel
theorem dX4_init_59 : decode cX4_init 59 = .ok (.aload_n 0, 1) := by decide +kernel
theorem dX4_init_60 : decode cX4_init 60 = .ok (.iconst 0, 1) := by decide +kernel
theorem dX4_init_61 : decode cX4_init 61 = .ok (.putfield 42, 3) := by decide +kernel
theorem dX4_init_64 : decode cX4_init 64 = .ok (.aload_n 0, 1) := by decide +kernel
theorem dX4_init_65 : decode cX4_init 65 = .ok (.iconst 0, 1) := by decide +kernel
theorem dX4_init_66 : decode cX4_init 66 = .ok (.putfield 45, 3) := by decide +kernel
theorem dX4_init_69 : decode cX4_init 69 = .ok (.aload_n 0, 1) := by decide +kernel
theorem dX4_init_70 : decode cX4_init 70 = .ok (.iconst 0, 1) := by decide +kernel
theorem dX4_init_71 : decode cX4_init 71 = .ok (.putfield 48, 3) := by decide +kernel
theorem dX4_init_74 : decode cX4_init 74 = .ok (.aload_n 0, 1) := by decide +kernel
theorem dX4_init_75 : decode cX4_init 75 = .ok (.iconst 4, 1) := by decide +kernel
theorem dX4_init_76 : decode cX4_init 76 = .ok (.putfield 51, 3) := by decide +kernel
theorem dX4_init_79 : decode cX4_init 79 = .ok (.aload_n 0, 1) := by decide +kernel
theorem dX4_init_80 : decode cX4_init 80 = .ok (.iconst 2, 1) := by decide +kernel
theorem dX4_init_81 : decode cX4_init 81 = .ok (.putfield 54, 3) := by decide +kernel
theorem dX4_init_84 : decode cX4_init 84 = .ok (.return_, 1) := by decide +kernel
theorem dX4_standby_0 : decode cX4_standby 0 = .ok (.iload_n 1, 1) := by decide +kernel
theorem dX4_standby_1 : decode cX4_standby 1 = .ok (.ifCond .ne 10, 3) := by decide +kernel
theorem dX4_standby_4 : decode cX4_standby 4 = .ok (.aload_n 0, 1) := by decide +kernel
theorem dX4_standby_5 : decode cX4_standby 5 = .ok (.getfield 21, 3) := by decide +kernel
theorem dX4_standby_8 : decode cX4_standby 8 = .ok (.goto 7, 3) := by decide +kernel
theorem dX4_standby_11 : decode cX4_standby 11 = .ok (.aload_n 0, 1) := by decide +kernel
theorem dX4_standby_12 : decode cX4_standby 12 = .ok (.getfield 25, 3) := by decide +kernel
theorem dX4_standby_15 : decode cX4_standby 15 = .ok (.areturn, 1) := by decide +kernel
theorem dX4_isPosition_0 : decode cX4_isPosition 0 = .ok (.iload_n 1, 1) := by decide +kernel
theorem dX4_isPosition_1 : decode cX4_isPosition 1 = .ok (.ifCond .lt 18, 3) := by decide +kernel
theorem dX4_isPosition_4 : decode cX4_isPosition 4 = .ok (.iload_n 1, 1) := by decide +kernel
theorem dX4_isPosition_5 : decode cX4_isPosition 5 = .ok (.aload_n 0, 1) := by decide +kernel
theorem dX4_isPosition_6 : decode cX4_isPosition 6 = .ok (.getfield 12, 3) := by decide +kernel
theorem dX4_isPosition_9 : decode cX4_isPosition 9 = .ok (.getfield 57, 3) := by decide +kernel
theorem dX4_isPosition_12 : decode cX4_isPosition 12 = .ok (.if_icmp .gt 7, 3) := by decide +kernel
theorem dX4_isPosition_15 : decode cX4_isPosition 15 = .ok (.iconst 1, 1) := by decide +kernel
theorem dX4_isPosition_16 : decode cX4_isPosition 16 = .ok (.goto 4, 3) := by decide +kernel
theorem dX4_isPosition_19 : decode cX4_isPosition 19 = .ok (.iconst 0, 1) := by decide +kernel
theorem dX4_isPosition_20 : decode cX4_isPosition 20 = .ok (.ireturn, 1) := by decide +kernel
set_option maxRecDepth 20000 in
theorem ggX4_transactionIn_X6_isSlot : GoodIn wsX4_transactionIn wsX6_isSlot := goodIn_r _ [4] (by decide +kernel) (by decide +kernel)
set_option maxRecDepth 20000 in
theorem gX4_transactionIn_X6_isSlot_n60 : GoodIn wsX4_transactionIn (wsX6_isSlot) := ggX4_transactionIn_X6_isSlot
theorem dX4_transactionIn_0 : decode cX4_transactionIn 0 = .ok (.iload_n 1, 1) := by decide +kernel
theorem dX4_transactionIn_1 : decode cX4_transactionIn 1 = .ok (.invokestatic 60, 3) := by decide +kernel
theorem dX4_transactionIn_4 : decode cX4_transactionIn 4 = .ok (.ifCond .eq 12, 3) := by decide +kernel
theorem dX4_transactionIn_7 : decode cX4_transactionIn 7 = .ok (.aload_n 0, 1) := by decide +kernel
theorem dX4_transactionIn_8 : decode cX4_transactionIn 8 = .ok (.getfield 28, 3) := by decide +kernel
theorem dX4_transactionIn_11 : decode cX4_transactionIn 11 = .ok (.iload_n 1, 1) := by decide +kernel
theorem dX4_transactionIn_12 : decode cX4_transactionIn 12 = .ok (.iaload, 1) := by decide +kernel
theorem dX4_transactionIn_13 : decode cX4_transactionIn 13 = .ok (.goto 4, 3) := by decide +kernel
theorem dX4_transactionIn_16 : decode cX4_transactionIn 16 = .ok (.iconst 0, 1) := by decide +kernel
theorem dX4_transactionIn_17 : decode cX4_transactionIn 17 = .ok (.ireturn, 1) := by decide +kernel
set_option maxRecDepth 20000 in
theorem ggX4_openIn_X6_isSlot : GoodIn wsX4_openIn wsX6_isSlot := goodIn_r _ [7] (by decide +kernel) (by decide +kernel)
set_option maxRecDepth 20000 in
theorem gX4_openIn_X6_isSlot_n60 : GoodIn wsX4_openIn (wsX6_isSlot) := ggX4_openIn_X6_isSlot
theorem dX4_openIn_0 : decode cX4_openIn 0 = .ok (.iload_n 1, 1) := by decide +kernel
theorem dX4_openIn_1 : decode cX4_openIn 1 = .ok (.invokestatic 60, 3) := by decide +kernel
theorem dX4_openIn_4 : decode cX4_openIn 4 = .ok (.ifCond .ne 6, 3) := by decide +kernel
theorem dX4_openIn_7 : decode cX4_openIn 7 = .ok (.ldc 64, 2) := by decide +kernel
theorem dX4_openIn_9 : decode cX4_openIn 9 = .ok (.ireturn, 1) := by decide +kernel
theorem dX4_openIn_10 : decode cX4_openIn 10 = .ok (.aload_n 0, 1) := by decide +kernel
theorem dX4_openIn_11 : decode cX4_openIn 11 = .ok (.getfield 28, 3) := by decide +kernel
theorem dX4_openIn_14 : decode cX4_openIn 14 = .ok (.iload_n 1, 1) := by decide +kernel
theorem dX4_openIn_15 : decode cX4_openIn 15 = .ok (.iaload, 1) := by decide +kernel
theorem dX4_openIn_16 : decode cX4_openIn 16 = .ok (.ifCond .eq 6, 3) := by decide +kernel
theorem dX4_openIn_19 : decode cX4_openIn 19 = .ok (.ldc 65, 2) := by decide +kernel
theorem dX4_openIn_21 : decode cX4_openIn 21 = .ok (.ireturn, 1) := by decide +kernel
theorem dX4_openIn_22 : decode cX4_openIn 22 = .ok (.aload_n 0, 1) := by decide +kernel
theorem dX4_openIn_23 : decode cX4_openIn 23 = .ok (.dup, 1) := by decide +kernel
theorem dX4_openIn_24 : decode cX4_openIn 24 = .ok (.getfield 39, 3) := by decide +kernel
theorem dX4_openIn_27 : decode cX4_openIn 27 = .ok (.iconst 1, 1) := by decide +kernel
theorem dX4_openIn_28 : decode cX4_openIn 28 = .ok (.iadd, 1) := by decide +kernel
theorem dX4_openIn_29 : decode cX4_openIn 29 = .ok (.putfield 39, 3) := by decide +kernel
theorem dX4_openIn_32 : decode cX4_openIn 32 = .ok (.aload_n 0, 1) := by decide +kernel
theorem dX4_openIn_33 : decode cX4_openIn 33 = .ok (.getfield 28, 3) := by decide +kernel
theorem dX4_openIn_36 : decode cX4_openIn 36 = .ok (.iload_n 1, 1) := by decide +kernel
theorem dX4_openIn_37 : decode cX4_openIn 37 = .ok (.aload_n 0, 1) := by decide +kernel
theorem dX4_openIn_38 : decode cX4_openIn 38 = .ok (.getfield 39, 3) := by decide +kernel
theorem dX4_openIn_41 : decode cX4_openIn 41 = .ok (.iastore, 1) := by decide +kernel
theorem dX4_openIn_42 : decode cX4_openIn 42 = .ok (.aload_n 0, 1) := by decide +kernel
theorem dX4_openIn_43 : decode cX4_openIn 43 = .ok (.getfield 39, 3) := by decide +kernel
theorem dX4_openIn_46 : decode cX4_openIn 46 = .ok (.ireturn, 1) := by decide +kernel
set_option maxRecDepth 20000 in
theorem ggX4_putBy_X6_isSlot : GoodIn wsX4_putBy wsX6_isSlot := goodIn_r _ [5] (by decide +kernel) (by decide +kernel)
set_option maxRecDepth 20000 in
theorem gX4_putBy_X6_isSlot_n60 : GoodIn wsX4_putBy (wsX6_isSlot) := ggX4_putBy_X6_isSlot
set_option maxRecDepth 20000 in
theorem ggX4_putBy_X6_isKey : GoodIn wsX4_putBy wsX6_isKey := goodIn_r _ [7] (by decide +kernel) (by decide +kernel)
set_option maxRecDepth 20000 in
theorem gX4_putBy_X6_isKey_n66 : GoodIn wsX4_putBy (wsX6_isKey) := ggX4_putBy_X6_isKey
set_option maxRecDepth 20000 in
theorem ggX4_putBy_X4_write : GoodIn wsX4_putBy wsX4_write := goodIn_r _ [12, 13, 14, 15, 16, 17, 18, 19, 20, 21, 22, 23, 24, 25, 26, 27, 28, 29, 30, 31, 32, 33, 34, 35, 36, 37, 38, 39, 40, 41, 42, 43, 44, 45] (by decide +kernel) (by decide +kernel)
set_option maxRecDepth 20000 in
theorem gX4_putBy_X4_write : GoodIn wsX4_putBy (wsV RX4 69 RX4 yX4_write wsX4_write) := goodIn_app (goodIn_of _ (by decide +kernel)) ggX4_putBy_X4_write
theorem dX4_putBy_0 : decode cX4_putBy 0 = .ok (.iload_n 1, 1) := by decide +kernel
theorem dX4_putBy_1 : decode cX4_putBy 1 = .ok (.invokestatic 60, 3) := by decide +kernel
theorem dX4_putBy_4 : decode cX4_putBy 4 = .ok (.ifCond .eq 21, 3) := by decide +kernel
theorem dX4_putBy_7 : decode cX4_putBy 7 = .ok (.iload_n 2, 1) := by decide +kernel
theorem dX4_putBy_8 : decode cX4_putBy 8 = .ok (.invokestatic 66, 3) := by decide +kernel
theorem dX4_putBy_11 : decode cX4_putBy 11 = .ok (.ifCond .eq 14, 3) := by decide +kernel
theorem dX4_putBy_14 : decode cX4_putBy 14 = .ok (.iload_n 3, 1) := by decide +kernel
theorem dX4_putBy_15 : decode cX4_putBy 15 = .ok (.ifCond .lt 10, 3) := by decide +kernel
theorem dX4_putBy_18 : decode cX4_putBy 18 = .ok (.iload_n 3, 1) := by decide +kernel
theorem dX4_putBy_19 : decode cX4_putBy 19 = .ok (.sipush 999, 3) := by decide +kernel
theorem dX4_putBy_22 : decode cX4_putBy 22 = .ok (.if_icmp .le 6, 3) := by decide +kernel
theorem dX4_putBy_25 : decode cX4_putBy 25 = .ok (.ldc 64, 2) := by decide +kernel
theorem dX4_putBy_27 : decode cX4_putBy 27 = .ok (.ireturn, 1) := by decide +kernel
theorem dX4_putBy_28 : decode cX4_putBy 28 = .ok (.aload_n 0, 1) := by decide +kernel
theorem dX4_putBy_29 : decode cX4_putBy 29 = .ok (.iconst 0, 1) := by decide +kernel
theorem dX4_putBy_30 : decode cX4_putBy 30 = .ok (.aload_n 0, 1) := by decide +kernel
theorem dX4_putBy_31 : decode cX4_putBy 31 = .ok (.getfield 28, 3) := by decide +kernel
theorem dX4_putBy_34 : decode cX4_putBy 34 = .ok (.iload_n 1, 1) := by decide +kernel
theorem dX4_putBy_35 : decode cX4_putBy 35 = .ok (.iaload, 1) := by decide +kernel
theorem dX4_putBy_36 : decode cX4_putBy 36 = .ok (.iload_n 2, 1) := by decide +kernel
theorem dX4_putBy_37 : decode cX4_putBy 37 = .ok (.iload_n 3, 1) := by decide +kernel
theorem dX4_putBy_38 : decode cX4_putBy 38 = .ok (.invokevirtual 69, 3) := by decide +kernel
theorem dX4_putBy_41 : decode cX4_putBy 41 = .ok (.ireturn, 1) := by decide +kernel
set_option maxRecDepth 20000 in
theorem ggX4_endIn_X6_isSlot : GoodIn wsX4_endIn wsX6_isSlot := goodIn_r _ [5] (by decide +kernel) (by decide +kernel)
set_option maxRecDepth 20000 in
theorem gX4_endIn_X6_isSlot_n60 : GoodIn wsX4_endIn (wsX6_isSlot) := ggX4_endIn_X6_isSlot
set_option maxRecDepth 20000 in
theorem ggX4_endIn_X4_write : GoodIn wsX4_endIn wsX4_write := goodIn_r _ [10, 11, 12, 13, 14, 15, 16, 17, 18, 19, 20, 21, 22, 23, 24, 25, 26, 27, 28, 29, 30, 31, 32, 33, 34, 35, 36, 37, 38, 39, 40, 41, 42, 43] (by decide +kernel) (by decide +kernel)
set_option maxRecDepth 20000 in
theorem gX4_endIn_X4_write : GoodIn wsX4_endIn (wsV RX4 69 RX4 yX4_write wsX4_write) := goodIn_app (goodIn_of _ (by decide +kernel)) ggX4_endIn_X4_write
theorem dX4_endIn_0 : decode cX4_endIn 0 = .ok (.iload_n 1, 1) := by decide +kernel
theorem dX4_endIn_1 : decode cX4_endIn 1 = .ok (.invokestatic 60, 3) := by decide +kernel
theorem dX4_endIn_4 : decode cX4_endIn 4 = .ok (.ifCond .ne 6, 3) := by decide +kernel
theorem dX4_endIn_7 : decode cX4_endIn 7 = .ok (.ldc 64, 2) := by decide +kernel
theorem dX4_endIn_9 : decode cX4_endIn 9 = .ok (.ireturn, 1) := by decide +kernel
theorem dX4_endIn_10 : decode cX4_endIn 10 = .ok (.aload_n 0, 1) := by decide +kernel
theorem dX4_endIn_11 : decode cX4_endIn 11 = .ok (.iload_n 2, 1) := by decide +kernel
theorem dX4_endIn_12 : decode cX4_endIn 12 = .ok (.aload_n 0, 1) := by decide +kernel
theorem dX4_endIn_13 : decode cX4_endIn 13 = .ok (.getfield 28, 3) := by decide +kernel
theorem dX4_endIn_16 : decode cX4_endIn 16 = .ok (.iload_n 1, 1) := by decide +kernel
theorem dX4_endIn_17 : decode cX4_endIn 17 = .ok (.iaload, 1) := by decide +kernel
theorem dX4_endIn_18 : decode cX4_endIn 18 = .ok (.iconst 0, 1) := by decide +kernel
theorem dX4_endIn_19 : decode cX4_endIn 19 = .ok (.iconst 0, 1) := by decide +kernel
theorem dX4_endIn_20 : decode cX4_endIn 20 = .ok (.invokevirtual 69, 3) := by decide +kernel
theorem dX4_endIn_23 : decode cX4_endIn 23 = .ok (.istore_n 3, 1) := by decide +kernel
theorem dX4_endIn_24 : decode cX4_endIn 24 = .ok (.iload_n 3, 1) := by decide +kernel
theorem dX4_endIn_25 : decode cX4_endIn 25 = .ok (.iconst 1, 1) := by decide +kernel
theorem dX4_endIn_26 : decode cX4_endIn 26 = .ok (.if_icmp .lt 10, 3) := by decide +kernel
theorem dX4_endIn_29 : decode cX4_endIn 29 = .ok (.aload_n 0, 1) := by decide +kernel
theorem dX4_endIn_30 : decode cX4_endIn 30 = .ok (.getfield 28, 3) := by decide +kernel
theorem dX4_endIn_33 : decode cX4_endIn 33 = .ok (.iload_n 1, 1) := by decide +kernel
theorem dX4_endIn_34 : decode cX4_endIn 34 = .ok (.iconst 0, 1) := by decide +kernel
theorem dX4_endIn_35 : decode cX4_endIn 35 = .ok (.iastore, 1) := by decide +kernel
theorem dX4_endIn_36 : decode cX4_endIn 36 = .ok (.iload_n 3, 1) := by decide +kernel
theorem dX4_endIn_37 : decode cX4_endIn 37 = .ok (.ireturn, 1) := by decide +kernel
set_option maxRecDepth 20000 in
theorem ggX4_write_X1_append : GoodIn wsX4_write wsX1_append := goodIn_r _ [8, 9, 10, 11, 12, 13, 14, 15, 28, 29, 30, 31, 32, 33] (by decide +kernel) (by decide +kernel)
set_option maxRecDepth 20000 in
theorem gX4_write_X1_append : GoodIn wsX4_write (wsV RX4 73 RX1 yX1_append wsX1_append) := goodIn_app (goodIn_of _ (by decide +kernel)) ggX4_write_X1_append
theorem dX4_write_0 : decode cX4_write 0 = .ok (.iload_n 2, 1) := by decide +kernel
theorem dX4_write_1 : decode cX4_write 1 = .ok (.ifCond .ne 6, 3) := by decide +kernel
theorem dX4_write_4 : decode cX4_write 4 = .ok (.ldc 65, 2) := by decide +kernel
theorem dX4_write_6 : decode cX4_write 6 = .ok (.ireturn, 1) := by decide +kernel
theorem dX4_write_7 : decode cX4_write 7 = .ok (.aload_n 0, 1) := by decide +kernel
theorem dX4_write_8 : decode cX4_write 8 = .ok (.getfield 12, 3) := by decide +kernel
theorem dX4_write_11 : decode cX4_write 11 = .ok (.iload_n 1, 1) := by decide +kernel
theorem dX4_write_12 : decode cX4_write 12 = .ok (.iload_n 2, 1) := by decide +kernel
theorem dX4_write_13 : decode cX4_write 13 = .ok (.iload_n 3, 1) := by decide +kernel
theorem dX4_write_14 : decode cX4_write 14 = .ok (.iload 4, 2) := by decide +kernel
theorem dX4_write_16 : decode cX4_write 16 = .ok (.aload_n 0, 1) := by decide +kernel
theorem dX4_write_17 : decode cX4_write 17 = .ok (.getfield 32, 3) := by decide +kernel
theorem dX4_write_20 : decode cX4_write 20 = .ok (.invokevirtual 73, 3) := by decide +kernel
theorem dX4_write_23 : decode cX4_write 23 = .ok (.ireturn, 1) := by decide +kernel
set_option maxRecDepth 20000 in
theorem ggX4_shipTo_X6_isStandby : GoodIn wsX4_shipTo wsX6_isStandby := goodIn_r _ [13] (by decide +kernel) (by decide +kernel)
set_option maxRecDepth 20000 in
theorem gX4_shipTo_X6_isStandby_n77 : GoodIn wsX4_shipTo (wsX6_isStandby) := ggX4_shipTo_X6_isStandby
set_option maxRecDepth 20000 in
theorem ggX4_shipTo_X4_standby : GoodIn wsX4_shipTo wsX4_standby := goodIn_r _ [18, 19, 20, 25, 26, 27, 28, 29, 30, 31, 32, 33, 34, 35, 36] (by decide +kernel) (by decide +kernel)
set_option maxRecDepth 20000 in
theorem gX4_shipTo_X4_standby : GoodIn wsX4_shipTo (wsV RX4 80 RX4 yX4_standby wsX4_standby) := goodIn_app (goodIn_of _ (by decide +kernel)) ggX4_shipTo_X4_standby
theorem dX4_shipTo_0 : decode cX4_shipTo 0 = .ok (.iload_n 1, 1) := by decide +kernel
theorem dX4_shipTo_1 : decode cX4_shipTo 1 = .ok (.invokestatic 77, 3) := by decide +kernel
theorem dX4_shipTo_4 : decode cX4_shipTo 4 = .ok (.ifCond .eq 14, 3) := by decide +kernel
theorem dX4_shipTo_7 : decode cX4_shipTo 7 = .ok (.iload_n 2, 1) := by decide +kernel
theorem dX4_shipTo_8 : decode cX4_shipTo 8 = .ok (.iconst 1, 1) := by decide +kernel
theorem dX4_shipTo_9 : decode cX4_shipTo 9 = .ok (.if_icmp .lt 9, 3) := by decide +kernel
theorem dX4_shipTo_12 : decode cX4_shipTo 12 = .ok (.iload_n 2, 1) := by decide +kernel
theorem dX4_shipTo_13 : decode cX4_shipTo 13 = .ok (.bipush 20, 2) := by decide +kernel
theorem dX4_shipTo_15 : decode cX4_shipTo 15 = .ok (.if_icmp .le 6, 3) := by decide +kernel
theorem dX4_shipTo_18 : decode cX4_shipTo 18 = .ok (.ldc 64, 2) := by decide +kernel
theorem dX4_shipTo_20 : decode cX4_shipTo 20 = .ok (.ireturn, 1) := by decide +kernel
theorem dX4_shipTo_21 : decode cX4_shipTo 21 = .ok (.aload_n 0, 1) := by decide +kernel
theorem dX4_shipTo_22 : decode cX4_shipTo 22 = .ok (.iload_n 1, 1) := by decide +kernel
theorem dX4_shipTo_23 : decode cX4_shipTo 23 = .ok (.invokevirtual 80, 3) := by decide +kernel
theorem dX4_shipTo_26 : decode cX4_shipTo 26 = .ok (.astore_n 3, 1) := by decide +kernel
theorem dX4_shipTo_27 : decode cX4_shipTo 27 = .ok (.aload_n 3, 1) := by decide +kernel
theorem dX4_shipTo_28 : decode cX4_shipTo 28 = .ok (.getfield 84, 3) := by decide +kernel
theorem dX4_shipTo_31 : decode cX4_shipTo 31 = .ok (.ifCond .eq 6, 3) := by decide +kernel
theorem dX4_shipTo_34 : decode cX4_shipTo 34 = .ok (.ldc 65, 2) := by decide +kernel
theorem dX4_shipTo_36 : decode cX4_shipTo 36 = .ok (.ireturn, 1) := by decide +kernel
theorem dX4_shipTo_37 : decode cX4_shipTo 37 = .ok (.iload_n 2, 1) := by decide +kernel
theorem dX4_shipTo_38 : decode cX4_shipTo 38 = .ok (.aload_n 0, 1) := by decide +kernel
theorem dX4_shipTo_39 : decode cX4_shipTo 39 = .ok (.getfield 12, 3) := by decide +kernel
theorem dX4_shipTo_42 : decode cX4_shipTo 42 = .ok (.getfield 57, 3) := by decide +kernel
theorem dX4_shipTo_45 : decode cX4_shipTo 45 = .ok (.aload_n 3, 1) := by decide +kernel
theorem dX4_shipTo_46 : decode cX4_shipTo 46 = .ok (.getfield 88, 3) := by decide +kernel
theorem dX4_shipTo_49 : decode cX4_shipTo 49 = .ok (.isub, 1) := by decide +kernel
theorem dX4_shipTo_50 : decode cX4_shipTo 50 = .ok (.invokestatic 91, 3) := by decide +kernel
theorem dX4_shipTo_53 : decode cX4_shipTo 53 = .ok (.istore 4, 2) := by decide +kernel
theorem dX4_shipTo_55 : decode cX4_shipTo 55 = .ok (.aload_n 3, 1) := by decide +kernel
theorem dX4_shipTo_56 : decode cX4_shipTo 56 = .ok (.dup, 1) := by decide +kernel
theorem dX4_shipTo_57 : decode cX4_shipTo 57 = .ok (.getfield 88, 3) := by decide +kernel
theorem dX4_shipTo_60 : decode cX4_shipTo 60 = .ok (.iload 4, 2) := by decide +kernel
theorem dX4_shipTo_62 : decode cX4_shipTo 62 = .ok (.iadd, 1) := by decide +kernel
theorem dX4_shipTo_63 : decode cX4_shipTo 63 = .ok (.putfield 88, 3) := by decide +kernel
theorem dX4_shipTo_66 : decode cX4_shipTo 66 = .ok (.iload 4, 2) := by decide +kernel
theorem dX4_shipTo_68 : decode cX4_shipTo 68 = .ok (.ireturn, 1) := by decide +kernel
set_option maxRecDepth 20000 in
theorem ggX4_loseFor_X6_isStandby : GoodIn wsX4_loseFor wsX6_isStandby := goodIn_r _ [9] (by decide +kernel) (by decide +kernel)
set_option maxRecDepth 20000 in
theorem gX4_loseFor_X6_isStandby_n77 : GoodIn wsX4_loseFor (wsX6_isStandby) := ggX4_loseFor_X6_isStandby
set_option maxRecDepth 20000 in
theorem ggX4_loseFor_X4_standby : GoodIn wsX4_loseFor wsX4_standby := goodIn_r _ [14, 15, 16, 35, 36, 37, 38, 39, 40, 41, 42, 43, 44, 45, 46] (by decide +kernel) (by decide +kernel)
set_option maxRecDepth 20000 in
theorem gX4_loseFor_X4_standby : GoodIn wsX4_loseFor (wsV RX4 80 RX4 yX4_standby wsX4_standby) := goodIn_app (goodIn_of _ (by decide +kernel)) ggX4_loseFor_X4_standby
set_option maxRecDepth 20000 in
theorem ggX4_loseFor_X3_isGap : GoodIn wsX4_loseFor wsX3_isGap := goodIn_r _ [21, 22, 31, 32, 33, 34] (by decide +kernel) (by decide +kernel)
set_option maxRecDepth 20000 in
theorem gX4_loseFor_X3_isGap : GoodIn wsX4_loseFor (wsV RX4 100 RX3 yX3_isGap wsX3_isGap) := goodIn_app (goodIn_of _ (by decide +kernel)) ggX4_loseFor_X3_isGap
set_option maxRecDepth 20000 in
theorem ggX4_loseFor_X3_setGap : GoodIn wsX4_loseFor wsX3_setGap := goodIn_r _ [26, 22, 31, 32, 33, 34] (by decide +kernel) (by decide +kernel)
set_option maxRecDepth 20000 in
theorem gX4_loseFor_X3_setGap : GoodIn wsX4_loseFor (wsV RX4 103 RX3 yX3_setGap wsX3_setGap) := goodIn_app (goodIn_of _ (by decide +kernel)) ggX4_loseFor_X3_setGap
set_option maxRecDepth 20000 in
theorem ggX4_loseFor_X3_gapCount : GoodIn wsX4_loseFor wsX3_gapCount := goodIn_r _ [30, 22, 31, 32, 33, 34] (by decide +kernel) (by decide +kernel)
set_option maxRecDepth 20000 in
theorem gX4_loseFor_X3_gapCount : GoodIn wsX4_loseFor (wsV RX4 107 RX3 yX3_gapCount wsX3_gapCount) := goodIn_app (goodIn_of _ (by decide +kernel)) ggX4_loseFor_X3_gapCount
theorem dX4_loseFor_0 : decode cX4_loseFor 0 = .ok (.iload_n 1, 1) := by decide +kernel
theorem dX4_loseFor_1 : decode cX4_loseFor 1 = .ok (.invokestatic 77, 3) := by decide +kernel
theorem dX4_loseFor_4 : decode cX4_loseFor 4 = .ok (.ifCond .eq 8, 3) := by decide +kernel
theorem dX4_loseFor_7 : decode cX4_loseFor 7 = .ok (.iload_n 2, 1) := by decide +kernel
theorem dX4_loseFor_8 : decode cX4_loseFor 8 = .ok (.iconst 1, 1) := by decide +kernel
theorem dX4_loseFor_9 : decode cX4_loseFor 9 = .ok (.if_icmp .ge 6, 3) := by decide +kernel
theorem dX4_loseFor_12 : decode cX4_loseFor 12 = .ok (.ldc 64, 2) := by decide +kernel
theorem dX4_loseFor_14 : decode cX4_loseFor 14 = .ok (.ireturn, 1) := by decide +kernel
theorem dX4_loseFor_15 : decode cX4_loseFor 15 = .ok (.aload_n 0, 1) := by decide +kernel
theorem dX4_loseFor_16 : decode cX4_loseFor 16 = .ok (.iload_n 1, 1) := by decide +kernel
theorem dX4_loseFor_17 : decode cX4_loseFor 17 = .ok (.invokevirtual 80, 3) := by decide +kernel
theorem dX4_loseFor_20 : decode cX4_loseFor 20 = .ok (.astore_n 3, 1) := by decide +kernel
theorem dX4_loseFor_21 : decode cX4_loseFor 21 = .ok (.aload_n 3, 1) := by decide +kernel
theorem dX4_loseFor_22 : decode cX4_loseFor 22 = .ok (.getfield 84, 3) := by decide +kernel
theorem dX4_loseFor_25 : decode cX4_loseFor 25 = .ok (.ifCond .ne 27, 3) := by decide +kernel
theorem dX4_loseFor_28 : decode cX4_loseFor 28 = .ok (.iload_n 2, 1) := by decide +kernel
theorem dX4_loseFor_29 : decode cX4_loseFor 29 = .ok (.aload_n 3, 1) := by decide +kernel
theorem dX4_loseFor_30 : decode cX4_loseFor 30 = .ok (.getfield 88, 3) := by decide +kernel
theorem dX4_loseFor_33 : decode cX4_loseFor 33 = .ok (.if_icmp .gt 19, 3) := by decide +kernel
theorem dX4_loseFor_36 : decode cX4_loseFor 36 = .ok (.iload_n 2, 1) := by decide +kernel
theorem dX4_loseFor_37 : decode cX4_loseFor 37 = .ok (.aload_n 3, 1) := by decide +kernel
theorem dX4_loseFor_38 : decode cX4_loseFor 38 = .ok (.getfield 97, 3) := by decide +kernel
theorem dX4_loseFor_41 : decode cX4_loseFor 41 = .ok (.if_icmp .le 11, 3) := by decide +kernel
theorem dX4_loseFor_44 : decode cX4_loseFor 44 = .ok (.aload_n 3, 1) := by decide +kernel
theorem dX4_loseFor_45 : decode cX4_loseFor 45 = .ok (.iload_n 2, 1) := by decide +kernel
theorem dX4_loseFor_46 : decode cX4_loseFor 46 = .ok (.invokevirtual 100, 3) := by decide +kernel
theorem dX4_loseFor_49 : decode cX4_loseFor 49 = .ok (.ifCond .eq 6, 3) := by decide +kernel
theorem dX4_loseFor_52 : decode cX4_loseFor 52 = .ok (.ldc 65, 2) := by decide +kernel
theorem dX4_loseFor_54 : decode cX4_loseFor 54 = .ok (.ireturn, 1) := by decide +kernel
theorem dX4_loseFor_55 : decode cX4_loseFor 55 = .ok (.aload_n 3, 1) := by decide +kernel
theorem dX4_loseFor_56 : decode cX4_loseFor 56 = .ok (.iload_n 2, 1) := by decide +kernel
theorem dX4_loseFor_57 : decode cX4_loseFor 57 = .ok (.invokevirtual 103, 3) := by decide +kernel
theorem dX4_loseFor_60 : decode cX4_loseFor 60 = .ok (.aload_n 0, 1) := by decide +kernel
theorem dX4_loseFor_61 : decode cX4_loseFor 61 = .ok (.dup, 1) := by decide +kernel
theorem dX4_loseFor_62 : decode cX4_loseFor 62 = .ok (.getfield 45, 3) := by decide +kernel
theorem dX4_loseFor_65 : decode cX4_loseFor 65 = .ok (.iconst 1, 1) := by decide +kernel
theorem dX4_loseFor_66 : decode cX4_loseFor 66 = .ok (.iadd, 1) := by decide +kernel
theorem dX4_loseFor_67 : decode cX4_loseFor 67 = .ok (.putfield 45, 3) := by decide +kernel
theorem dX4_loseFor_70 : decode cX4_loseFor 70 = .ok (.aload_n 3, 1) := by decide +kernel
theorem dX4_loseFor_71 : decode cX4_loseFor 71 = .ok (.invokevirtual 107, 3) := by decide +kernel
theorem dX4_loseFor_74 : decode cX4_loseFor 74 = .ok (.ireturn, 1) := by decide +kernel
set_option maxRecDepth 20000 in
theorem ggX4_resendTo_X6_isStandby : GoodIn wsX4_resendTo wsX6_isStandby := goodIn_r _ [6] (by decide +kernel) (by decide +kernel)
set_option maxRecDepth 20000 in
theorem gX4_resendTo_X6_isStandby_n77 : GoodIn wsX4_resendTo (wsX6_isStandby) := ggX4_resendTo_X6_isStandby
set_option maxRecDepth 20000 in
theorem ggX4_resendTo_X4_standby : GoodIn wsX4_resendTo wsX4_standby := goodIn_r _ [11, 12, 13, 32, 33, 34, 35, 36, 37, 38, 39, 40, 41, 42, 43] (by decide +kernel) (by decide +kernel)
set_option maxRecDepth 20000 in
theorem gX4_resendTo_X4_standby : GoodIn wsX4_resendTo (wsV RX4 80 RX4 yX4_standby wsX4_standby) := goodIn_app (goodIn_of _ (by decide +kernel)) ggX4_resendTo_X4_standby
set_option maxRecDepth 20000 in
theorem ggX4_resendTo_X3_gapCount : GoodIn wsX4_resendTo wsX3_gapCount := goodIn_r _ [18, 19, 28, 29, 30, 31] (by decide +kernel) (by decide +kernel)
set_option maxRecDepth 20000 in
theorem gX4_resendTo_X3_gapCount : GoodIn wsX4_resendTo (wsV RX4 107 RX3 yX3_gapCount wsX3_gapCount) := goodIn_app (goodIn_of _ (by decide +kernel)) ggX4_resendTo_X3_gapCount
set_option maxRecDepth 20000 in
theorem ggX4_resendTo_X3_dropGapsBehind : GoodIn wsX4_resendTo wsX3_dropGapsBehind := goodIn_r _ [23, 24, 25, 26, 27, 19, 28, 29, 30, 31] (by decide +kernel) (by decide +kernel)
set_option maxRecDepth 20000 in
theorem gX4_resendTo_X3_dropGapsBehind : GoodIn wsX4_resendTo (wsV RX4 111 RX3 yX3_dropGapsBehind wsX3_dropGapsBehind) := goodIn_app (goodIn_of _ (by decide +kernel)) ggX4_resendTo_X3_dropGapsBehind
theorem dX4_resendTo_0 : decode cX4_resendTo 0 = .ok (.iload_n 1, 1) := by decide +kernel
theorem dX4_resendTo_1 : decode cX4_resendTo 1 = .ok (.invokestatic 77, 3) := by decide +kernel
theorem dX4_resendTo_4 : decode cX4_resendTo 4 = .ok (.ifCond .ne 6, 3) := by decide +kernel
theorem dX4_resendTo_7 : decode cX4_resendTo 7 = .ok (.ldc 64, 2) := by decide +kernel
theorem dX4_resendTo_9 : decode cX4_resendTo 9 = .ok (.ireturn, 1) := by decide +kernel
theorem dX4_resendTo_10 : decode cX4_resendTo 10 = .ok (.aload_n 0, 1) := by decide +kernel
theorem dX4_resendTo_11 : decode cX4_resendTo 11 = .ok (.iload_n 1, 1) := by decide +kernel
theorem dX4_resendTo_12 : decode cX4_resendTo 12 = .ok (.invokevirtual 80, 3) := by decide +kernel
theorem dX4_resendTo_15 : decode cX4_resendTo 15 = .ok (.astore_n 2, 1) := by decide +kernel
theorem dX4_resendTo_16 : decode cX4_resendTo 16 = .ok (.aload_n 2, 1) := by decide +kernel
theorem dX4_resendTo_17 : decode cX4_resendTo 17 = .ok (.getfield 84, 3) := by decide +kernel
theorem dX4_resendTo_20 : decode cX4_resendTo 20 = .ok (.ifCond .eq 6, 3) := by decide +kernel
theorem dX4_resendTo_23 : decode cX4_resendTo 23 = .ok (.ldc 65, 2) := by decide +kernel
theorem dX4_resendTo_25 : decode cX4_resendTo 25 = .ok (.ireturn, 1) := by decide +kernel
theorem dX4_resendTo_26 : decode cX4_resendTo 26 = .ok (.aload_n 2, 1) := by decide +kernel
theorem dX4_resendTo_27 : decode cX4_resendTo 27 = .ok (.invokevirtual 107, 3) := by decide +kernel
end
section
theorem dX4_resendTo_30 : decode cX4_resendTo 30 = .ok (.istore_n 3, 1) := by decide +kernel
theorem dX4_resendTo_31 : decode cX4_resendTo 31 = .ok (.aload_n 2, 1) := by decide +kernel
theorem dX4_resendTo_32 : decode cX4_resendTo 32 = .ok (.iconst 0, 1) := by decide +kernel
theorem dX4_resendTo_33 : decode cX4_resendTo 33 = .ok (.invokevirtual 111, 3) := by decide +kernel
theorem dX4_resendTo_36 : decode cX4_resendTo 36 = .ok (.iload_n 3, 1) := by decide +kernel
theorem dX4_resendTo_37 : decode cX4_resendTo 37 = .ok (.ireturn, 1) := by decide +kernel
set_option maxRecDepth 20000 in
theorem ggX4_pass_X6_isTicks : GoodIn wsX4_pass wsX6_isTicks := goodIn_r _ [8] (by decide +kernel) (by decide +kernel)
set_option maxRecDepth 20000 in
theorem gX4_pass_X6_isTicks_n114 : GoodIn wsX4_pass (wsX6_isTicks) := ggX4_pass_X6_isTicks
set_option maxRecDepth 20000 in
theorem ggX4_pass_X4_standby : GoodIn wsX4_pass wsX4_standby := goodIn_r _ [13, 14, 15, 42, 43, 44, 45, 46, 47, 48, 49, 50, 51, 52, 53] (by decide +kernel) (by decide +kernel)
set_option maxRecDepth 20000 in
theorem gX4_pass_X4_standby : GoodIn wsX4_pass (wsV RX4 80 RX4 yX4_standby wsX4_standby) := goodIn_app (goodIn_of _ (by decide +kernel)) ggX4_pass_X4_standby
set_option maxRecDepth 20000 in
theorem ggX4_pass_X4_appliedAfter : GoodIn wsX4_pass wsX4_appliedAfter := goodIn_r _ [19, 20, 21, 22, 23, 24, 25, 26, 27, 28, 29, 30, 31, 32, 33, 34, 35, 36, 37, 38, 39, 40, 41, 54, 55, 56, 57, 42, 43, 44, 45, 46, 47, 48, 49, 50, 51, 52, 53, 58, 59, 60, 61, 62, 63] (by decide +kernel) (by decide +kernel)
set_option maxRecDepth 20000 in
theorem gX4_pass_X4_appliedAfter : GoodIn wsX4_pass (wsV RX4 117 RX4 yX4_appliedAfter wsX4_appliedAfter) := goodIn_app (goodIn_of _ (by decide +kernel)) ggX4_pass_X4_appliedAfter
theorem dX4_pass_0 : decode cX4_pass 0 = .ok (.iload_n 1, 1) := by decide +kernel
theorem dX4_pass_1 : decode cX4_pass 1 = .ok (.invokestatic 114, 3) := by decide +kernel
theorem dX4_pass_4 : decode cX4_pass 4 = .ok (.ifCond .ne 6, 3) := by decide +kernel
theorem dX4_pass_7 : decode cX4_pass 7 = .ok (.ldc 64, 2) := by decide +kernel
theorem dX4_pass_9 : decode cX4_pass 9 = .ok (.ireturn, 1) := by decide +kernel
theorem dX4_pass_10 : decode cX4_pass 10 = .ok (.iconst 0, 1) := by decide +kernel
theorem dX4_pass_11 : decode cX4_pass 11 = .ok (.istore_n 2, 1) := by decide +kernel
theorem dX4_pass_12 : decode cX4_pass 12 = .ok (.iconst 0, 1) := by decide +kernel
theorem dX4_pass_13 : decode cX4_pass 13 = .ok (.istore_n 3, 1) := by decide +kernel
theorem dX4_pass_14 : decode cX4_pass 14 = .ok (.iload_n 3, 1) := by decide +kernel
theorem dX4_pass_15 : decode cX4_pass 15 = .ok (.iload_n 1, 1) := by decide +kernel
theorem dX4_pass_16 : decode cX4_pass 16 = .ok (.if_icmp .ge 81, 3) := by decide +kernel
theorem dX4_pass_19 : decode cX4_pass 19 = .ok (.aload_n 0, 1) := by decide +kernel
theorem dX4_pass_20 : decode cX4_pass 20 = .ok (.dup, 1) := by decide +kernel
theorem dX4_pass_21 : decode cX4_pass 21 = .ok (.getfield 32, 3) := by decide +kernel
theorem dX4_pass_24 : decode cX4_pass 24 = .ok (.iconst 1, 1) := by decide +kernel
theorem dX4_pass_25 : decode cX4_pass 25 = .ok (.iadd, 1) := by decide +kernel
theorem dX4_pass_26 : decode cX4_pass 26 = .ok (.putfield 32, 3) := by decide +kernel
theorem dX4_pass_29 : decode cX4_pass 29 = .ok (.iconst 0, 1) := by decide +kernel
theorem dX4_pass_30 : decode cX4_pass 30 = .ok (.istore 4, 2) := by decide +kernel
theorem dX4_pass_32 : decode cX4_pass 32 = .ok (.iload 4, 2) := by decide +kernel
theorem dX4_pass_34 : decode cX4_pass 34 = .ok (.iconst 2, 1) := by decide +kernel
theorem dX4_pass_35 : decode cX4_pass 35 = .ok (.if_icmp .ge 56, 3) := by decide +kernel
theorem dX4_pass_38 : decode cX4_pass 38 = .ok (.aload_n 0, 1) := by decide +kernel
theorem dX4_pass_39 : decode cX4_pass 39 = .ok (.iload 4, 2) := by decide +kernel
theorem dX4_pass_41 : decode cX4_pass 41 = .ok (.invokevirtual 80, 3) := by decide +kernel
theorem dX4_pass_44 : decode cX4_pass 44 = .ok (.astore 5, 2) := by decide +kernel
theorem dX4_pass_46 : decode cX4_pass 46 = .ok (.aload_n 0, 1) := by decide +kernel
theorem dX4_pass_47 : decode cX4_pass 47 = .ok (.aload 5, 2) := by decide +kernel
theorem dX4_pass_49 : decode cX4_pass 49 = .ok (.aload 5, 2) := by decide +kernel
theorem dX4_pass_51 : decode cX4_pass 51 = .ok (.getfield 97, 3) := by decide +kernel
theorem dX4_pass_54 : decode cX4_pass 54 = .ok (.aload_n 0, 1) := by decide +kernel
theorem dX4_pass_55 : decode cX4_pass 55 = .ok (.getfield 32, 3) := by decide +kernel
theorem dX4_pass_58 : decode cX4_pass 58 = .ok (.aload_n 0, 1) := by decide +kernel
theorem dX4_pass_59 : decode cX4_pass 59 = .ok (.getfield 51, 3) := by decide +kernel
theorem dX4_pass_62 : decode cX4_pass 62 = .ok (.invokevirtual 117, 3) := by decide +kernel
theorem dX4_pass_65 : decode cX4_pass 65 = .ok (.istore 6, 2) := by decide +kernel
theorem dX4_pass_67 : decode cX4_pass 67 = .ok (.iload_n 2, 1) := by decide +kernel
theorem dX4_pass_68 : decode cX4_pass 68 = .ok (.iload 6, 2) := by decide +kernel
theorem dX4_pass_70 : decode cX4_pass 70 = .ok (.aload 5, 2) := by decide +kernel
theorem dX4_pass_72 : decode cX4_pass 72 = .ok (.getfield 97, 3) := by decide +kernel
theorem dX4_pass_75 : decode cX4_pass 75 = .ok (.isub, 1) := by decide +kernel
theorem dX4_pass_76 : decode cX4_pass 76 = .ok (.iadd, 1) := by decide +kernel
theorem dX4_pass_77 : decode cX4_pass 77 = .ok (.istore_n 2, 1) := by decide +kernel
theorem dX4_pass_78 : decode cX4_pass 78 = .ok (.aload 5, 2) := by decide +kernel
theorem dX4_pass_80 : decode cX4_pass 80 = .ok (.iload 6, 2) := by decide +kernel
theorem dX4_pass_82 : decode cX4_pass 82 = .ok (.putfield 97, 3) := by decide +kernel
theorem dX4_pass_85 : decode cX4_pass 85 = .ok (.iinc 4 1, 3) := by decide +kernel
theorem dX4_pass_88 : decode cX4_pass 88 = .ok (.goto (-56), 3) := by decide +kernel
theorem dX4_pass_91 : decode cX4_pass 91 = .ok (.iinc 3 1, 3) := by decide +kernel
theorem dX4_pass_94 : decode cX4_pass 94 = .ok (.goto (-80), 3) := by decide +kernel
theorem dX4_pass_97 : decode cX4_pass 97 = .ok (.aload_n 0, 1) := by decide +kernel
theorem dX4_pass_98 : decode cX4_pass 98 = .ok (.dup, 1) := by decide +kernel
theorem dX4_pass_99 : decode cX4_pass 99 = .ok (.getfield 48, 3) := by decide +kernel
theorem dX4_pass_102 : decode cX4_pass 102 = .ok (.iload_n 2, 1) := by decide +kernel
theorem dX4_pass_103 : decode cX4_pass 103 = .ok (.iadd, 1) := by decide +kernel
theorem dX4_pass_104 : decode cX4_pass 104 = .ok (.putfield 48, 3) := by decide +kernel
theorem dX4_pass_107 : decode cX4_pass 107 = .ok (.iload_n 2, 1) := by decide +kernel
theorem dX4_pass_108 : decode cX4_pass 108 = .ok (.ireturn, 1) := by decide +kernel
set_option maxRecDepth 20000 in
theorem ggX4_appliedAfter_X3_isGap : GoodIn wsX4_appliedAfter wsX3_isGap := goodIn_r _ [9, 10, 23, 24, 25, 26] (by decide +kernel) (by decide +kernel)
set_option maxRecDepth 20000 in
theorem gX4_appliedAfter_X3_isGap : GoodIn wsX4_appliedAfter (wsV RX4 100 RX3 yX3_isGap wsX3_isGap) := goodIn_app (goodIn_of _ (by decide +kernel)) ggX4_appliedAfter_X3_isGap
set_option maxRecDepth 20000 in
theorem ggX4_appliedAfter_X1_tickOf : GoodIn wsX4_appliedAfter wsX1_tickOf := goodIn_r _ [15, 16, 17, 18, 19, 20, 14, 21, 22, 39, 40, 41, 42, 43, 44] (by decide +kernel) (by decide +kernel)
set_option maxRecDepth 20000 in
theorem gX4_appliedAfter_X1_tickOf : GoodIn wsX4_appliedAfter (wsV RX4 121 RX1 yX1_tickOf wsX1_tickOf) := goodIn_app (goodIn_of _ (by decide +kernel)) ggX4_appliedAfter_X1_tickOf
theorem dX4_appliedAfter_0 : decode cX4_appliedAfter 0 = .ok (.iload_n 2, 1) := by decide +kernel
theorem dX4_appliedAfter_1 : decode cX4_appliedAfter 1 = .ok (.istore 5, 2) := by decide +kernel
theorem dX4_appliedAfter_3 : decode cX4_appliedAfter 3 = .ok (.aload_n 1, 1) := by decide +kernel
theorem dX4_appliedAfter_4 : decode cX4_appliedAfter 4 = .ok (.getfield 84, 3) := by decide +kernel
theorem dX4_appliedAfter_7 : decode cX4_appliedAfter 7 = .ok (.ifCond .eq 6, 3) := by decide +kernel
theorem dX4_appliedAfter_10 : decode cX4_appliedAfter 10 = .ok (.iload 5, 2) := by decide +kernel
theorem dX4_appliedAfter_12 : decode cX4_appliedAfter 12 = .ok (.ireturn, 1) := by decide +kernel
theorem dX4_appliedAfter_13 : decode cX4_appliedAfter 13 = .ok (.iconst 0, 1) := by decide +kernel
theorem dX4_appliedAfter_14 : decode cX4_appliedAfter 14 = .ok (.istore 6, 2) := by decide +kernel
theorem dX4_appliedAfter_16 : decode cX4_appliedAfter 16 = .ok (.iload 6, 2) := by decide +kernel
theorem dX4_appliedAfter_18 : decode cX4_appliedAfter 18 = .ok (.iload 4, 2) := by decide +kernel
theorem dX4_appliedAfter_20 : decode cX4_appliedAfter 20 = .ok (.if_icmp .ge 58, 3) := by decide +kernel
theorem dX4_appliedAfter_23 : decode cX4_appliedAfter 23 = .ok (.iload 5, 2) := by decide +kernel
theorem dX4_appliedAfter_25 : decode cX4_appliedAfter 25 = .ok (.iconst 1, 1) := by decide +kernel
theorem dX4_appliedAfter_26 : decode cX4_appliedAfter 26 = .ok (.iadd, 1) := by decide +kernel
theorem dX4_appliedAfter_27 : decode cX4_appliedAfter 27 = .ok (.istore 7, 2) := by decide +kernel
theorem dX4_appliedAfter_29 : decode cX4_appliedAfter 29 = .ok (.iload 7, 2) := by decide +kernel
theorem dX4_appliedAfter_31 : decode cX4_appliedAfter 31 = .ok (.aload_n 1, 1) := by decide +kernel
theorem dX4_appliedAfter_32 : decode cX4_appliedAfter 32 = .ok (.getfield 88, 3) := by decide +kernel
theorem dX4_appliedAfter_35 : decode cX4_appliedAfter 35 = .ok (.if_icmp .gt 30, 3) := by decide +kernel
theorem dX4_appliedAfter_38 : decode cX4_appliedAfter 38 = .ok (.aload_n 1, 1) := by decide +kernel
theorem dX4_appliedAfter_39 : decode cX4_appliedAfter 39 = .ok (.iload 7, 2) := by decide +kernel
theorem dX4_appliedAfter_41 : decode cX4_appliedAfter 41 = .ok (.invokevirtual 100, 3) := by decide +kernel
theorem dX4_appliedAfter_44 : decode cX4_appliedAfter 44 = .ok (.ifCond .ne 21, 3) := by decide +kernel
theorem dX4_appliedAfter_47 : decode cX4_appliedAfter 47 = .ok (.aload_n 0, 1) := by decide +kernel
theorem dX4_appliedAfter_48 : decode cX4_appliedAfter 48 = .ok (.getfield 12, 3) := by decide +kernel
theorem dX4_appliedAfter_51 : decode cX4_appliedAfter 51 = .ok (.iload 7, 2) := by decide +kernel
theorem dX4_appliedAfter_53 : decode cX4_appliedAfter 53 = .ok (.invokevirtual 121, 3) := by decide +kernel
theorem dX4_appliedAfter_56 : decode cX4_appliedAfter 56 = .ok (.iload_n 3, 1) := by decide +kernel
theorem dX4_appliedAfter_57 : decode cX4_appliedAfter 57 = .ok (.aload_n 0, 1) := by decide +kernel
theorem dX4_appliedAfter_58 : decode cX4_appliedAfter 58 = .ok (.getfield 54, 3) := by decide +kernel
theorem dX4_appliedAfter_61 : decode cX4_appliedAfter 61 = .ok (.isub, 1) := by decide +kernel
theorem dX4_appliedAfter_62 : decode cX4_appliedAfter 62 = .ok (.if_icmp .le 6, 3) := by decide +kernel
theorem dX4_appliedAfter_65 : decode cX4_appliedAfter 65 = .ok (.iload 5, 2) := by decide +kernel
theorem dX4_appliedAfter_67 : decode cX4_appliedAfter 67 = .ok (.ireturn, 1) := by decide +kernel
theorem dX4_appliedAfter_68 : decode cX4_appliedAfter 68 = .ok (.iload 7, 2) := by decide +kernel
theorem dX4_appliedAfter_70 : decode cX4_appliedAfter 70 = .ok (.istore 5, 2) := by decide +kernel
theorem dX4_appliedAfter_72 : decode cX4_appliedAfter 72 = .ok (.iinc 6 1, 3) := by decide +kernel
theorem dX4_appliedAfter_75 : decode cX4_appliedAfter 75 = .ok (.goto (-59), 3) := by decide +kernel
theorem dX4_appliedAfter_78 : decode cX4_appliedAfter 78 = .ok (.iload 5, 2) := by decide +kernel
theorem dX4_appliedAfter_80 : decode cX4_appliedAfter 80 = .ok (.ireturn, 1) := by decide +kernel
set_option maxRecDepth 20000 in
theorem ggX4_ticksUntil_X4_appliedAfter : GoodIn wsX4_ticksUntil wsX4_appliedAfter := goodIn_r _ [9, 10, 11, 12, 13, 14, 15, 16, 17, 18, 19, 20, 21, 22, 23, 24, 25, 26, 27, 28, 29, 30, 31, 32, 33, 34, 35, 36, 37, 38, 39, 40, 41, 42, 43, 44, 45, 46, 47, 48, 49, 50, 51, 52, 53] (by decide +kernel) (by decide +kernel)
set_option maxRecDepth 20000 in
theorem gX4_ticksUntil_X4_appliedAfter : GoodIn wsX4_ticksUntil (wsV RX4 117 RX4 yX4_appliedAfter wsX4_appliedAfter) := goodIn_app (goodIn_of _ (by decide +kernel)) ggX4_ticksUntil_X4_appliedAfter
theorem dX4_ticksUntil_0 : decode cX4_ticksUntil 0 = .ok (.aload_n 1, 1) := by decide +kernel
theorem dX4_ticksUntil_1 : decode cX4_ticksUntil 1 = .ok (.getfield 97, 3) := by decide +kernel
theorem dX4_ticksUntil_4 : decode cX4_ticksUntil 4 = .ok (.istore_n 3, 1) := by decide +kernel
theorem dX4_ticksUntil_5 : decode cX4_ticksUntil 5 = .ok (.iconst 0, 1) := by decide +kernel
theorem dX4_ticksUntil_6 : decode cX4_ticksUntil 6 = .ok (.istore 4, 2) := by decide +kernel
theorem dX4_ticksUntil_8 : decode cX4_ticksUntil 8 = .ok (.iload 4, 2) := by decide +kernel
theorem dX4_ticksUntil_10 : decode cX4_ticksUntil 10 = .ok (.sipush 200, 3) := by decide +kernel
theorem dX4_ticksUntil_13 : decode cX4_ticksUntil 13 = .ok (.if_icmp .gt 37, 3) := by decide +kernel
theorem dX4_ticksUntil_16 : decode cX4_ticksUntil 16 = .ok (.iload_n 3, 1) := by decide +kernel
theorem dX4_ticksUntil_17 : decode cX4_ticksUntil 17 = .ok (.iload_n 2, 1) := by decide +kernel
theorem dX4_ticksUntil_18 : decode cX4_ticksUntil 18 = .ok (.if_icmp .lt 6, 3) := by decide +kernel
theorem dX4_ticksUntil_21 : decode cX4_ticksUntil 21 = .ok (.iload 4, 2) := by decide +kernel
theorem dX4_ticksUntil_23 : decode cX4_ticksUntil 23 = .ok (.ireturn, 1) := by decide +kernel
theorem dX4_ticksUntil_24 : decode cX4_ticksUntil 24 = .ok (.aload_n 0, 1) := by decide +kernel
theorem dX4_ticksUntil_25 : decode cX4_ticksUntil 25 = .ok (.aload_n 1, 1) := by decide +kernel
theorem dX4_ticksUntil_26 : decode cX4_ticksUntil 26 = .ok (.iload_n 3, 1) := by decide +kernel
theorem dX4_ticksUntil_27 : decode cX4_ticksUntil 27 = .ok (.aload_n 0, 1) := by decide +kernel
theorem dX4_ticksUntil_28 : decode cX4_ticksUntil 28 = .ok (.getfield 32, 3) := by decide +kernel
theorem dX4_ticksUntil_31 : decode cX4_ticksUntil 31 = .ok (.iload 4, 2) := by decide +kernel
theorem dX4_ticksUntil_33 : decode cX4_ticksUntil 33 = .ok (.iadd, 1) := by decide +kernel
theorem dX4_ticksUntil_34 : decode cX4_ticksUntil 34 = .ok (.iconst 1, 1) := by decide +kernel
theorem dX4_ticksUntil_35 : decode cX4_ticksUntil 35 = .ok (.iadd, 1) := by decide +kernel
theorem dX4_ticksUntil_36 : decode cX4_ticksUntil 36 = .ok (.aload_n 0, 1) := by decide +kernel
theorem dX4_ticksUntil_37 : decode cX4_ticksUntil 37 = .ok (.getfield 51, 3) := by decide +kernel
theorem dX4_ticksUntil_40 : decode cX4_ticksUntil 40 = .ok (.invokevirtual 117, 3) := by decide +kernel
theorem dX4_ticksUntil_43 : decode cX4_ticksUntil 43 = .ok (.istore_n 3, 1) := by decide +kernel
theorem dX4_ticksUntil_44 : decode cX4_ticksUntil 44 = .ok (.iinc 4 1, 3) := by decide +kernel
theorem dX4_ticksUntil_47 : decode cX4_ticksUntil 47 = .ok (.goto (-39), 3) := by decide +kernel
theorem dX4_ticksUntil_50 : decode cX4_ticksUntil 50 = .ok (.ldc 125, 2) := by decide +kernel
theorem dX4_ticksUntil_52 : decode cX4_ticksUntil 52 = .ok (.ireturn, 1) := by decide +kernel
set_option maxRecDepth 20000 in
theorem ggX4_leastRate_X3_reachable : GoodIn wsX4_leastRate wsX3_reachable := goodIn_r _ [6, 7, 8, 9, 10, 5, 11, 12, 44, 45, 46, 47] (by decide +kernel) (by decide +kernel)
set_option maxRecDepth 20000 in
theorem gX4_leastRate_X3_reachable : GoodIn wsX4_leastRate (wsV RX4 126 RX3 yX3_reachable wsX3_reachable) := goodIn_app (goodIn_of _ (by decide +kernel)) ggX4_leastRate_X3_reachable
set_option maxRecDepth 20000 in
theorem ggX4_leastRate_X4_comesTo : GoodIn wsX4_leastRate wsX4_comesTo := goodIn_r _ [17, 18, 19, 20, 21, 22, 16, 23, 24, 25, 26, 27, 28, 29, 30, 5, 31, 12, 32, 33, 34, 35, 36, 37, 38, 39, 40, 41, 42, 43, 44, 45, 46, 47, 48, 49, 50, 51, 52, 53, 54, 55, 56, 57, 58, 59, 60, 61, 62, 63, 64, 65] (by decide +kernel) (by decide +kernel)
set_option maxRecDepth 20000 in
theorem gX4_leastRate_X4_comesTo : GoodIn wsX4_leastRate (wsV RX4 129 RX4 yX4_comesTo wsX4_comesTo) := goodIn_app (goodIn_of _ (by decide +kernel)) ggX4_leastRate_X4_comesTo
theorem dX4_leastRate_0 : decode cX4_leastRate 0 = .ok (.aload_n 1, 1) := by decide +kernel
theorem dX4_leastRate_1 : decode cX4_leastRate 1 = .ok (.invokevirtual 126, 3) := by decide +kernel
theorem dX4_leastRate_4 : decode cX4_leastRate 4 = .ok (.istore_n 3, 1) := by decide +kernel
theorem dX4_leastRate_5 : decode cX4_leastRate 5 = .ok (.iconst 1, 1) := by decide +kernel
theorem dX4_leastRate_6 : decode cX4_leastRate 6 = .ok (.istore 4, 2) := by decide +kernel
theorem dX4_leastRate_8 : decode cX4_leastRate 8 = .ok (.iload 4, 2) := by decide +kernel
theorem dX4_leastRate_10 : decode cX4_leastRate 10 = .ok (.bipush 20, 2) := by decide +kernel
theorem dX4_leastRate_12 : decode cX4_leastRate 12 = .ok (.if_icmp .gt 24, 3) := by decide +kernel
theorem dX4_leastRate_15 : decode cX4_leastRate 15 = .ok (.aload_n 0, 1) := by decide +kernel
theorem dX4_leastRate_16 : decode cX4_leastRate 16 = .ok (.aload_n 1, 1) := by decide +kernel
theorem dX4_leastRate_17 : decode cX4_leastRate 17 = .ok (.iload_n 3, 1) := by decide +kernel
theorem dX4_leastRate_18 : decode cX4_leastRate 18 = .ok (.iload_n 2, 1) := by decide +kernel
theorem dX4_leastRate_19 : decode cX4_leastRate 19 = .ok (.iload 4, 2) := by decide +kernel
theorem dX4_leastRate_21 : decode cX4_leastRate 21 = .ok (.invokevirtual 129, 3) := by decide +kernel
theorem dX4_leastRate_24 : decode cX4_leastRate 24 = .ok (.ifCond .eq 6, 3) := by decide +kernel
theorem dX4_leastRate_27 : decode cX4_leastRate 27 = .ok (.iload 4, 2) := by decide +kernel
theorem dX4_leastRate_29 : decode cX4_leastRate 29 = .ok (.ireturn, 1) := by decide +kernel
theorem dX4_leastRate_30 : decode cX4_leastRate 30 = .ok (.iinc 4 1, 3) := by decide +kernel
theorem dX4_leastRate_33 : decode cX4_leastRate 33 = .ok (.goto (-25), 3) := by decide +kernel
theorem dX4_leastRate_36 : decode cX4_leastRate 36 = .ok (.ldc 125, 2) := by decide +kernel
theorem dX4_leastRate_38 : decode cX4_leastRate 38 = .ok (.ireturn, 1) := by decide +kernel
set_option maxRecDepth 20000 in
theorem ggX4_comesTo_X4_appliedAfter : GoodIn wsX4_comesTo wsX4_appliedAfter := goodIn_r _ [7, 8, 9, 10, 11, 12, 13, 14, 15, 16, 17, 18, 19, 20, 21, 22, 23, 24, 25, 26, 27, 28, 29, 30, 31, 32, 33, 34, 35, 36, 37, 38, 39, 40, 41, 42, 43, 44, 45, 46, 47, 48, 49, 50, 51] (by decide +kernel) (by decide +kernel)
set_option maxRecDepth 20000 in
theorem gX4_comesTo_X4_appliedAfter : GoodIn wsX4_comesTo (wsV RX4 117 RX4 yX4_appliedAfter wsX4_appliedAfter) := goodIn_app (goodIn_of _ (by decide +kernel)) ggX4_comesTo_X4_appliedAfter
theorem dX4_comesTo_0 : decode cX4_comesTo 0 = .ok (.aload_n 1, 1) := by decide +kernel
theorem dX4_comesTo_1 : decode cX4_comesTo 1 = .ok (.getfield 97, 3) := by decide +kernel
theorem dX4_comesTo_4 : decode cX4_comesTo 4 = .ok (.istore 5, 2) := by decide +kernel
theorem dX4_comesTo_6 : decode cX4_comesTo 6 = .ok (.iconst 1, 1) := by decide +kernel
theorem dX4_comesTo_7 : decode cX4_comesTo 7 = .ok (.istore 6, 2) := by decide +kernel
theorem dX4_comesTo_9 : decode cX4_comesTo 9 = .ok (.iload 6, 2) := by decide +kernel
theorem dX4_comesTo_11 : decode cX4_comesTo 11 = .ok (.iload_n 3, 1) := by decide +kernel
theorem dX4_comesTo_12 : decode cX4_comesTo 12 = .ok (.if_icmp .gt 33, 3) := by decide +kernel
theorem dX4_comesTo_15 : decode cX4_comesTo 15 = .ok (.iload 5, 2) := by decide +kernel
theorem dX4_comesTo_17 : decode cX4_comesTo 17 = .ok (.iload_n 2, 1) := by decide +kernel
theorem dX4_comesTo_18 : decode cX4_comesTo 18 = .ok (.if_icmp .ge 27, 3) := by decide +kernel
theorem dX4_comesTo_21 : decode cX4_comesTo 21 = .ok (.aload_n 0, 1) := by decide +kernel
theorem dX4_comesTo_22 : decode cX4_comesTo 22 = .ok (.aload_n 1, 1) := by decide +kernel
theorem dX4_comesTo_23 : decode cX4_comesTo 23 = .ok (.iload 5, 2) := by decide +kernel
theorem dX4_comesTo_25 : decode cX4_comesTo 25 = .ok (.aload_n 0, 1) := by decide +kernel
theorem dX4_comesTo_26 : decode cX4_comesTo 26 = .ok (.getfield 32, 3) := by decide +kernel
theorem dX4_comesTo_29 : decode cX4_comesTo 29 = .ok (.iload 6, 2) := by decide +kernel
theorem dX4_comesTo_31 : decode cX4_comesTo 31 = .ok (.iadd, 1) := by decide +kernel
theorem dX4_comesTo_32 : decode cX4_comesTo 32 = .ok (.iload 4, 2) := by decide +kernel
theorem dX4_comesTo_34 : decode cX4_comesTo 34 = .ok (.invokevirtual 117, 3) := by decide +kernel
theorem dX4_comesTo_37 : decode cX4_comesTo 37 = .ok (.istore 5, 2) := by decide +kernel
theorem dX4_comesTo_39 : decode cX4_comesTo 39 = .ok (.iinc 6 1, 3) := by decide +kernel
theorem dX4_comesTo_42 : decode cX4_comesTo 42 = .ok (.goto (-33), 3) := by decide +kernel
theorem dX4_comesTo_45 : decode cX4_comesTo 45 = .ok (.iload 5, 2) := by decide +kernel
theorem dX4_comesTo_47 : decode cX4_comesTo 47 = .ok (.iload_n 2, 1) := by decide +kernel
theorem dX4_comesTo_48 : decode cX4_comesTo 48 = .ok (.if_icmp .lt 7, 3) := by decide +kernel
theorem dX4_comesTo_51 : decode cX4_comesTo 51 = .ok (.iconst 1, 1) := by decide +kernel
theorem dX4_comesTo_52 : decode cX4_comesTo 52 = .ok (.goto 4, 3) := by decide +kernel
theorem dX4_comesTo_55 : decode cX4_comesTo 55 = .ok (.iconst 0, 1) := by decide +kernel
theorem dX4_comesTo_56 : decode cX4_comesTo 56 = .ok (.ireturn, 1) := by decide +kernel
set_option maxRecDepth 20000 in
theorem ggX4_promoteTo_X6_isStandby : GoodIn wsX4_promoteTo wsX6_isStandby := goodIn_r _ [12] (by decide +kernel) (by decide +kernel)
set_option maxRecDepth 20000 in
theorem gX4_promoteTo_X6_isStandby_n77 : GoodIn wsX4_promoteTo (wsX6_isStandby) := ggX4_promoteTo_X6_isStandby
set_option maxRecDepth 20000 in
theorem ggX4_promoteTo_X4_standby : GoodIn wsX4_promoteTo wsX4_standby := goodIn_r _ [17, 18, 19, 64, 65, 66, 67, 68, 69, 70, 71, 72, 73, 74, 75] (by decide +kernel) (by decide +kernel)
set_option maxRecDepth 20000 in
theorem gX4_promoteTo_X4_standby : GoodIn wsX4_promoteTo (wsV RX4 80 RX4 yX4_standby wsX4_standby) := goodIn_app (goodIn_of _ (by decide +kernel)) ggX4_promoteTo_X4_standby
set_option maxRecDepth 20000 in
theorem ggX4_promoteTo_X1_commitsBehind : GoodIn wsX4_promoteTo wsX1_commitsBehind := goodIn_r _ [24, 25, 26, 27, 28, 23, 29, 30, 31, 32, 33, 34, 35, 76, 77, 78, 79, 80, 81] (by decide +kernel) (by decide +kernel)
set_option maxRecDepth 20000 in
theorem gX4_promoteTo_X1_commitsBehind : GoodIn wsX4_promoteTo (wsV RX4 133 RX1 yX1_commitsBehind wsX1_commitsBehind) := goodIn_app (goodIn_of _ (by decide +kernel)) ggX4_promoteTo_X1_commitsBehind
set_option maxRecDepth 20000 in
theorem ggX4_promoteTo_X3_standAt : GoodIn wsX4_promoteTo wsX3_standAt := goodIn_r _ [40, 41, 42, 43, 44, 45, 46, 39, 47, 48, 49, 50, 51, 52, 60, 61, 62, 63] (by decide +kernel) (by decide +kernel)
set_option maxRecDepth 20000 in
theorem gX4_promoteTo_X3_standAt : GoodIn wsX4_promoteTo (wsV RX4 136 RX3 yX3_standAt wsX3_standAt) := goodIn_app (goodIn_of _ (by decide +kernel)) ggX4_promoteTo_X3_standAt
set_option maxRecDepth 20000 in
theorem ggX4_promoteTo_X3_cutTo : GoodIn wsX4_promoteTo wsX3_cutTo := goodIn_r _ [56, 41, 57, 58, 50, 59, 42, 43, 44, 45, 46, 39, 47, 48, 49, 51, 52, 60, 61, 62, 63] (by decide +kernel) (by decide +kernel)
set_option maxRecDepth 20000 in
theorem gX4_promoteTo_X3_cutTo : GoodIn wsX4_promoteTo (wsV RX4 140 RX3 yX3_cutTo wsX3_cutTo) := goodIn_app (goodIn_of _ (by decide +kernel)) ggX4_promoteTo_X3_cutTo
theorem dX4_promoteTo_0 : decode cX4_promoteTo 0 = .ok (.iload_n 1, 1) := by decide +kernel
theorem dX4_promoteTo_1 : decode cX4_promoteTo 1 = .ok (.invokestatic 77, 3) := by decide +kernel
theorem dX4_promoteTo_4 : decode cX4_promoteTo 4 = .ok (.ifCond .ne 6, 3) := by decide +kernel
theorem dX4_promoteTo_7 : decode cX4_promoteTo 7 = .ok (.ldc 64, 2) := by decide +kernel
theorem dX4_promoteTo_9 : decode cX4_promoteTo 9 = .ok (.ireturn, 1) := by decide +kernel
theorem dX4_promoteTo_10 : decode cX4_promoteTo 10 = .ok (.aload_n 0, 1) := by decide +kernel
theorem dX4_promoteTo_11 : decode cX4_promoteTo 11 = .ok (.iload_n 1, 1) := by decide +kernel
theorem dX4_promoteTo_12 : decode cX4_promoteTo 12 = .ok (.invokevirtual 80, 3) := by decide +kernel
theorem dX4_promoteTo_15 : decode cX4_promoteTo 15 = .ok (.astore_n 2, 1) := by decide +kernel
theorem dX4_promoteTo_16 : decode cX4_promoteTo 16 = .ok (.aload_n 2, 1) := by decide +kernel
theorem dX4_promoteTo_17 : decode cX4_promoteTo 17 = .ok (.getfield 84, 3) := by decide +kernel
theorem dX4_promoteTo_20 : decode cX4_promoteTo 20 = .ok (.ifCond .eq 6, 3) := by decide +kernel
theorem dX4_promoteTo_23 : decode cX4_promoteTo 23 = .ok (.ldc 65, 2) := by decide +kernel
theorem dX4_promoteTo_25 : decode cX4_promoteTo 25 = .ok (.ireturn, 1) := by decide +kernel
theorem dX4_promoteTo_26 : decode cX4_promoteTo 26 = .ok (.aload_n 2, 1) := by decide +kernel
theorem dX4_promoteTo_27 : decode cX4_promoteTo 27 = .ok (.getfield 97, 3) := by decide +kernel
theorem dX4_promoteTo_30 : decode cX4_promoteTo 30 = .ok (.istore_n 3, 1) := by decide +kernel
theorem dX4_promoteTo_31 : decode cX4_promoteTo 31 = .ok (.aload_n 0, 1) := by decide +kernel
theorem dX4_promoteTo_32 : decode cX4_promoteTo 32 = .ok (.getfield 12, 3) := by decide +kernel
theorem dX4_promoteTo_35 : decode cX4_promoteTo 35 = .ok (.iload_n 3, 1) := by decide +kernel
theorem dX4_promoteTo_36 : decode cX4_promoteTo 36 = .ok (.invokevirtual 133, 3) := by decide +kernel
theorem dX4_promoteTo_39 : decode cX4_promoteTo 39 = .ok (.istore 4, 2) := by decide +kernel
theorem dX4_promoteTo_41 : decode cX4_promoteTo 41 = .ok (.aload_n 2, 1) := by decide +kernel
theorem dX4_promoteTo_42 : decode cX4_promoteTo 42 = .ok (.iload_n 3, 1) := by decide +kernel
theorem dX4_promoteTo_43 : decode cX4_promoteTo 43 = .ok (.aload_n 0, 1) := by decide +kernel
theorem dX4_promoteTo_44 : decode cX4_promoteTo 44 = .ok (.getfield 12, 3) := by decide +kernel
theorem dX4_promoteTo_47 : decode cX4_promoteTo 47 = .ok (.getfield 57, 3) := by decide +kernel
theorem dX4_promoteTo_50 : decode cX4_promoteTo 50 = .ok (.iload_n 3, 1) := by decide +kernel
theorem dX4_promoteTo_51 : decode cX4_promoteTo 51 = .ok (.if_icmp .le 7, 3) := by decide +kernel
theorem dX4_promoteTo_54 : decode cX4_promoteTo 54 = .ok (.iconst 1, 1) := by decide +kernel
theorem dX4_promoteTo_55 : decode cX4_promoteTo 55 = .ok (.goto 4, 3) := by decide +kernel
theorem dX4_promoteTo_58 : decode cX4_promoteTo 58 = .ok (.iconst 0, 1) := by decide +kernel
theorem dX4_promoteTo_59 : decode cX4_promoteTo 59 = .ok (.invokevirtual 136, 3) := by decide +kernel
theorem dX4_promoteTo_62 : decode cX4_promoteTo 62 = .ok (.aload_n 0, 1) := by decide +kernel
theorem dX4_promoteTo_63 : decode cX4_promoteTo 63 = .ok (.iconst 1, 1) := by decide +kernel
theorem dX4_promoteTo_64 : decode cX4_promoteTo 64 = .ok (.iload_n 1, 1) := by decide +kernel
theorem dX4_promoteTo_65 : decode cX4_promoteTo 65 = .ok (.isub, 1) := by decide +kernel
theorem dX4_promoteTo_66 : decode cX4_promoteTo 66 = .ok (.invokevirtual 80, 3) := by decide +kernel
theorem dX4_promoteTo_69 : decode cX4_promoteTo 69 = .ok (.iload_n 3, 1) := by decide +kernel
theorem dX4_promoteTo_70 : decode cX4_promoteTo 70 = .ok (.invokevirtual 140, 3) := by decide +kernel
theorem dX4_promoteTo_73 : decode cX4_promoteTo 73 = .ok (.aload_n 0, 1) := by decide +kernel
theorem dX4_promoteTo_74 : decode cX4_promoteTo 74 = .ok (.getfield 12, 3) := by decide +kernel
theorem dX4_promoteTo_77 : decode cX4_promoteTo 77 = .ok (.iload_n 3, 1) := by decide +kernel
theorem dX4_promoteTo_78 : decode cX4_promoteTo 78 = .ok (.putfield 57, 3) := by decide +kernel
theorem dX4_promoteTo_81 : decode cX4_promoteTo 81 = .ok (.iconst 0, 1) := by decide +kernel
theorem dX4_promoteTo_82 : decode cX4_promoteTo 82 = .ok (.istore 5, 2) := by decide +kernel
theorem dX4_promoteTo_84 : decode cX4_promoteTo 84 = .ok (.iload 5, 2) := by decide +kernel
theorem dX4_promoteTo_86 : decode cX4_promoteTo 86 = .ok (.iconst 3, 1) := by decide +kernel
theorem dX4_promoteTo_87 : decode cX4_promoteTo 87 = .ok (.if_icmp .ge 17, 3) := by decide +kernel
theorem dX4_promoteTo_90 : decode cX4_promoteTo 90 = .ok (.aload_n 0, 1) := by decide +kernel
theorem dX4_promoteTo_91 : decode cX4_promoteTo 91 = .ok (.getfield 28, 3) := by decide +kernel
theorem dX4_promoteTo_94 : decode cX4_promoteTo 94 = .ok (.iload 5, 2) := by decide +kernel
theorem dX4_promoteTo_96 : decode cX4_promoteTo 96 = .ok (.iconst 0, 1) := by decide +kernel
theorem dX4_promoteTo_97 : decode cX4_promoteTo 97 = .ok (.iastore, 1) := by decide +kernel
theorem dX4_promoteTo_98 : decode cX4_promoteTo 98 = .ok (.iinc 5 1, 3) := by decide +kernel
theorem dX4_promoteTo_101 : decode cX4_promoteTo 101 = .ok (.goto (-17), 3) := by decide +kernel
theorem dX4_promoteTo_104 : decode cX4_promoteTo 104 = .ok (.aload_n 0, 1) := by decide +kernel
theorem dX4_promoteTo_105 : decode cX4_promoteTo 105 = .ok (.dup, 1) := by decide +kernel
theorem dX4_promoteTo_106 : decode cX4_promoteTo 106 = .ok (.getfield 36, 3) := by decide +kernel
theorem dX4_promoteTo_109 : decode cX4_promoteTo 109 = .ok (.iconst 1, 1) := by decide +kernel
theorem dX4_promoteTo_110 : decode cX4_promoteTo 110 = .ok (.iadd, 1) := by decide +kernel
theorem dX4_promoteTo_111 : decode cX4_promoteTo 111 = .ok (.putfield 36, 3) := by decide +kernel
theorem dX4_promoteTo_114 : decode cX4_promoteTo 114 = .ok (.aload_n 0, 1) := by decide +kernel
theorem dX4_promoteTo_115 : decode cX4_promoteTo 115 = .ok (.dup, 1) := by decide +kernel
theorem dX4_promoteTo_116 : decode cX4_promoteTo 116 = .ok (.getfield 42, 3) := by decide +kernel
theorem dX4_promoteTo_119 : decode cX4_promoteTo 119 = .ok (.iload 4, 2) := by decide +kernel
theorem dX4_promoteTo_121 : decode cX4_promoteTo 121 = .ok (.iadd, 1) := by decide +kernel
theorem dX4_promoteTo_122 : decode cX4_promoteTo 122 = .ok (.putfield 42, 3) := by decide +kernel
theorem dX4_promoteTo_125 : decode cX4_promoteTo 125 = .ok (.iload 4, 2) := by decide +kernel
theorem dX4_promoteTo_127 : decode cX4_promoteTo 127 = .ok (.ireturn, 1) := by decide +kernel
set_option maxRecDepth 20000 in
theorem ggX4_rebuildOf_X6_isStandby : GoodIn wsX4_rebuildOf wsX6_isStandby := goodIn_r _ [6] (by decide +kernel) (by decide +kernel)
set_option maxRecDepth 20000 in
theorem gX4_rebuildOf_X6_isStandby_n77 : GoodIn wsX4_rebuildOf (wsX6_isStandby) := ggX4_rebuildOf_X6_isStandby
set_option maxRecDepth 20000 in
theorem ggX4_rebuildOf_X4_standby : GoodIn wsX4_rebuildOf wsX4_standby := goodIn_r _ [11, 12, 13, 31, 32, 33, 34, 35, 36, 37, 38, 39, 40, 41, 42] (by decide +kernel) (by decide +kernel)
set_option maxRecDepth 20000 in
theorem gX4_rebuildOf_X4_standby : GoodIn wsX4_rebuildOf (wsV RX4 80 RX4 yX4_standby wsX4_standby) := goodIn_app (goodIn_of _ (by decide +kernel)) ggX4_rebuildOf_X4_standby
set_option maxRecDepth 20000 in
theorem ggX4_rebuildOf_X3_standAt : GoodIn wsX4_rebuildOf wsX3_standAt := goodIn_r _ [18, 19, 20, 21, 22, 23, 24, 17, 25, 26, 27, 28, 29, 30, 49, 50, 51, 52] (by decide +kernel) (by decide +kernel)
set_option maxRecDepth 20000 in
theorem gX4_rebuildOf_X3_standAt : GoodIn wsX4_rebuildOf (wsV RX4 136 RX3 yX3_standAt wsX3_standAt) := goodIn_app (goodIn_of _ (by decide +kernel)) ggX4_rebuildOf_X3_standAt
theorem dX4_rebuildOf_0 : decode cX4_rebuildOf 0 = .ok (.iload_n 1, 1) := by decide +kernel
theorem dX4_rebuildOf_1 : decode cX4_rebuildOf 1 = .ok (.invokestatic 77, 3) := by decide +kernel
theorem dX4_rebuildOf_4 : decode cX4_rebuildOf 4 = .ok (.ifCond .ne 6, 3) := by decide +kernel
theorem dX4_rebuildOf_7 : decode cX4_rebuildOf 7 = .ok (.ldc 64, 2) := by decide +kernel
theorem dX4_rebuildOf_9 : decode cX4_rebuildOf 9 = .ok (.ireturn, 1) := by decide +kernel
theorem dX4_rebuildOf_10 : decode cX4_rebuildOf 10 = .ok (.aload_n 0, 1) := by decide +kernel
theorem dX4_rebuildOf_11 : decode cX4_rebuildOf 11 = .ok (.iload_n 1, 1) := by decide +kernel
theorem dX4_rebuildOf_12 : decode cX4_rebuildOf 12 = .ok (.invokevirtual 80, 3) := by decide +kernel
theorem dX4_rebuildOf_15 : decode cX4_rebuildOf 15 = .ok (.aload_n 0, 1) := by decide +kernel
theorem dX4_rebuildOf_16 : decode cX4_rebuildOf 16 = .ok (.getfield 12, 3) := by decide +kernel
theorem dX4_rebuildOf_19 : decode cX4_rebuildOf 19 = .ok (.getfield 57, 3) := by decide +kernel
theorem dX4_rebuildOf_22 : decode cX4_rebuildOf 22 = .ok (.iconst 0, 1) := by decide +kernel
theorem dX4_rebuildOf_23 : decode cX4_rebuildOf 23 = .ok (.invokevirtual 136, 3) := by decide +kernel
theorem dX4_rebuildOf_26 : decode cX4_rebuildOf 26 = .ok (.aload_n 0, 1) := by decide +kernel
theorem dX4_rebuildOf_27 : decode cX4_rebuildOf 27 = .ok (.getfield 12, 3) := by decide +kernel
theorem dX4_rebuildOf_30 : decode cX4_rebuildOf 30 = .ok (.getfield 57, 3) := by decide +kernel
theorem dX4_rebuildOf_33 : decode cX4_rebuildOf 33 = .ok (.ireturn, 1) := by decide +kernel
theorem dX4_setTo_0 : decode cX4_setTo 0 = .ok (.iload_n 1, 1) := by decide +kernel
theorem dX4_setTo_1 : decode cX4_setTo 1 = .ok (.ifCond .ne 26, 3) := by decide +kernel
theorem dX4_setTo_4 : decode cX4_setTo 4 = .ok (.iload_n 2, 1) := by decide +kernel
theorem dX4_setTo_5 : decode cX4_setTo 5 = .ok (.iconst 1, 1) := by decide +kernel
theorem dX4_setTo_6 : decode cX4_setTo 6 = .ok (.if_icmp .lt 21, 3) := by decide +kernel
theorem dX4_setTo_9 : decode cX4_setTo 9 = .ok (.iload_n 2, 1) := by decide +kernel
theorem dX4_setTo_10 : decode cX4_setTo 10 = .ok (.bipush 20, 2) := by decide +kernel
theorem dX4_setTo_12 : decode cX4_setTo 12 = .ok (.if_icmp .gt 15, 3) := by decide +kernel
theorem dX4_setTo_15 : decode cX4_setTo 15 = .ok (.aload_n 0, 1) := by decide +kernel
theorem dX4_setTo_16 : decode cX4_setTo 16 = .ok (.getfield 51, 3) := by decide +kernel
theorem dX4_setTo_19 : decode cX4_setTo 19 = .ok (.istore_n 3, 1) := by decide +kernel
theorem dX4_setTo_20 : decode cX4_setTo 20 = .ok (.aload_n 0, 1) := by decide +kernel
theorem dX4_setTo_21 : decode cX4_setTo 21 = .ok (.iload_n 2, 1) := by decide +kernel
theorem dX4_setTo_22 : decode cX4_setTo 22 = .ok (.putfield 51, 3) := by decide +kernel
theorem dX4_setTo_25 : decode cX4_setTo 25 = .ok (.iload_n 3, 1) := by decide +kernel
theorem dX4_setTo_26 : decode cX4_setTo 26 = .ok (.ireturn, 1) := by decide +kernel
theorem dX4_setTo_27 : decode cX4_setTo 27 = .ok (.iload_n 1, 1) := by decide +kernel
theorem dX4_setTo_28 : decode cX4_setTo 28 = .ok (.iconst 1, 1) := by decide +kernel
theorem dX4_setTo_29 : decode cX4_setTo 29 = .ok (.if_icmp .ne 25, 3) := by decide +kernel
theorem dX4_setTo_32 : decode cX4_setTo 32 = .ok (.iload_n 2, 1) := by decide +kernel
theorem dX4_setTo_33 : decode cX4_setTo 33 = .ok (.ifCond .lt 21, 3) := by decide +kernel
theorem dX4_setTo_36 : decode cX4_setTo 36 = .ok (.iload_n 2, 1) := by decide +kernel
theorem dX4_setTo_37 : decode cX4_setTo 37 = .ok (.bipush 20, 2) := by decide +kernel
theorem dX4_setTo_39 : decode cX4_setTo 39 = .ok (.if_icmp .gt 15, 3) := by decide +kernel
theorem dX4_setTo_42 : decode cX4_setTo 42 = .ok (.aload_n 0, 1) := by decide +kernel
theorem dX4_setTo_43 : decode cX4_setTo 43 = .ok (.getfield 54, 3) := by decide +kernel
theorem dX4_setTo_46 : decode cX4_setTo 46 = .ok (.istore_n 3, 1) := by decide +kernel
theorem dX4_setTo_47 : decode cX4_setTo 47 = .ok (.aload_n 0, 1) := by decide +kernel
theorem dX4_setTo_48 : decode cX4_setTo 48 = .ok (.iload_n 2, 1) := by decide +kernel
theorem dX4_setTo_49 : decode cX4_setTo 49 = .ok (.putfield 54, 3) := by decide +kernel
theorem dX4_setTo_52 : decode cX4_setTo 52 = .ok (.iload_n 3, 1) := by decide +kernel
theorem dX4_setTo_53 : decode cX4_setTo 53 = .ok (.ireturn, 1) := by decide +kernel
theorem dX4_setTo_54 : decode cX4_setTo 54 = .ok (.ldc 64, 2) := by decide +kernel
theorem dX4_setTo_56 : decode cX4_setTo 56 = .ok (.ireturn, 1) := by decide +kernel
set_option maxRecDepth 20000 in
theorem ggX4_copyFrom_X1_copyFrom : GoodIn wsX4_copyFrom wsX1_copyFrom := goodIn_r _ [21, 22, 23, 24, 25, 26, 27, 28, 29, 30, 31, 6, 7, 8, 32, 33, 34, 35, 58, 59, 60, 61, 62, 63] (by decide +kernel) (by decide +kernel)
set_option maxRecDepth 20000 in
theorem gX4_copyFrom_X1_copyFrom : GoodIn wsX4_copyFrom (wsV RX4 143 RX1 yX1_copyFrom wsX1_copyFrom) := goodIn_app (goodIn_of _ (by decide +kernel)) ggX4_copyFrom_X1_copyFrom
set_option maxRecDepth 20000 in
theorem ggX4_copyFrom_X3_copyFrom : GoodIn wsX4_copyFrom wsX3_copyFrom := goodIn_r _ [40, 41, 42, 43, 44, 45, 6, 7, 8, 64, 65, 66, 67] (by decide +kernel) (by decide +kernel)
set_option maxRecDepth 20000 in
theorem gX4_copyFrom_X3_copyFrom : GoodIn wsX4_copyFrom (wsV RX4 147 RX3 yX3_copyFrom wsX3_copyFrom) := goodIn_app (goodIn_of _ (by decide +kernel)) ggX4_copyFrom_X3_copyFrom
theorem dX4_copyFrom_0 : decode cX4_copyFrom 0 = .ok (.aload_n 0, 1) := by decide +kernel
theorem dX4_copyFrom_1 : decode cX4_copyFrom 1 = .ok (.getfield 12, 3) := by decide +kernel
theorem dX4_copyFrom_4 : decode cX4_copyFrom 4 = .ok (.aload_n 1, 1) := by decide +kernel
theorem dX4_copyFrom_5 : decode cX4_copyFrom 5 = .ok (.getfield 12, 3) := by decide +kernel
theorem dX4_copyFrom_8 : decode cX4_copyFrom 8 = .ok (.invokevirtual 143, 3) := by decide +kernel
theorem dX4_copyFrom_11 : decode cX4_copyFrom 11 = .ok (.aload_n 0, 1) := by decide +kernel
theorem dX4_copyFrom_12 : decode cX4_copyFrom 12 = .ok (.getfield 21, 3) := by decide +kernel
theorem dX4_copyFrom_15 : decode cX4_copyFrom 15 = .ok (.aload_n 1, 1) := by decide +kernel
theorem dX4_copyFrom_16 : decode cX4_copyFrom 16 = .ok (.getfield 21, 3) := by decide +kernel
theorem dX4_copyFrom_19 : decode cX4_copyFrom 19 = .ok (.invokevirtual 147, 3) := by decide +kernel
theorem dX4_copyFrom_22 : decode cX4_copyFrom 22 = .ok (.aload_n 0, 1) := by decide +kernel
theorem dX4_copyFrom_23 : decode cX4_copyFrom 23 = .ok (.getfield 25, 3) := by decide +kernel
theorem dX4_copyFrom_26 : decode cX4_copyFrom 26 = .ok (.aload_n 1, 1) := by decide +kernel
theorem dX4_copyFrom_27 : decode cX4_copyFrom 27 = .ok (.getfield 25, 3) := by decide +kernel
theorem dX4_copyFrom_30 : decode cX4_copyFrom 30 = .ok (.invokevirtual 147, 3) := by decide +kernel
theorem dX4_copyFrom_33 : decode cX4_copyFrom 33 = .ok (.aload_n 1, 1) := by decide +kernel
theorem dX4_copyFrom_34 : decode cX4_copyFrom 34 = .ok (.getfield 28, 3) := by decide +kernel
theorem dX4_copyFrom_37 : decode cX4_copyFrom 37 = .ok (.iconst 0, 1) := by decide +kernel
theorem dX4_copyFrom_38 : decode cX4_copyFrom 38 = .ok (.aload_n 0, 1) := by decide +kernel
theorem dX4_copyFrom_39 : decode cX4_copyFrom 39 = .ok (.getfield 28, 3) := by decide +kernel
theorem dX4_copyFrom_42 : decode cX4_copyFrom 42 = .ok (.iconst 0, 1) := by decide +kernel
theorem dX4_copyFrom_43 : decode cX4_copyFrom 43 = .ok (.iconst 3, 1) := by decide +kernel
theorem dX4_copyFrom_44 : decode cX4_copyFrom 44 = .ok (.invokestatic 150, 3) := by decide +kernel
theorem dX4_copyFrom_47 : decode cX4_copyFrom 47 = .ok (.aload_n 0, 1) := by decide +kernel
theorem dX4_copyFrom_48 : decode cX4_copyFrom 48 = .ok (.aload_n 1, 1) := by decide +kernel
theorem dX4_copyFrom_49 : decode cX4_copyFrom 49 = .ok (.getfield 32, 3) := by decide +kernel
theorem dX4_copyFrom_52 : decode cX4_copyFrom 52 = .ok (.putfield 32, 3) := by decide +kernel
theorem dX4_copyFrom_55 : decode cX4_copyFrom 55 = .ok (.aload_n 0, 1) := by decide +kernel
theorem dX4_copyFrom_56 : decode cX4_copyFrom 56 = .ok (.aload_n 1, 1) := by decide +kernel
theorem dX4_copyFrom_57 : decode cX4_copyFrom 57 = .ok (.getfield 36, 3) := by decide +kernel
theorem dX4_copyFrom_60 : decode cX4_copyFrom 60 = .ok (.putfield 36, 3) := by decide +kernel
theorem dX4_copyFrom_63 : decode cX4_copyFrom 63 = .ok (.aload_n 0, 1) := by decide +kernel
theorem dX4_copyFrom_64 : decode cX4_copyFrom 64 = .ok (.aload_n 1, 1) := by decide +kernel
theorem dX4_copyFrom_65 : decode cX4_copyFrom 65 = .ok (.getfield 39, 3) := by decide +kernel
theorem dX4_copyFrom_68 : decode cX4_copyFrom 68 = .ok (.putfield 39, 3) := by decide +kernel
theorem dX4_copyFrom_71 : decode cX4_copyFrom 71 = .ok (.aload_n 0, 1) := by decide +kernel
theorem dX4_copyFrom_72 : decode cX4_copyFrom 72 = .ok (.aload_n 1, 1) := by decide +kernel
theorem dX4_copyFrom_73 : decode cX4_copyFrom 73 = .ok (.getfield 42, 3) := by decide +kernel
theorem dX4_copyFrom_76 : decode cX4_copyFrom 76 = .ok (.putfield 42, 3) := by decide +kernel
theorem dX4_copyFrom_79 : decode cX4_copyFrom 79 = .ok (.aload_n 0, 1) := by decide +kernel
theorem dX4_copyFrom_80 : decode cX4_copyFrom 80 = .ok (.aload_n 1, 1) := by decide +kernel
theorem dX4_copyFrom_81 : decode cX4_copyFrom 81 = .ok (.getfield 45, 3) := by decide +kernel
theorem dX4_copyFrom_84 : decode cX4_copyFrom 84 = .ok (.putfield 45, 3) := by decide +kernel
theorem dX4_copyFrom_87 : decode cX4_copyFrom 87 = .ok (.aload_n 0, 1) := by decide +kernel
theorem dX4_copyFrom_88 : decode cX4_copyFrom 88 = .ok (.aload_n 1, 1) := by decide +kernel
theorem dX4_copyFrom_89 : decode cX4_copyFrom 89 = .ok (.getfield 48, 3) := by decide +kernel
theorem dX4_copyFrom_92 : decode cX4_copyFrom 92 = .ok (.putfield 48, 3) := by decide +kernel
theorem dX4_copyFrom_95 : decode cX4_copyFrom 95 = .ok (.aload_n 0, 1) := by decide +kernel
theorem dX4_copyFrom_96 : decode cX4_copyFrom 96 = .ok (.aload_n 1, 1) := by decide +kernel
theorem dX4_copyFrom_97 : decode cX4_copyFrom 97 = .ok (.getfield 51, 3) := by decide +kernel
theorem dX4_copyFrom_100 : decode cX4_copyFrom 100 = .ok (.putfield 51, 3) := by decide +kernel
theorem dX4_copyFrom_103 : decode cX4_copyFrom 103 = .ok (.aload_n 0, 1) := by decide +kernel
theorem dX4_copyFrom_104 : decode cX4_copyFrom 104 = .ok (.aload_n 1, 1) := by decide +kernel
theorem dX4_copyFrom_105 : decode cX4_copyFrom 105 = .ok (.getfield 54, 3) := by decide +kernel
theorem dX4_copyFrom_108 : decode cX4_copyFrom 108 = .ok (.putfield 54, 3) := by decide +kernel
theorem dX4_copyFrom_111 : decode cX4_copyFrom 111 = .ok (.return_, 1) := by decide +kernel
set_option maxRecDepth 20000 in
theorem ggX5_init_X4_init : GoodIn wsX5_init wsX4_init := goodIn_r _ [13, 14, 2, 3, 15, 16, 17, 18, 19, 20, 21, 22, 23, 24, 25, 26, 27, 28, 29, 30, 31, 32, 33, 34, 35, 36, 37, 38, 39, 40, 41, 42, 43, 44, 45, 46, 47, 48, 49, 50, 68, 69, 70, 71, 72, 73, 51, 52, 53, 54, 55, 56, 57, 58, 59, 60, 61, 62, 74, 75, 76, 77] (by decide +kernel) (by decide +kernel)
set_option maxRecDepth 20000 in
theorem gX5_init_X4_init_n11 : GoodIn wsX5_init (wsX4_init) := ggX5_init_X4_init
theorem dX5_init_0 : decode cX5_init 0 = .ok (.aload_n 0, 1) := by decide +kernel
theorem dX5_init_1 : decode cX5_init 1 = .ok (.invokespecial 3, 3) := by decide +kernel
theorem dX5_init_4 : decode cX5_init 4 = .ok (.aload_n 0, 1) := by decide +kernel
theorem dX5_init_5 : decode cX5_init 5 = .ok (.new 9, 3) := by decide +kernel
theorem dX5_init_8 : decode cX5_init 8 = .ok (.dup, 1) := by decide +kernel
theorem dX5_init_9 : decode cX5_init 9 = .ok (.invokespecial 11, 3) := by decide +kernel
theorem dX5_init_12 : decode cX5_init 12 = .ok (.putfield 12, 3) := by decide +kernel
theorem dX5_init_15 : decode cX5_init 15 = .ok (.aload_n 0, 1) := by decide +kernel
theorem dX5_init_16 : decode cX5_init 16 = .ok (.iconst 0, 1) := by decide +kernel
theorem dX5_init_17 : decode cX5_init 17 = .ok (.putfield 18, 3) := by decide +kernel
theorem dX5_init_20 : decode cX5_init 20 = .ok (.aload_n 0, 1) := by decide +kernel
theorem dX5_init_21 : decode cX5_init 21 = .ok (.iconst 0, 1) := by decide +kernel
theorem dX5_init_22 : decode cX5_init 22 = .ok (.putfield 22, 3) := by decide +kernel
theorem dX5_init_25 : decode cX5_init 25 = .ok (.aload_n 0, 1) := by decide +kernel
theorem dX5_init_26 : decode cX5_init 26 = .ok (.iconst 0, 1) := by decide +kernel
theorem dX5_init_27 : decode cX5_init 27 = .ok (.putfield 25, 3) := by decide +kernel
theorem dX5_init_30 : decode cX5_init 30 = .ok (.aload_n 0, 1) := by decide +kernel
theorem dX5_init_31 : decode cX5_init 31 = .ok (.iconst 0, 1) := by decide +kernel
theorem dX5_init_32 : decode cX5_init 32 = .ok (.putfield 28, 3) := by decide +kernel
theorem dX5_init_35 : decode cX5_init 35 = .ok (.return_, 1) := by decide +kernel
set_option maxRecDepth 20000 in
theorem ggX5_run_X4_copyFrom : GoodIn wsX5_run wsX4_copyFrom := goodIn_r _ [12, 13, 14, 15, 16, 17, 18, 19, 20, 21, 22, 23, 24, 25, 26, 27, 28, 29, 30, 31, 32, 33, 34, 35, 36, 37, 38, 39, 40, 41, 42, 43, 44, 45, 46, 47, 48, 49, 50, 51, 52, 53, 54, 55, 56, 57, 227, 228, 229, 230, 231, 232, 233, 234, 235, 236, 237, 238, 239, 240, 241, 242, 243, 244, 245, 246, 247, 248] (by decide +kernel) (by decide +kernel)
set_option maxRecDepth 20000 in
theorem gX5_run_X4_copyFrom : GoodIn wsX5_run (wsV RX5 31 RX4 yX4_copyFrom wsX4_copyFrom) := goodIn_app (goodIn_of _ (by decide +kernel)) ggX5_run_X4_copyFrom
set_option maxRecDepth 20000 in
theorem ggX5_run_X2_readOrder : GoodIn wsX5_run wsX2_readOrder := goodIn_r _ [62, 63, 64, 65, 66, 67, 68, 61, 69, 70, 71, 72, 73, 74, 75, 76, 77, 78, 79, 80, 81, 82, 83, 84, 85, 86, 87, 88, 89, 90, 91, 92, 93, 94, 95, 96, 97, 98, 99, 100, 101, 102, 103, 104, 105, 106, 107, 108, 109, 110, 111, 112, 113, 114, 115, 116, 117, 118, 119, 120, 121, 122, 123, 124, 125, 126, 127, 128, 129, 130, 131, 132, 133, 134, 135, 136, 137, 138, 139, 221, 222, 223, 224, 225, 226] (by decide +kernel) (by decide +kernel)
set_option maxRecDepth 20000 in
theorem gX5_run_X2_readOrder : GoodIn wsX5_run (wsV RX5 40 RX2 yX2_readOrder wsX2_readOrder) := goodIn_app (goodIn_of _ (by decide +kernel)) ggX5_run_X2_readOrder
set_option maxRecDepth 20000 in
theorem ggX5_run_X5_doOrder : GoodIn wsX5_run wsX5_doOrder := goodIn_r _ [144, 145, 1, 146, 147, 148, 61, 149, 64, 136, 150, 151, 152, 11, 153, 154, 16, 155, 23, 156, 157, 158, 159, 160, 161, 162, 163, 164, 165, 166, 167, 168, 13, 21, 169, 170, 171, 32, 172, 34, 173, 42, 44, 45, 46, 47, 174, 175, 176, 177, 178, 179, 180, 181, 182, 183, 184, 185, 36, 37, 38, 186, 187, 188, 189, 190, 191, 14, 15, 192, 193, 194, 195, 196, 27, 26, 197, 198, 199, 200, 201, 202, 28, 203, 204, 205, 51, 206, 56, 207, 208, 209, 210, 211, 212, 213, 214, 215, 221, 222, 223, 224, 225, 226, 216, 217, 218, 219, 220, 227, 228, 229, 230, 231, 232, 233, 234, 235, 236, 237, 238, 239, 240, 241, 242, 243, 244, 245, 246, 247, 248] (by decide +kernel) (by decide +kernel)
set_option maxRecDepth 20000 in
theorem gX5_run_X5_doOrder : GoodIn wsX5_run (wsV RX5 47 RX5 yX5_doOrder wsX5_doOrder) := goodIn_app (goodIn_of _ (by decide +kernel)) ggX5_run_X5_doOrder
theorem dX5_run_0 : decode cX5_run 0 = .ok (.aload_n 0, 1) := by decide +kernel
theorem dX5_run_1 : decode cX5_run 1 = .ok (.getfield 12, 3) := by decide +kernel
theorem dX5_run_4 : decode cX5_run 4 = .ok (.aload_n 2, 1) := by decide +kernel
theorem dX5_run_5 : decode cX5_run 5 = .ok (.invokevirtual 31, 3) := by decide +kernel
theorem dX5_run_8 : decode cX5_run 8 = .ok (.aload_n 0, 1) := by decide +kernel
theorem dX5_run_9 : decode cX5_run 9 = .ok (.iconst 0, 1) := by decide +kernel
theorem dX5_run_10 : decode cX5_run 10 = .ok (.putfield 22, 3) := by decide +kernel
theorem dX5_run_13 : decode cX5_run 13 = .ok (.aload_n 0, 1) := by decide +kernel
theorem dX5_run_14 : decode cX5_run 14 = .ok (.iconst 0, 1) := by decide +kernel
theorem dX5_run_15 : decode cX5_run 15 = .ok (.putfield 25, 3) := by decide +kernel
theorem dX5_run_18 : decode cX5_run 18 = .ok (.aload_n 0, 1) := by decide +kernel
theorem dX5_run_19 : decode cX5_run 19 = .ok (.iconst 0, 1) := by decide +kernel
theorem dX5_run_20 : decode cX5_run 20 = .ok (.putfield 28, 3) := by decide +kernel
theorem dX5_run_23 : decode cX5_run 23 = .ok (.aload_n 0, 1) := by decide +kernel
theorem dX5_run_24 : decode cX5_run 24 = .ok (.iconst 0, 1) := by decide +kernel
theorem dX5_run_25 : decode cX5_run 25 = .ok (.putfield 18, 3) := by decide +kernel
theorem dX5_run_28 : decode cX5_run 28 = .ok (.aload_n 0, 1) := by decide +kernel
theorem dX5_run_29 : decode cX5_run 29 = .ok (.getfield 18, 3) := by decide +kernel
theorem dX5_run_32 : decode cX5_run 32 = .ok (.bipush 60, 2) := by decide +kernel
theorem dX5_run_34 : decode cX5_run 34 = .ok (.if_icmp .ge 86, 3) := by decide +kernel
theorem dX5_run_37 : decode cX5_run 37 = .ok (.aload_n 0, 1) := by decide +kernel
theorem dX5_run_38 : decode cX5_run 38 = .ok (.getfield 22, 3) := by decide +kernel
theorem dX5_run_41 : decode cX5_run 41 = .ok (.aload_n 1, 1) := by decide +kernel
theorem dX5_run_42 : decode cX5_run 42 = .ok (.getfield 35, 3) := by decide +kernel
theorem dX5_run_45 : decode cX5_run 45 = .ok (.if_icmp .ge 75, 3) := by decide +kernel
theorem dX5_run_48 : decode cX5_run 48 = .ok (.aload_n 1, 1) := by decide +kernel
theorem dX5_run_49 : decode cX5_run 49 = .ok (.aload_n 0, 1) := by decide +kernel
theorem dX5_run_50 : decode cX5_run 50 = .ok (.getfield 22, 3) := by decide +kernel
theorem dX5_run_53 : decode cX5_run 53 = .ok (.invokevirtual 40, 3) := by decide +kernel
theorem dX5_run_56 : decode cX5_run 56 = .ok (.ifCond .ne 22, 3) := by decide +kernel
theorem dX5_run_59 : decode cX5_run 59 = .ok (.aload_n 0, 1) := by decide +kernel
theorem dX5_run_60 : decode cX5_run 60 = .ok (.iconst 1, 1) := by decide +kernel
theorem dX5_run_61 : decode cX5_run 61 = .ok (.putfield 25, 3) := by decide +kernel
theorem dX5_run_64 : decode cX5_run 64 = .ok (.aload_n 0, 1) := by decide +kernel
theorem dX5_run_65 : decode cX5_run 65 = .ok (.aload_n 1, 1) := by decide +kernel
theorem dX5_run_66 : decode cX5_run 66 = .ok (.getfield 44, 3) := by decide +kernel
theorem dX5_run_69 : decode cX5_run 69 = .ok (.aload_n 0, 1) := by decide +kernel
theorem dX5_run_70 : decode cX5_run 70 = .ok (.getfield 22, 3) := by decide +kernel
theorem dX5_run_73 : decode cX5_run 73 = .ok (.isub, 1) := by decide +kernel
theorem dX5_run_74 : decode cX5_run 74 = .ok (.putfield 28, 3) := by decide +kernel
theorem dX5_run_77 : decode cX5_run 77 = .ok (.return_, 1) := by decide +kernel
theorem dX5_run_78 : decode cX5_run 78 = .ok (.aload_n 0, 1) := by decide +kernel
theorem dX5_run_79 : decode cX5_run 79 = .ok (.aload_n 1, 1) := by decide +kernel
theorem dX5_run_80 : decode cX5_run 80 = .ok (.invokevirtual 47, 3) := by decide +kernel
theorem dX5_run_83 : decode cX5_run 83 = .ok (.istore_n 3, 1) := by decide +kernel
theorem dX5_run_84 : decode cX5_run 84 = .ok (.iload_n 3, 1) := by decide +kernel
theorem dX5_run_85 : decode cX5_run 85 = .ok (.ifCond .ge 14, 3) := by decide +kernel
theorem dX5_run_88 : decode cX5_run 88 = .ok (.aload_n 0, 1) := by decide +kernel
theorem dX5_run_89 : decode cX5_run 89 = .ok (.iconst 2, 1) := by decide +kernel
theorem dX5_run_90 : decode cX5_run 90 = .ok (.putfield 25, 3) := by decide +kernel
theorem dX5_run_93 : decode cX5_run 93 = .ok (.aload_n 0, 1) := by decide +kernel
theorem dX5_run_94 : decode cX5_run 94 = .ok (.iload_n 3, 1) := by decide +kernel
theorem dX5_run_95 : decode cX5_run 95 = .ok (.putfield 28, 3) := by decide +kernel
theorem dX5_run_98 : decode cX5_run 98 = .ok (.return_, 1) := by decide +kernel
theorem dX5_run_99 : decode cX5_run 99 = .ok (.aload_n 0, 1) := by decide +kernel
theorem dX5_run_100 : decode cX5_run 100 = .ok (.aload_n 1, 1) := by decide +kernel
theorem dX5_run_101 : decode cX5_run 101 = .ok (.getfield 44, 3) := by decide +kernel
theorem dX5_run_104 : decode cX5_run 104 = .ok (.putfield 22, 3) := by decide +kernel
theorem dX5_run_107 : decode cX5_run 107 = .ok (.aload_n 0, 1) := by decide +kernel
theorem dX5_run_108 : decode cX5_run 108 = .ok (.dup, 1) := by decide +kernel
theorem dX5_run_109 : decode cX5_run 109 = .ok (.getfield 18, 3) := by decide +kernel
theorem dX5_run_112 : decode cX5_run 112 = .ok (.iconst 1, 1) := by decide +kernel
theorem dX5_run_113 : decode cX5_run 113 = .ok (.iadd, 1) := by decide +kernel
theorem dX5_run_114 : decode cX5_run 114 = .ok (.putfield 18, 3) := by decide +kernel
theorem dX5_run_117 : decode cX5_run 117 = .ok (.goto (-89), 3) := by decide +kernel
theorem dX5_run_120 : decode cX5_run 120 = .ok (.return_, 1) := by decide +kernel
set_option maxRecDepth 20000 in
theorem ggX5_doOrder_X2_number : GoodIn wsX5_doOrder wsX2_number := goodIn_r _ [7, 8, 9, 98, 99, 100, 101, 102, 103] (by decide +kernel) (by decide +kernel)
set_option maxRecDepth 20000 in
theorem gX5_doOrder_X2_number : GoodIn wsX5_doOrder (wsV RX5 51 RX2 yX2_number wsX2_number) := goodIn_app (goodIn_of _ (by decide +kernel)) ggX5_doOrder_X2_number
set_option maxRecDepth 20000 in
theorem ggX5_doOrder_X4_openIn : GoodIn wsX5_doOrder wsX4_openIn := goodIn_r _ [14, 15, 16, 17, 18, 19, 20, 21, 109, 110, 111, 112, 113, 114, 115, 116, 117, 118, 119, 120] (by decide +kernel) (by decide +kernel)
set_option maxRecDepth 20000 in
theorem gX5_doOrder_X4_openIn : GoodIn wsX5_doOrder (wsV RX5 58 RX4 yX4_openIn wsX4_openIn) := goodIn_app (goodIn_of _ (by decide +kernel)) ggX5_doOrder_X4_openIn
set_option maxRecDepth 20000 in
theorem ggX5_doOrder_X4_putBy : GoodIn wsX5_doOrder wsX4_putBy := goodIn_r _ [25, 15, 16, 19, 20, 21, 26, 27, 28, 29, 30, 13, 31, 17, 32, 33, 34, 35, 36, 37, 38, 39, 40, 41, 42, 43, 44, 45, 109, 110, 111, 112, 113, 114, 115, 116, 117, 118, 119, 120, 121, 122, 123, 124, 125, 126] (by decide +kernel) (by decide +kernel)
set_option maxRecDepth 20000 in
theorem gX5_doOrder_X4_putBy : GoodIn wsX5_doOrder (wsV RX5 61 RX4 yX4_putBy wsX4_putBy) := goodIn_app (goodIn_of _ (by decide +kernel)) ggX5_doOrder_X4_putBy
set_option maxRecDepth 20000 in
theorem ggX5_doOrder_X4_endIn : GoodIn wsX5_doOrder wsX4_endIn := goodIn_r _ [49, 15, 16, 19, 20, 21, 28, 29, 30, 13, 31, 17, 32, 33, 34, 35, 36, 37, 38, 39, 40, 41, 42, 43, 44, 45, 109, 110, 111, 112, 113, 114, 115, 116, 117, 118, 119, 120, 121, 122, 123, 124, 125, 126] (by decide +kernel) (by decide +kernel)
set_option maxRecDepth 20000 in
theorem gX5_doOrder_X4_endIn : GoodIn wsX5_doOrder (wsV RX5 65 RX4 yX4_endIn wsX4_endIn) := goodIn_app (goodIn_of _ (by decide +kernel)) ggX5_doOrder_X4_endIn
set_option maxRecDepth 20000 in
theorem ggX5_doOrder_X4_shipTo : GoodIn wsX5_doOrder wsX4_shipTo := goodIn_r _ [53, 15, 54, 17, 32, 55, 56, 57, 58, 59, 60, 61, 20, 62, 63, 64, 65, 13, 66, 67, 68, 127, 128, 129, 130, 109, 110, 111, 112, 113, 114, 115, 116, 117, 118, 119, 120, 121, 122, 123, 124, 125, 126] (by decide +kernel) (by decide +kernel)
set_option maxRecDepth 20000 in
theorem gX5_doOrder_X4_shipTo : GoodIn wsX5_doOrder (wsV RX5 69 RX4 yX4_shipTo wsX4_shipTo) := goodIn_app (goodIn_of _ (by decide +kernel)) ggX5_doOrder_X4_shipTo
set_option maxRecDepth 20000 in
theorem ggX5_doOrder_X4_pass : GoodIn wsX5_doOrder wsX4_pass := goodIn_r _ [72, 15, 33, 73, 74, 75, 76, 20, 77, 63, 64, 65, 13, 66, 67, 68, 78, 79, 80, 81, 54, 56, 32, 82, 83, 84, 85, 86, 87, 88, 89, 90, 91, 37, 92, 45, 93, 94, 95, 96, 97, 39, 109, 110, 111, 112, 113, 114, 115, 116, 117, 118, 119, 120, 127, 128, 129, 130, 121, 122, 123, 124, 125, 126] (by decide +kernel) (by decide +kernel)
set_option maxRecDepth 20000 in
theorem gX5_doOrder_X4_pass : GoodIn wsX5_doOrder (wsV RX5 72 RX4 yX4_pass wsX4_pass) := goodIn_app (goodIn_of _ (by decide +kernel)) ggX5_doOrder_X4_pass
theorem dX5_doOrder_0 : decode cX5_doOrder 0 = .ok (.aload_n 1, 1) := by decide +kernel
theorem dX5_doOrder_1 : decode cX5_doOrder 1 = .ok (.iconst 0, 1) := by decide +kernel
theorem dX5_doOrder_2 : decode cX5_doOrder 2 = .ok (.invokevirtual 51, 3) := by decide +kernel
theorem dX5_doOrder_5 : decode cX5_doOrder 5 = .ok (.istore_n 2, 1) := by decide +kernel
theorem dX5_doOrder_6 : decode cX5_doOrder 6 = .ok (.aload_n 1, 1) := by decide +kernel
theorem dX5_doOrder_7 : decode cX5_doOrder 7 = .ok (.getfield 55, 3) := by decide +kernel
theorem dX5_doOrder_10 : decode cX5_doOrder 10 = .ok (.lookupswitch 112 #[(97, 88), (99, 78), (111, 50), (112, 59), (115, 98)], 50) := by decide +kernel
theorem dX5_doOrder_60 : decode cX5_doOrder 60 = .ok (.aload_n 0, 1) := by decide +kernel
theorem dX5_doOrder_61 : decode cX5_doOrder 61 = .ok (.getfield 12, 3) := by decide +kernel
theorem dX5_doOrder_64 : decode cX5_doOrder 64 = .ok (.iload_n 2, 1) := by decide +kernel
theorem dX5_doOrder_65 : decode cX5_doOrder 65 = .ok (.invokevirtual 58, 3) := by decide +kernel
theorem dX5_doOrder_68 : decode cX5_doOrder 68 = .ok (.ireturn, 1) := by decide +kernel
theorem dX5_doOrder_69 : decode cX5_doOrder 69 = .ok (.aload_n 0, 1) := by decide +kernel
theorem dX5_doOrder_70 : decode cX5_doOrder 70 = .ok (.getfield 12, 3) := by decide +kernel
theorem dX5_doOrder_73 : decode cX5_doOrder 73 = .ok (.iload_n 2, 1) := by decide +kernel
theorem dX5_doOrder_74 : decode cX5_doOrder 74 = .ok (.aload_n 1, 1) := by decide +kernel
theorem dX5_doOrder_75 : decode cX5_doOrder 75 = .ok (.iconst 1, 1) := by decide +kernel
theorem dX5_doOrder_76 : decode cX5_doOrder 76 = .ok (.invokevirtual 51, 3) := by decide +kernel
theorem dX5_doOrder_79 : decode cX5_doOrder 79 = .ok (.aload_n 1, 1) := by decide +kernel
theorem dX5_doOrder_80 : decode cX5_doOrder 80 = .ok (.iconst 2, 1) := by decide +kernel
theorem dX5_doOrder_81 : decode cX5_doOrder 81 = .ok (.invokevirtual 51, 3) := by decide +kernel
theorem dX5_doOrder_84 : decode cX5_doOrder 84 = .ok (.invokevirtual 61, 3) := by decide +kernel
theorem dX5_doOrder_87 : decode cX5_doOrder 87 = .ok (.ireturn, 1) := by decide +kernel
theorem dX5_doOrder_88 : decode cX5_doOrder 88 = .ok (.aload_n 0, 1) := by decide +kernel
theorem dX5_doOrder_89 : decode cX5_doOrder 89 = .ok (.getfield 12, 3) := by decide +kernel
theorem dX5_doOrder_92 : decode cX5_doOrder 92 = .ok (.iload_n 2, 1) := by decide +kernel
theorem dX5_doOrder_93 : decode cX5_doOrder 93 = .ok (.iconst 1, 1) := by decide +kernel
theorem dX5_doOrder_94 : decode cX5_doOrder 94 = .ok (.invokevirtual 65, 3) := by decide +kernel
theorem dX5_doOrder_97 : decode cX5_doOrder 97 = .ok (.ireturn, 1) := by decide +kernel
theorem dX5_doOrder_98 : decode cX5_doOrder 98 = .ok (.aload_n 0, 1) := by decide +kernel
theorem dX5_doOrder_99 : decode cX5_doOrder 99 = .ok (.getfield 12, 3) := by decide +kernel
theorem dX5_doOrder_102 : decode cX5_doOrder 102 = .ok (.iload_n 2, 1) := by decide +kernel
theorem dX5_doOrder_103 : decode cX5_doOrder 103 = .ok (.iconst 2, 1) := by decide +kernel
theorem dX5_doOrder_104 : decode cX5_doOrder 104 = .ok (.invokevirtual 65, 3) := by decide +kernel
theorem dX5_doOrder_107 : decode cX5_doOrder 107 = .ok (.ireturn, 1) := by decide +kernel
theorem dX5_doOrder_108 : decode cX5_doOrder 108 = .ok (.aload_n 0, 1) := by decide +kernel
theorem dX5_doOrder_109 : decode cX5_doOrder 109 = .ok (.getfield 12, 3) := by decide +kernel
theorem dX5_doOrder_112 : decode cX5_doOrder 112 = .ok (.iload_n 2, 1) := by decide +kernel
theorem dX5_doOrder_113 : decode cX5_doOrder 113 = .ok (.aload_n 1, 1) := by decide +kernel
theorem dX5_doOrder_114 : decode cX5_doOrder 114 = .ok (.iconst 1, 1) := by decide +kernel
theorem dX5_doOrder_115 : decode cX5_doOrder 115 = .ok (.invokevirtual 51, 3) := by decide +kernel
theorem dX5_doOrder_118 : decode cX5_doOrder 118 = .ok (.invokevirtual 69, 3) := by decide +kernel
theorem dX5_doOrder_121 : decode cX5_doOrder 121 = .ok (.ireturn, 1) := by decide +kernel
theorem dX5_doOrder_122 : decode cX5_doOrder 122 = .ok (.aload_n 0, 1) := by decide +kernel
theorem dX5_doOrder_123 : decode cX5_doOrder 123 = .ok (.getfield 12, 3) := by decide +kernel
theorem dX5_doOrder_126 : decode cX5_doOrder 126 = .ok (.iload_n 2, 1) := by decide +kernel
theorem dX5_doOrder_127 : decode cX5_doOrder 127 = .ok (.invokevirtual 72, 3) := by decide +kernel
theorem dX5_doOrder_130 : decode cX5_doOrder 130 = .ok (.ireturn, 1) := by decide +kernel
set_option maxRecDepth 20000 in
theorem ggX6_init_X4_init : GoodIn wsX6_init wsX4_init := goodIn_r _ [24, 25, 2, 3, 26, 27, 28, 29, 30, 31, 32, 33, 34, 20, 35, 36, 37, 38, 39, 40, 41, 42, 43, 44, 45, 46, 47, 48, 49, 50, 51, 52, 53, 54, 55, 56, 57, 58, 59, 60, 118, 119, 120, 121, 122, 123, 87, 88, 89, 90, 91, 92, 93, 94, 95, 96, 97, 98, 124, 125, 126, 127] (by decide +kernel) (by decide +kernel)
set_option maxRecDepth 20000 in
theorem gX6_init_X4_init_n9 : GoodIn wsX6_init (wsX4_init) := ggX6_init_X4_init
set_option maxRecDepth 20000 in
theorem ggX6_init_X0_init : GoodIn wsX6_init wsX0_init := goodIn_r _ [63, 64, 2, 3, 65, 66, 67, 5, 6, 23, 24, 25, 26, 27, 28, 29, 30, 31, 32, 33, 34, 20, 35, 36, 37, 38, 39, 40, 41, 42, 43, 44, 45, 46, 47, 48, 49, 50, 51, 52, 53, 54, 55, 56, 57, 58, 59, 60, 105, 106, 87, 88, 89, 90, 91, 92, 93, 94, 95, 96, 97, 98, 118, 119, 120, 121, 122, 123, 124, 125, 126, 127] (by decide +kernel) (by decide +kernel)
set_option maxRecDepth 20000 in
theorem gX6_init_X0_init : GoodIn wsX6_init (wsX0_init) := ggX6_init_X0_init
set_option maxRecDepth 20000 in
theorem ggX6_init_X2_init : GoodIn wsX6_init wsX2_init := goodIn_r _ [69, 70, 2, 3, 71, 72, 73, 74, 75, 20, 76, 77, 107, 108, 109, 110, 111, 112] (by decide +kernel) (by decide +kernel)
set_option maxRecDepth 20000 in
theorem gX6_init_X2_init_n25 : GoodIn wsX6_init (wsX2_init) := ggX6_init_X2_init
set_option maxRecDepth 20000 in
theorem ggX6_init_X5_init : GoodIn wsX6_init wsX5_init := goodIn_r _ [79, 80, 2, 3, 81, 5, 6, 82, 83, 84, 85, 86, 23, 24, 25, 26, 27, 28, 29, 30, 31, 32, 33, 34, 20, 35, 36, 37, 38, 39, 40, 41, 42, 43, 44, 45, 46, 47, 48, 49, 50, 51, 52, 53, 54, 55, 56, 57, 58, 59, 60, 87, 88, 89, 90, 91, 92, 93, 94, 95, 96, 97, 98, 113, 114, 115, 116, 117, 118, 119, 120, 121, 122, 123, 124, 125, 126, 127] (by decide +kernel) (by decide +kernel)
set_option maxRecDepth 20000 in
theorem gX6_init_X5_init_n32 : GoodIn wsX6_init (wsX5_init) := ggX6_init_X5_init
theorem dX6_init_0 : decode cX6_init 0 = .ok (.aload_n 0, 1) := by decide +kernel
theorem dX6_init_1 : decode cX6_init 1 = .ok (.invokespecial 1, 3) := by decide +kernel
theorem dX6_init_4 : decode cX6_init 4 = .ok (.aload_n 0, 1) := by decide +kernel
theorem dX6_init_5 : decode cX6_init 5 = .ok (.new 7, 3) := by decide +kernel
theorem dX6_init_8 : decode cX6_init 8 = .ok (.dup, 1) := by decide +kernel
theorem dX6_init_9 : decode cX6_init 9 = .ok (.invokespecial 9, 3) := by decide +kernel
theorem dX6_init_12 : decode cX6_init 12 = .ok (.putfield 10, 3) := by decide +kernel
theorem dX6_init_15 : decode cX6_init 15 = .ok (.aload_n 0, 1) := by decide +kernel
theorem dX6_init_16 : decode cX6_init 16 = .ok (.new 16, 3) := by decide +kernel
theorem dX6_init_19 : decode cX6_init 19 = .ok (.dup, 1) := by decide +kernel
theorem dX6_init_20 : decode cX6_init 20 = .ok (.invokespecial 18, 3) := by decide +kernel
theorem dX6_init_23 : decode cX6_init 23 = .ok (.putfield 19, 3) := by decide +kernel
theorem dX6_init_26 : decode cX6_init 26 = .ok (.aload_n 0, 1) := by decide +kernel
theorem dX6_init_27 : decode cX6_init 27 = .ok (.new 23, 3) := by decide +kernel
theorem dX6_init_30 : decode cX6_init 30 = .ok (.dup, 1) := by decide +kernel
theorem dX6_init_31 : decode cX6_init 31 = .ok (.invokespecial 25, 3) := by decide +kernel
theorem dX6_init_34 : decode cX6_init 34 = .ok (.putfield 26, 3) := by decide +kernel
theorem dX6_init_37 : decode cX6_init 37 = .ok (.aload_n 0, 1) := by decide +kernel
theorem dX6_init_38 : decode cX6_init 38 = .ok (.new 30, 3) := by decide +kernel
theorem dX6_init_41 : decode cX6_init 41 = .ok (.dup, 1) := by decide +kernel
theorem dX6_init_42 : decode cX6_init 42 = .ok (.invokespecial 32, 3) := by decide +kernel
theorem dX6_init_45 : decode cX6_init 45 = .ok (.putfield 33, 3) := by decide +kernel
theorem dX6_init_48 : decode cX6_init 48 = .ok (.aload_n 0, 1) := by decide +kernel
theorem dX6_init_49 : decode cX6_init 49 = .ok (.bipush 24, 2) := by decide +kernel
theorem dX6_init_51 : decode cX6_init 51 = .ok (.newarray .int, 2) := by decide +kernel
theorem dX6_init_53 : decode cX6_init 53 = .ok (.putfield 37, 3) := by decide +kernel
theorem dX6_init_56 : decode cX6_init 56 = .ok (.aload_n 0, 1) := by decide +kernel
theorem dX6_init_57 : decode cX6_init 57 = .ok (.bipush 24, 2) := by decide +kernel
theorem dX6_init_59 : decode cX6_init 59 = .ok (.newarray .int, 2) := by decide +kernel
theorem dX6_init_61 : decode cX6_init 61 = .ok (.putfield 41, 3) := by decide +kernel
theorem dX6_init_64 : decode cX6_init 64 = .ok (.return_, 1) := by decide +kernel
set_option maxRecDepth 20000 in
theorem ggX6_open_X0_prepare : GoodIn wsX6_open wsX0_prepare := goodIn_r _ [7, 8, 9, 10, 11, 12, 13, 14, 15, 16, 17, 18, 19, 20, 21, 22, 23, 24, 25, 26, 27, 28, 29, 30, 31, 32, 33, 34, 35, 36, 37, 38, 39, 40, 41, 42, 43, 44, 45, 46, 47, 48, 49, 50, 51, 52, 53, 54, 55, 56, 57, 58, 59, 83, 84, 85, 86, 87, 88, 89, 90, 91, 92, 93, 94, 95, 96, 97, 98, 99, 100, 101, 102, 103, 104, 105, 106] (by decide +kernel) (by decide +kernel)
set_option maxRecDepth 20000 in
theorem gX6_open_X0_prepare : GoodIn wsX6_open (wsV RX6 44 RX0 yX0_prepare wsX0_prepare) := goodIn_app (goodIn_of _ (by decide +kernel)) ggX6_open_X0_prepare
set_option maxRecDepth 20000 in
theorem ggX6_open_X4_openIn : GoodIn wsX6_open wsX4_openIn := goodIn_r _ [63, 64, 18, 65, 25, 66, 67, 68, 85, 86, 87, 88, 89, 90, 91, 92, 93, 94, 95, 96] (by decide +kernel) (by decide +kernel)
set_option maxRecDepth 20000 in
theorem gX6_open_X4_openIn : GoodIn wsX6_open (wsV RX6 48 RX4 yX4_openIn wsX4_openIn) := goodIn_app (goodIn_of _ (by decide +kernel)) ggX6_open_X4_openIn
set_option maxRecDepth 20000 in
theorem ggX6_open_X6_changed : GoodIn wsX6_open wsX6_changed := goodIn_r _ [72, 1, 73, 74, 75, 6, 76, 8, 9, 77, 78, 79, 80, 81, 82, 83, 84] (by decide +kernel) (by decide +kernel)
set_option maxRecDepth 20000 in
theorem gX6_open_X6_changed : GoodIn wsX6_open (wsV RX6 52 RX6 yX6_changed wsX6_changed) := goodIn_app (goodIn_of _ (by decide +kernel)) ggX6_open_X6_changed
theorem dX6_open_0 : decode cX6_open 0 = .ok (.aload_n 0, 1) := by decide +kernel
theorem dX6_open_1 : decode cX6_open 1 = .ok (.getfield 19, 3) := by decide +kernel
theorem dX6_open_4 : decode cX6_open 4 = .ok (.aload_n 0, 1) := by decide +kernel
theorem dX6_open_5 : decode cX6_open 5 = .ok (.getfield 10, 3) := by decide +kernel
theorem dX6_open_8 : decode cX6_open 8 = .ok (.invokevirtual 44, 3) := by decide +kernel
theorem dX6_open_11 : decode cX6_open 11 = .ok (.aload_n 0, 1) := by decide +kernel
theorem dX6_open_12 : decode cX6_open 12 = .ok (.aload_n 0, 1) := by decide +kernel
theorem dX6_open_13 : decode cX6_open 13 = .ok (.getfield 10, 3) := by decide +kernel
theorem dX6_open_16 : decode cX6_open 16 = .ok (.iload_n 1, 1) := by decide +kernel
theorem dX6_open_17 : decode cX6_open 17 = .ok (.invokevirtual 48, 3) := by decide +kernel
theorem dX6_open_20 : decode cX6_open 20 = .ok (.invokevirtual 52, 3) := by decide +kernel
theorem dX6_open_23 : decode cX6_open 23 = .ok (.ireturn, 1) := by decide +kernel
set_option maxRecDepth 20000 in
theorem ggX6_put_X0_prepare : GoodIn wsX6_put wsX0_prepare := goodIn_r _ [7, 8, 9, 10, 11, 12, 13, 14, 15, 16, 17, 18, 19, 20, 21, 22, 23, 24, 25, 26, 27, 28, 29, 30, 31, 32, 33, 34, 35, 36, 37, 38, 39, 40, 41, 42, 43, 44, 45, 46, 47, 48, 49, 50, 51, 52, 53, 54, 55, 56, 57, 58, 59, 94, 95, 96, 97, 98, 99, 100, 101, 102, 103, 104, 105, 106, 107, 108, 109, 110, 111, 112, 113, 114, 115, 116, 117] (by decide +kernel) (by decide +kernel)
set_option maxRecDepth 20000 in
theorem gX6_put_X0_prepare : GoodIn wsX6_put (wsV RX6 44 RX0 yX0_prepare wsX0_prepare) := goodIn_app (goodIn_of _ (by decide +kernel)) ggX6_put_X0_prepare
set_option maxRecDepth 20000 in
theorem ggX6_put_X4_putBy : GoodIn wsX6_put wsX4_putBy := goodIn_r _ [63, 64, 18, 65, 66, 67, 68, 69, 70, 71, 72, 13, 73, 74, 15, 23, 75, 76, 77, 34, 78, 36, 79, 44, 46, 47, 48, 49, 96, 97, 98, 99, 100, 101, 102, 103, 104, 105, 106, 107, 108, 109, 110, 111, 112, 113] (by decide +kernel) (by decide +kernel)
set_option maxRecDepth 20000 in
theorem gX6_put_X4_putBy : GoodIn wsX6_put (wsV RX6 55 RX4 yX4_putBy wsX4_putBy) := goodIn_app (goodIn_of _ (by decide +kernel)) ggX6_put_X4_putBy
set_option maxRecDepth 20000 in
theorem ggX6_put_X6_changed : GoodIn wsX6_put wsX6_changed := goodIn_r _ [83, 1, 84, 85, 86, 6, 87, 8, 9, 88, 89, 90, 91, 92, 93, 94, 95] (by decide +kernel) (by decide +kernel)
set_option maxRecDepth 20000 in
theorem gX6_put_X6_changed : GoodIn wsX6_put (wsV RX6 52 RX6 yX6_changed wsX6_changed) := goodIn_app (goodIn_of _ (by decide +kernel)) ggX6_put_X6_changed
theorem dX6_put_0 : decode cX6_put 0 = .ok (.aload_n 0, 1) := by decide +kernel
theorem dX6_put_1 : decode cX6_put 1 = .ok (.getfield 19, 3) := by decide +kernel
theorem dX6_put_4 : decode cX6_put 4 = .ok (.aload_n 0, 1) := by decide +kernel
theorem dX6_put_5 : decode cX6_put 5 = .ok (.getfield 10, 3) := by decide +kernel
theorem dX6_put_8 : decode cX6_put 8 = .ok (.invokevirtual 44, 3) := by decide +kernel
theorem dX6_put_11 : decode cX6_put 11 = .ok (.aload_n 0, 1) := by decide +kernel
theorem dX6_put_12 : decode cX6_put 12 = .ok (.aload_n 0, 1) := by decide +kernel
theorem dX6_put_13 : decode cX6_put 13 = .ok (.getfield 10, 3) := by decide +kernel
theorem dX6_put_16 : decode cX6_put 16 = .ok (.iload_n 1, 1) := by decide +kernel
theorem dX6_put_17 : decode cX6_put 17 = .ok (.iload_n 2, 1) := by decide +kernel
theorem dX6_put_18 : decode cX6_put 18 = .ok (.iload_n 3, 1) := by decide +kernel
theorem dX6_put_19 : decode cX6_put 19 = .ok (.invokevirtual 55, 3) := by decide +kernel
theorem dX6_put_22 : decode cX6_put 22 = .ok (.invokevirtual 52, 3) := by decide +kernel
theorem dX6_put_25 : decode cX6_put 25 = .ok (.ireturn, 1) := by decide +kernel
set_option maxRecDepth 20000 in
theorem ggX6_commit_X0_prepare : GoodIn wsX6_commit wsX0_prepare := goodIn_r _ [7, 8, 9, 10, 11, 12, 13, 14, 15, 16, 17, 18, 19, 20, 21, 22, 23, 24, 25, 26, 27, 28, 29, 30, 31, 32, 33, 34, 35, 36, 37, 38, 39, 40, 41, 42, 43, 44, 45, 46, 47, 48, 49, 50, 51, 52, 53, 54, 55, 56, 57, 58, 59, 92, 93, 94, 95, 96, 97, 98, 99, 100, 101, 102, 103, 104, 105, 106, 107, 108, 109, 110, 111, 112, 113, 114, 115] (by decide +kernel) (by decide +kernel)
set_option maxRecDepth 20000 in
theorem gX6_commit_X0_prepare : GoodIn wsX6_commit (wsV RX6 44 RX0 yX0_prepare wsX0_prepare) := goodIn_app (goodIn_of _ (by decide +kernel)) ggX6_commit_X0_prepare
set_option maxRecDepth 20000 in
theorem ggX6_commit_X4_endIn : GoodIn wsX6_commit wsX4_endIn := goodIn_r _ [63, 64, 18, 65, 66, 67, 68, 69, 70, 13, 71, 72, 15, 23, 73, 74, 75, 34, 76, 36, 77, 44, 46, 47, 48, 49, 94, 95, 96, 97, 98, 99, 100, 101, 102, 103, 104, 105, 106, 107, 108, 109, 110, 111] (by decide +kernel) (by decide +kernel)
set_option maxRecDepth 20000 in
theorem gX6_commit_X4_endIn : GoodIn wsX6_commit (wsV RX6 59 RX4 yX4_endIn wsX4_endIn) := goodIn_app (goodIn_of _ (by decide +kernel)) ggX6_commit_X4_endIn
set_option maxRecDepth 20000 in
theorem ggX6_commit_X6_changed : GoodIn wsX6_commit wsX6_changed := goodIn_r _ [81, 1, 82, 83, 84, 6, 85, 8, 9, 86, 87, 88, 89, 90, 91, 92, 93] (by decide +kernel) (by decide +kernel)
set_option maxRecDepth 20000 in
theorem gX6_commit_X6_changed : GoodIn wsX6_commit (wsV RX6 52 RX6 yX6_changed wsX6_changed) := goodIn_app (goodIn_of _ (by decide +kernel)) ggX6_commit_X6_changed
theorem dX6_commit_0 : decode cX6_commit 0 = .ok (.aload_n 0, 1) := by decide +kernel
theorem dX6_commit_1 : decode cX6_commit 1 = .ok (.getfield 19, 3) := by decide +kernel
theorem dX6_commit_4 : decode cX6_commit 4 = .ok (.aload_n 0, 1) := by decide +kernel
theorem dX6_commit_5 : decode cX6_commit 5 = .ok (.getfield 10, 3) := by decide +kernel
theorem dX6_commit_8 : decode cX6_commit 8 = .ok (.invokevirtual 44, 3) := by decide +kernel
theorem dX6_commit_11 : decode cX6_commit 11 = .ok (.aload_n 0, 1) := by decide +kernel
theorem dX6_commit_12 : decode cX6_commit 12 = .ok (.aload_n 0, 1) := by decide +kernel
theorem dX6_commit_13 : decode cX6_commit 13 = .ok (.getfield 10, 3) := by decide +kernel
theorem dX6_commit_16 : decode cX6_commit 16 = .ok (.iload_n 1, 1) := by decide +kernel
theorem dX6_commit_17 : decode cX6_commit 17 = .ok (.iconst 1, 1) := by decide +kernel
theorem dX6_commit_18 : decode cX6_commit 18 = .ok (.invokevirtual 59, 3) := by decide +kernel
theorem dX6_commit_21 : decode cX6_commit 21 = .ok (.invokevirtual 52, 3) := by decide +kernel
theorem dX6_commit_24 : decode cX6_commit 24 = .ok (.ireturn, 1) := by decide +kernel
set_option maxRecDepth 20000 in
theorem ggX6_abort_X0_prepare : GoodIn wsX6_abort wsX0_prepare := goodIn_r _ [7, 8, 9, 10, 11, 12, 13, 14, 15, 16, 17, 18, 19, 20, 21, 22, 23, 24, 25, 26, 27, 28, 29, 30, 31, 32, 33, 34, 35, 36, 37, 38, 39, 40, 41, 42, 43, 44, 45, 46, 47, 48, 49, 50, 51, 52, 53, 54, 55, 56, 57, 58, 59, 92, 93, 94, 95, 96, 97, 98, 99, 100, 101, 102, 103, 104, 105, 106, 107, 108, 109, 110, 111, 112, 113, 114, 115] (by decide +kernel) (by decide +kernel)
set_option maxRecDepth 20000 in
theorem gX6_abort_X0_prepare : GoodIn wsX6_abort (wsV RX6 44 RX0 yX0_prepare wsX0_prepare) := goodIn_app (goodIn_of _ (by decide +kernel)) ggX6_abort_X0_prepare
set_option maxRecDepth 20000 in
theorem ggX6_abort_X4_endIn : GoodIn wsX6_abort wsX4_endIn := goodIn_r _ [63, 64, 18, 65, 66, 67, 68, 69, 70, 13, 71, 72, 15, 23, 73, 74, 75, 34, 76, 36, 77, 44, 46, 47, 48, 49, 94, 95, 96, 97, 98, 99, 100, 101, 102, 103, 104, 105, 106, 107, 108, 109, 110, 111] (by decide +kernel) (by decide +kernel)
set_option maxRecDepth 20000 in
theorem gX6_abort_X4_endIn : GoodIn wsX6_abort (wsV RX6 59 RX4 yX4_endIn wsX4_endIn) := goodIn_app (goodIn_of _ (by decide +kernel)) ggX6_abort_X4_endIn
set_option maxRecDepth 20000 in
theorem ggX6_abort_X6_changed : GoodIn wsX6_abort wsX6_changed := goodIn_r _ [81, 1, 82, 83, 84, 6, 85, 8, 9, 86, 87, 88, 89, 90, 91, 92, 93] (by decide +kernel) (by decide +kernel)
set_option maxRecDepth 20000 in
theorem gX6_abort_X6_changed : GoodIn wsX6_abort (wsV RX6 52 RX6 yX6_changed wsX6_changed) := goodIn_app (goodIn_of _ (by decide +kernel)) ggX6_abort_X6_changed
theorem dX6_abort_0 : decode cX6_abort 0 = .ok (.aload_n 0, 1) := by decide +kernel
theorem dX6_abort_1 : decode cX6_abort 1 = .ok (.getfield 19, 3) := by decide +kernel
theorem dX6_abort_4 : decode cX6_abort 4 = .ok (.aload_n 0, 1) := by decide +kernel
theorem dX6_abort_5 : decode cX6_abort 5 = .ok (.getfield 10, 3) := by decide +kernel
theorem dX6_abort_8 : decode cX6_abort 8 = .ok (.invokevirtual 44, 3) := by decide +kernel
theorem dX6_abort_11 : decode cX6_abort 11 = .ok (.aload_n 0, 1) := by decide +kernel
theorem dX6_abort_12 : decode cX6_abort 12 = .ok (.aload_n 0, 1) := by decide +kernel
theorem dX6_abort_13 : decode cX6_abort 13 = .ok (.getfield 10, 3) := by decide +kernel
theorem dX6_abort_16 : decode cX6_abort 16 = .ok (.iload_n 1, 1) := by decide +kernel
theorem dX6_abort_17 : decode cX6_abort 17 = .ok (.iconst 2, 1) := by decide +kernel
theorem dX6_abort_18 : decode cX6_abort 18 = .ok (.invokevirtual 59, 3) := by decide +kernel
theorem dX6_abort_21 : decode cX6_abort 21 = .ok (.invokevirtual 52, 3) := by decide +kernel
theorem dX6_abort_24 : decode cX6_abort 24 = .ok (.ireturn, 1) := by decide +kernel
set_option maxRecDepth 20000 in
theorem ggX6_ship_X0_prepare : GoodIn wsX6_ship wsX0_prepare := goodIn_r _ [7, 8, 9, 10, 11, 12, 13, 14, 15, 16, 17, 18, 19, 20, 21, 22, 23, 24, 25, 26, 27, 28, 29, 30, 31, 32, 33, 34, 35, 36, 37, 38, 39, 40, 41, 42, 43, 44, 45, 46, 47, 48, 49, 50, 51, 52, 53, 54, 55, 56, 57, 58, 59, 91, 92, 93, 94, 95, 96, 97, 98, 99, 100, 101, 102, 103, 104, 105, 106, 107, 108, 109, 110, 111, 112, 113, 114] (by decide +kernel) (by decide +kernel)
set_option maxRecDepth 20000 in
theorem gX6_ship_X0_prepare : GoodIn wsX6_ship (wsV RX6 44 RX0 yX0_prepare wsX0_prepare) := goodIn_app (goodIn_of _ (by decide +kernel)) ggX6_ship_X0_prepare
set_option maxRecDepth 20000 in
theorem ggX6_ship_X4_shipTo : GoodIn wsX6_ship wsX4_shipTo := goodIn_r _ [63, 64, 65, 66, 15, 67, 68, 69, 38, 39, 40, 70, 71, 72, 73, 74, 75, 13, 76, 16, 17, 111, 112, 113, 114, 93, 94, 95, 96, 97, 98, 99, 100, 101, 102, 103, 104, 105, 106, 107, 108, 109, 110] (by decide +kernel) (by decide +kernel)
set_option maxRecDepth 20000 in
theorem gX6_ship_X4_shipTo : GoodIn wsX6_ship (wsV RX6 63 RX4 yX4_shipTo wsX4_shipTo) := goodIn_app (goodIn_of _ (by decide +kernel)) ggX6_ship_X4_shipTo
set_option maxRecDepth 20000 in
theorem ggX6_ship_X6_changed : GoodIn wsX6_ship wsX6_changed := goodIn_r _ [80, 1, 81, 82, 83, 6, 84, 8, 9, 85, 86, 87, 88, 89, 90, 91, 92] (by decide +kernel) (by decide +kernel)
set_option maxRecDepth 20000 in
theorem gX6_ship_X6_changed : GoodIn wsX6_ship (wsV RX6 52 RX6 yX6_changed wsX6_changed) := goodIn_app (goodIn_of _ (by decide +kernel)) ggX6_ship_X6_changed
theorem dX6_ship_0 : decode cX6_ship 0 = .ok (.aload_n 0, 1) := by decide +kernel
theorem dX6_ship_1 : decode cX6_ship 1 = .ok (.getfield 19, 3) := by decide +kernel
theorem dX6_ship_4 : decode cX6_ship 4 = .ok (.aload_n 0, 1) := by decide +kernel
theorem dX6_ship_5 : decode cX6_ship 5 = .ok (.getfield 10, 3) := by decide +kernel
theorem dX6_ship_8 : decode cX6_ship 8 = .ok (.invokevirtual 44, 3) := by decide +kernel
theorem dX6_ship_11 : decode cX6_ship 11 = .ok (.aload_n 0, 1) := by decide +kernel
theorem dX6_ship_12 : decode cX6_ship 12 = .ok (.aload_n 0, 1) := by decide +kernel
theorem dX6_ship_13 : decode cX6_ship 13 = .ok (.getfield 10, 3) := by decide +kernel
theorem dX6_ship_16 : decode cX6_ship 16 = .ok (.iload_n 1, 1) := by decide +kernel
theorem dX6_ship_17 : decode cX6_ship 17 = .ok (.iload_n 2, 1) := by decide +kernel
theorem dX6_ship_18 : decode cX6_ship 18 = .ok (.invokevirtual 63, 3) := by decide +kernel
theorem dX6_ship_21 : decode cX6_ship 21 = .ok (.invokevirtual 52, 3) := by decide +kernel
theorem dX6_ship_24 : decode cX6_ship 24 = .ok (.ireturn, 1) := by decide +kernel
set_option maxRecDepth 20000 in
theorem ggX6_lose_X0_prepare : GoodIn wsX6_lose wsX0_prepare := goodIn_r _ [7, 8, 9, 10, 11, 12, 13, 14, 15, 16, 17, 18, 19, 20, 21, 22, 23, 24, 25, 26, 27, 28, 29, 30, 31, 32, 33, 34, 35, 36, 37, 38, 39, 40, 41, 42, 43, 44, 45, 46, 47, 48, 49, 50, 51, 52, 53, 54, 55, 56, 57, 58, 59, 102, 103, 104, 105, 106, 107, 108, 109, 110, 111, 112, 113, 114, 115, 116, 117, 118, 119, 120, 121, 122, 123, 124, 125] (by decide +kernel) (by decide +kernel)
set_option maxRecDepth 20000 in
theorem gX6_lose_X0_prepare : GoodIn wsX6_lose (wsV RX6 44 RX0 yX0_prepare wsX0_prepare) := goodIn_app (goodIn_of _ (by decide +kernel)) ggX6_lose_X0_prepare
set_option maxRecDepth 20000 in
theorem ggX6_lose_X4_loseFor : GoodIn wsX6_lose wsX4_loseFor := goodIn_r _ [63, 64, 65, 66, 67, 68, 27, 69, 70, 71, 72, 73, 74, 13, 75, 16, 17, 76, 77, 78, 53, 79, 58, 80, 81, 82, 83, 84, 85, 86, 87, 122, 123, 124, 125, 104, 105, 106, 107, 108, 109, 110, 111, 112, 113, 114, 115] (by decide +kernel) (by decide +kernel)
set_option maxRecDepth 20000 in
theorem gX6_lose_X4_loseFor : GoodIn wsX6_lose (wsV RX6 66 RX4 yX4_loseFor wsX4_loseFor) := goodIn_app (goodIn_of _ (by decide +kernel)) ggX6_lose_X4_loseFor
set_option maxRecDepth 20000 in
theorem ggX6_lose_X6_changed : GoodIn wsX6_lose wsX6_changed := goodIn_r _ [91, 1, 92, 93, 94, 6, 95, 8, 9, 96, 97, 98, 99, 100, 101, 102, 103] (by decide +kernel) (by decide +kernel)
set_option maxRecDepth 20000 in
theorem gX6_lose_X6_changed : GoodIn wsX6_lose (wsV RX6 52 RX6 yX6_changed wsX6_changed) := goodIn_app (goodIn_of _ (by decide +kernel)) ggX6_lose_X6_changed
theorem dX6_lose_0 : decode cX6_lose 0 = .ok (.aload_n 0, 1) := by decide +kernel
theorem dX6_lose_1 : decode cX6_lose 1 = .ok (.getfield 19, 3) := by decide +kernel
theorem dX6_lose_4 : decode cX6_lose 4 = .ok (.aload_n 0, 1) := by decide +kernel
theorem dX6_lose_5 : decode cX6_lose 5 = .ok (.getfield 10, 3) := by decide +kernel
theorem dX6_lose_8 : decode cX6_lose 8 = .ok (.invokevirtual 44, 3) := by decide +kernel
theorem dX6_lose_11 : decode cX6_lose 11 = .ok (.aload_n 0, 1) := by decide +kernel
theorem dX6_lose_12 : decode cX6_lose 12 = .ok (.aload_n 0, 1) := by decide +kernel
theorem dX6_lose_13 : decode cX6_lose 13 = .ok (.getfield 10, 3) := by decide +kernel
theorem dX6_lose_16 : decode cX6_lose 16 = .ok (.iload_n 1, 1) := by decide +kernel
theorem dX6_lose_17 : decode cX6_lose 17 = .ok (.iload_n 2, 1) := by decide +kernel
theorem dX6_lose_18 : decode cX6_lose 18 = .ok (.invokevirtual 66, 3) := by decide +kernel
theorem dX6_lose_21 : decode cX6_lose 21 = .ok (.invokevirtual 52, 3) := by decide +kernel
theorem dX6_lose_24 : decode cX6_lose 24 = .ok (.ireturn, 1) := by decide +kernel
set_option maxRecDepth 20000 in
theorem ggX6_resend_X0_prepare : GoodIn wsX6_resend wsX0_prepare := goodIn_r _ [7, 8, 9, 10, 11, 12, 13, 14, 15, 16, 17, 18, 19, 20, 21, 22, 23, 24, 25, 26, 27, 28, 29, 30, 31, 32, 33, 34, 35, 36, 37, 38, 39, 40, 41, 42, 43, 44, 45, 46, 47, 48, 49, 50, 51, 52, 53, 54, 55, 56, 57, 58, 59, 97, 98, 99, 100, 101, 102, 103, 104, 105, 106, 107, 108, 109, 110, 111, 112, 113, 114, 115, 116, 117, 118, 119, 120] (by decide +kernel) (by decide +kernel)
set_option maxRecDepth 20000 in
theorem gX6_resend_X0_prepare : GoodIn wsX6_resend (wsV RX6 44 RX0 yX0_prepare wsX0_prepare) := goodIn_app (goodIn_of _ (by decide +kernel)) ggX6_resend_X0_prepare
set_option maxRecDepth 20000 in
theorem ggX6_resend_X4_resendTo : GoodIn wsX6_resend wsX4_resendTo := goodIn_r _ [63, 64, 65, 66, 67, 68, 69, 70, 71, 72, 13, 73, 16, 17, 74, 75, 76, 53, 77, 58, 78, 79, 80, 81, 82, 42, 39, 43, 117, 118, 119, 120, 99, 100, 101, 102, 103, 104, 105, 106, 107, 108, 109, 110] (by decide +kernel) (by decide +kernel)
set_option maxRecDepth 20000 in
theorem gX6_resend_X4_resendTo : GoodIn wsX6_resend (wsV RX6 69 RX4 yX4_resendTo wsX4_resendTo) := goodIn_app (goodIn_of _ (by decide +kernel)) ggX6_resend_X4_resendTo
set_option maxRecDepth 20000 in
theorem ggX6_resend_X6_changed : GoodIn wsX6_resend wsX6_changed := goodIn_r _ [86, 1, 87, 88, 89, 6, 90, 8, 9, 91, 92, 93, 94, 95, 96, 97, 98] (by decide +kernel) (by decide +kernel)
set_option maxRecDepth 20000 in
theorem gX6_resend_X6_changed : GoodIn wsX6_resend (wsV RX6 52 RX6 yX6_changed wsX6_changed) := goodIn_app (goodIn_of _ (by decide +kernel)) ggX6_resend_X6_changed
theorem dX6_resend_0 : decode cX6_resend 0 = .ok (.aload_n 0, 1) := by decide +kernel
theorem dX6_resend_1 : decode cX6_resend 1 = .ok (.getfield 19, 3) := by decide +kernel
theorem dX6_resend_4 : decode cX6_resend 4 = .ok (.aload_n 0, 1) := by decide +kernel
theorem dX6_resend_5 : decode cX6_resend 5 = .ok (.getfield 10, 3) := by decide +kernel
theorem dX6_resend_8 : decode cX6_resend 8 = .ok (.invokevirtual 44, 3) := by decide +kernel
theorem dX6_resend_11 : decode cX6_resend 11 = .ok (.aload_n 0, 1) := by decide +kernel
theorem dX6_resend_12 : decode cX6_resend 12 = .ok (.aload_n 0, 1) := by decide +kernel
theorem dX6_resend_13 : decode cX6_resend 13 = .ok (.getfield 10, 3) := by decide +kernel
theorem dX6_resend_16 : decode cX6_resend 16 = .ok (.iload_n 1, 1) := by decide +kernel
theorem dX6_resend_17 : decode cX6_resend 17 = .ok (.invokevirtual 69, 3) := by decide +kernel
theorem dX6_resend_20 : decode cX6_resend 20 = .ok (.invokevirtual 52, 3) := by decide +kernel
theorem dX6_resend_23 : decode cX6_resend 23 = .ok (.ireturn, 1) := by decide +kernel
set_option maxRecDepth 20000 in
theorem ggX6_tick_X0_prepare : GoodIn wsX6_tick wsX0_prepare := goodIn_r _ [7, 8, 9, 10, 11, 12, 13, 14, 15, 16, 17, 18, 19, 20, 21, 22, 23, 24, 25, 26, 27, 28, 29, 30, 31, 32, 33, 34, 35, 36, 37, 38, 39, 40, 41, 42, 43, 44, 45, 46, 47, 48, 49, 50, 51, 52, 53, 54, 55, 56, 57, 58, 59, 106, 107, 108, 109, 110, 111, 112, 113, 114, 115, 116, 117, 118, 119, 120, 121, 122, 123, 124, 125, 126, 127, 128, 129] (by decide +kernel) (by decide +kernel)
set_option maxRecDepth 20000 in
theorem gX6_tick_X0_prepare : GoodIn wsX6_tick (wsV RX6 44 RX0 yX0_prepare wsX0_prepare) := goodIn_app (goodIn_of _ (by decide +kernel)) ggX6_tick_X0_prepare
set_option maxRecDepth 20000 in
theorem ggX6_tick_X4_pass : GoodIn wsX6_tick wsX4_pass := goodIn_r _ [63, 64, 23, 65, 29, 28, 66, 67, 68, 69, 70, 71, 13, 72, 16, 17, 73, 74, 75, 76, 77, 78, 15, 30, 79, 80, 81, 53, 82, 58, 83, 84, 85, 34, 86, 49, 87, 88, 89, 90, 91, 36, 108, 109, 110, 111, 112, 113, 114, 115, 116, 117, 118, 119, 126, 127, 128, 129, 120, 121, 122, 123, 124, 125] (by decide +kernel) (by decide +kernel)
set_option maxRecDepth 20000 in
theorem gX6_tick_X4_pass : GoodIn wsX6_tick (wsV RX6 72 RX4 yX4_pass wsX4_pass) := goodIn_app (goodIn_of _ (by decide +kernel)) ggX6_tick_X4_pass
set_option maxRecDepth 20000 in
theorem ggX6_tick_X6_changed : GoodIn wsX6_tick wsX6_changed := goodIn_r _ [95, 1, 96, 97, 98, 6, 99, 8, 9, 100, 101, 102, 103, 104, 105, 106, 107] (by decide +kernel) (by decide +kernel)
set_option maxRecDepth 20000 in
theorem gX6_tick_X6_changed : GoodIn wsX6_tick (wsV RX6 52 RX6 yX6_changed wsX6_changed) := goodIn_app (goodIn_of _ (by decide +kernel)) ggX6_tick_X6_changed
theorem dX6_tick_0 : decode cX6_tick 0 = .ok (.aload_n 0, 1) := by decide +kernel
theorem dX6_tick_1 : decode cX6_tick 1 = .ok (.getfield 19, 3) := by decide +kernel
theorem dX6_tick_4 : decode cX6_tick 4 = .ok (.aload_n 0, 1) := by decide +kernel
theorem dX6_tick_5 : decode cX6_tick 5 = .ok (.getfield 10, 3) := by decide +kernel
theorem dX6_tick_8 : decode cX6_tick 8 = .ok (.invokevirtual 44, 3) := by decide +kernel
theorem dX6_tick_11 : decode cX6_tick 11 = .ok (.aload_n 0, 1) := by decide +kernel
theorem dX6_tick_12 : decode cX6_tick 12 = .ok (.aload_n 0, 1) := by decide +kernel
theorem dX6_tick_13 : decode cX6_tick 13 = .ok (.getfield 10, 3) := by decide +kernel
theorem dX6_tick_16 : decode cX6_tick 16 = .ok (.iload_n 1, 1) := by decide +kernel
theorem dX6_tick_17 : decode cX6_tick 17 = .ok (.invokevirtual 72, 3) := by decide +kernel
theorem dX6_tick_20 : decode cX6_tick 20 = .ok (.invokevirtual 52, 3) := by decide +kernel
theorem dX6_tick_23 : decode cX6_tick 23 = .ok (.ireturn, 1) := by decide +kernel
set_option maxRecDepth 20000 in
theorem ggX6_promote_X0_prepare : GoodIn wsX6_promote wsX0_prepare := goodIn_r _ [7, 8, 9, 10, 11, 12, 13, 14, 15, 16, 17, 18, 19, 20, 21, 22, 23, 24, 25, 26, 27, 28, 29, 30, 31, 32, 33, 34, 35, 36, 37, 38, 39, 40, 41, 42, 43, 44, 45, 46, 47, 48, 49, 50, 51, 52, 53, 54, 55, 56, 57, 58, 59, 117, 118, 119, 120, 121, 122, 123, 124, 125, 126, 127, 128, 129, 130, 131, 132, 133, 134, 135, 136, 137, 138, 139, 140] (by decide +kernel) (by decide +kernel)
set_option maxRecDepth 20000 in
theorem gX6_promote_X0_prepare : GoodIn wsX6_promote (wsV RX6 44 RX0 yX0_prepare wsX0_prepare) := goodIn_app (goodIn_of _ (by decide +kernel)) ggX6_promote_X0_prepare
set_option maxRecDepth 20000 in
theorem ggX6_promote_X4_promoteTo : GoodIn wsX6_promote wsX4_promoteTo := goodIn_r _ [63, 64, 65, 66, 67, 15, 68, 18, 24, 26, 69, 70, 71, 72, 73, 74, 13, 75, 16, 17, 76, 77, 78, 34, 79, 36, 80, 81, 82, 83, 44, 84, 85, 86, 87, 88, 89, 90, 91, 53, 92, 55, 56, 57, 93, 94, 95, 96, 97, 42, 39, 43, 58, 98, 99, 100, 101, 102, 38, 40, 137, 138, 139, 140, 119, 120, 121, 122, 123, 124, 125, 126, 127, 128, 129, 130, 131, 132, 133, 134, 135, 136] (by decide +kernel) (by decide +kernel)
set_option maxRecDepth 20000 in
theorem gX6_promote_X4_promoteTo : GoodIn wsX6_promote (wsV RX6 75 RX4 yX4_promoteTo wsX4_promoteTo) := goodIn_app (goodIn_of _ (by decide +kernel)) ggX6_promote_X4_promoteTo
set_option maxRecDepth 20000 in
theorem ggX6_promote_X6_changed : GoodIn wsX6_promote wsX6_changed := goodIn_r _ [106, 1, 107, 108, 109, 6, 110, 8, 9, 111, 112, 113, 114, 115, 116, 117, 118] (by decide +kernel) (by decide +kernel)
set_option maxRecDepth 20000 in
theorem gX6_promote_X6_changed : GoodIn wsX6_promote (wsV RX6 52 RX6 yX6_changed wsX6_changed) := goodIn_app (goodIn_of _ (by decide +kernel)) ggX6_promote_X6_changed
theorem dX6_promote_0 : decode cX6_promote 0 = .ok (.aload_n 0, 1) := by decide +kernel
theorem dX6_promote_1 : decode cX6_promote 1 = .ok (.getfield 19, 3) := by decide +kernel
theorem dX6_promote_4 : decode cX6_promote 4 = .ok (.aload_n 0, 1) := by decide +kernel
theorem dX6_promote_5 : decode cX6_promote 5 = .ok (.getfield 10, 3) := by decide +kernel
theorem dX6_promote_8 : decode cX6_promote 8 = .ok (.invokevirtual 44, 3) := by decide +kernel
theorem dX6_promote_11 : decode cX6_promote 11 = .ok (.aload_n 0, 1) := by decide +kernel
theorem dX6_promote_12 : decode cX6_promote 12 = .ok (.aload_n 0, 1) := by decide +kernel
theorem dX6_promote_13 : decode cX6_promote 13 = .ok (.getfield 10, 3) := by decide +kernel
theorem dX6_promote_16 : decode cX6_promote 16 = .ok (.iload_n 1, 1) := by decide +kernel
theorem dX6_promote_17 : decode cX6_promote 17 = .ok (.invokevirtual 75, 3) := by decide +kernel
theorem dX6_promote_20 : decode cX6_promote 20 = .ok (.invokevirtual 52, 3) := by decide +kernel
theorem dX6_promote_23 : decode cX6_promote 23 = .ok (.ireturn, 1) := by decide +kernel
set_option maxRecDepth 20000 in
theorem ggX6_rebuild_X0_prepare : GoodIn wsX6_rebuild wsX0_prepare := goodIn_r _ [7, 8, 9, 10, 11, 12, 13, 14, 15, 16, 17, 18, 19, 20, 21, 22, 23, 24, 25, 26, 27, 28, 29, 30, 31, 32, 33, 34, 35, 36, 37, 38, 39, 40, 41, 42, 43, 44, 45, 46, 47, 48, 49, 50, 51, 52, 53, 54, 55, 56, 57, 58, 59, 96, 97, 98, 99, 100, 101, 102, 103, 104, 105, 106, 107, 108, 109, 110, 111, 112, 113, 114, 115, 116, 117, 118, 119] (by decide +kernel) (by decide +kernel)
set_option maxRecDepth 20000 in
theorem gX6_rebuild_X0_prepare : GoodIn wsX6_rebuild (wsV RX6 44 RX0 yX0_prepare wsX0_prepare) := goodIn_app (goodIn_of _ (by decide +kernel)) ggX6_rebuild_X0_prepare
set_option maxRecDepth 20000 in
theorem ggX6_rebuild_X4_rebuildOf : GoodIn wsX6_rebuild wsX4_rebuildOf := goodIn_r _ [63, 64, 15, 65, 66, 67, 68, 69, 70, 71, 13, 72, 16, 17, 73, 74, 75, 53, 76, 55, 56, 57, 77, 78, 79, 80, 81, 42, 39, 43, 58, 98, 99, 100, 101, 102, 103, 104, 105, 106, 107, 108, 109, 110, 111, 112, 113, 114, 115, 116, 117, 118, 119] (by decide +kernel) (by decide +kernel)
set_option maxRecDepth 20000 in
theorem gX6_rebuild_X4_rebuildOf : GoodIn wsX6_rebuild (wsV RX6 78 RX4 yX4_rebuildOf wsX4_rebuildOf) := goodIn_app (goodIn_of _ (by decide +kernel)) ggX6_rebuild_X4_rebuildOf
set_option maxRecDepth 20000 in
theorem ggX6_rebuild_X6_changed : GoodIn wsX6_rebuild wsX6_changed := goodIn_r _ [85, 1, 86, 87, 88, 6, 89, 8, 9, 90, 91, 92, 93, 94, 95, 96, 97] (by decide +kernel) (by decide +kernel)
set_option maxRecDepth 20000 in
theorem gX6_rebuild_X6_changed : GoodIn wsX6_rebuild (wsV RX6 52 RX6 yX6_changed wsX6_changed) := goodIn_app (goodIn_of _ (by decide +kernel)) ggX6_rebuild_X6_changed
theorem dX6_rebuild_0 : decode cX6_rebuild 0 = .ok (.aload_n 0, 1) := by decide +kernel
theorem dX6_rebuild_1 : decode cX6_rebuild 1 = .ok (.getfield 19, 3) := by decide +kernel
theorem dX6_rebuild_4 : decode cX6_rebuild 4 = .ok (.aload_n 0, 1) := by decide +kernel
theorem dX6_rebuild_5 : decode cX6_rebuild 5 = .ok (.getfield 10, 3) := by decide +kernel
theorem dX6_rebuild_8 : decode cX6_rebuild 8 = .ok (.invokevirtual 44, 3) := by decide +kernel
theorem dX6_rebuild_11 : decode cX6_rebuild 11 = .ok (.aload_n 0, 1) := by decide +kernel
theorem dX6_rebuild_12 : decode cX6_rebuild 12 = .ok (.aload_n 0, 1) := by decide +kernel
theorem dX6_rebuild_13 : decode cX6_rebuild 13 = .ok (.getfield 10, 3) := by decide +kernel
theorem dX6_rebuild_16 : decode cX6_rebuild 16 = .ok (.iload_n 1, 1) := by decide +kernel
theorem dX6_rebuild_17 : decode cX6_rebuild 17 = .ok (.invokevirtual 78, 3) := by decide +kernel
theorem dX6_rebuild_20 : decode cX6_rebuild 20 = .ok (.invokevirtual 52, 3) := by decide +kernel
theorem dX6_rebuild_23 : decode cX6_rebuild 23 = .ok (.ireturn, 1) := by decide +kernel
set_option maxRecDepth 20000 in
theorem ggX6_set_X0_prepare : GoodIn wsX6_set wsX0_prepare := goodIn_r _ [7, 8, 9, 10, 11, 12, 13, 14, 15, 16, 17, 18, 19, 20, 21, 22, 23, 24, 25, 26, 27, 28, 29, 30, 31, 32, 33, 34, 35, 36, 37, 38, 39, 40, 41, 42, 43, 44, 45, 46, 47, 48, 49, 50, 51, 52, 53, 54, 55, 56, 57, 58, 59, 80, 81, 82, 83, 84, 85, 86, 87, 88, 89, 90, 91, 92, 93, 94, 95, 96, 97, 98, 99, 100, 101, 102, 103] (by decide +kernel) (by decide +kernel)
set_option maxRecDepth 20000 in
theorem gX6_set_X0_prepare : GoodIn wsX6_set (wsV RX6 44 RX0 yX0_prepare wsX0_prepare) := goodIn_app (goodIn_of _ (by decide +kernel)) ggX6_set_X0_prepare
set_option maxRecDepth 20000 in
theorem ggX6_set_X4_setTo : GoodIn wsX6_set wsX4_setTo := goodIn_r _ [63, 29, 30, 64, 82, 83, 84, 85, 86, 87, 88, 89, 90, 91, 92, 93] (by decide +kernel) (by decide +kernel)
set_option maxRecDepth 20000 in
theorem gX6_set_X4_setTo : GoodIn wsX6_set (wsV RX6 81 RX4 yX4_setTo wsX4_setTo) := goodIn_app (goodIn_of _ (by decide +kernel)) ggX6_set_X4_setTo
set_option maxRecDepth 20000 in
theorem ggX6_set_X6_changed : GoodIn wsX6_set wsX6_changed := goodIn_r _ [69, 1, 70, 71, 72, 6, 73, 8, 9, 74, 75, 76, 77, 78, 79, 80, 81] (by decide +kernel) (by decide +kernel)
set_option maxRecDepth 20000 in
theorem gX6_set_X6_changed : GoodIn wsX6_set (wsV RX6 52 RX6 yX6_changed wsX6_changed) := goodIn_app (goodIn_of _ (by decide +kernel)) ggX6_set_X6_changed
theorem dX6_set_0 : decode cX6_set 0 = .ok (.aload_n 0, 1) := by decide +kernel
theorem dX6_set_1 : decode cX6_set 1 = .ok (.getfield 19, 3) := by decide +kernel
theorem dX6_set_4 : decode cX6_set 4 = .ok (.aload_n 0, 1) := by decide +kernel
theorem dX6_set_5 : decode cX6_set 5 = .ok (.getfield 10, 3) := by decide +kernel
theorem dX6_set_8 : decode cX6_set 8 = .ok (.invokevirtual 44, 3) := by decide +kernel
theorem dX6_set_11 : decode cX6_set 11 = .ok (.aload_n 0, 1) := by decide +kernel
theorem dX6_set_12 : decode cX6_set 12 = .ok (.aload_n 0, 1) := by decide +kernel
theorem dX6_set_13 : decode cX6_set 13 = .ok (.getfield 10, 3) := by decide +kernel
theorem dX6_set_16 : decode cX6_set 16 = .ok (.iload_n 1, 1) := by decide +kernel
theorem dX6_set_17 : decode cX6_set 17 = .ok (.iload_n 2, 1) := by decide +kernel
theorem dX6_set_18 : decode cX6_set 18 = .ok (.invokevirtual 81, 3) := by decide +kernel
theorem dX6_set_21 : decode cX6_set 21 = .ok (.invokevirtual 52, 3) := by decide +kernel
theorem dX6_set_24 : decode cX6_set 24 = .ok (.ireturn, 1) := by decide +kernel
set_option maxRecDepth 20000 in
theorem ggX6_read_X6_isStandby : GoodIn wsX6_read wsX6_isStandby := goodIn_r _ [9] (by decide +kernel) (by decide +kernel)
set_option maxRecDepth 20000 in
theorem gX6_read_X6_isStandby : GoodIn wsX6_read (va_wsS RX6 84 yX6_isStandby wsX6_isStandby) := goodIn_app (goodIn_of _ (by decide +kernel)) ggX6_read_X6_isStandby
set_option maxRecDepth 20000 in
theorem ggX6_read_X6_isKey : GoodIn wsX6_read wsX6_isKey := goodIn_r _ [12] (by decide +kernel) (by decide +kernel)
set_option maxRecDepth 20000 in
theorem gX6_read_X6_isKey : GoodIn wsX6_read (va_wsS RX6 88 yX6_isKey wsX6_isKey) := goodIn_app (goodIn_of _ (by decide +kernel)) ggX6_read_X6_isKey
set_option maxRecDepth 20000 in
theorem ggX6_read_X4_isPosition : GoodIn wsX6_read wsX4_isPosition := goodIn_r _ [17, 18, 19, 82, 83, 84, 85, 86, 87, 88, 89, 90, 91, 92, 93, 98, 99, 100, 101, 102, 103] (by decide +kernel) (by decide +kernel)
set_option maxRecDepth 20000 in
theorem gX6_read_X4_isPosition : GoodIn wsX6_read (wsV RX6 91 RX4 yX4_isPosition wsX4_isPosition) := goodIn_app (goodIn_of _ (by decide +kernel)) ggX6_read_X4_isPosition
set_option maxRecDepth 20000 in
theorem ggX6_read_X4_standby : GoodIn wsX6_read wsX4_standby := goodIn_r _ [23, 24, 25, 82, 83, 84, 85, 86, 87, 88, 89, 90, 91, 92, 93] (by decide +kernel) (by decide +kernel)
set_option maxRecDepth 20000 in
theorem gX6_read_X4_standby : GoodIn wsX6_read (wsV RX6 95 RX4 yX4_standby wsX4_standby) := goodIn_app (goodIn_of _ (by decide +kernel)) ggX6_read_X4_standby
set_option maxRecDepth 20000 in
theorem ggX6_read_X3_canServe : GoodIn wsX6_read wsX3_canServe := goodIn_r _ [30, 31, 32, 94, 95, 96, 97] (by decide +kernel) (by decide +kernel)
set_option maxRecDepth 20000 in
theorem gX6_read_X3_canServe : GoodIn wsX6_read (wsV RX6 99 RX3 yX3_canServe wsX3_canServe) := goodIn_app (goodIn_of _ (by decide +kernel)) ggX6_read_X3_canServe
set_option maxRecDepth 20000 in
theorem ggX6_read_X1_valueAt : GoodIn wsX6_read wsX1_valueAt := goodIn_r _ [37, 38, 39, 40, 36, 41, 42, 43, 44, 45, 46, 47, 48, 49, 50, 51, 52, 53, 54, 55, 56, 57, 58, 59, 60, 61, 62, 63, 64, 65, 66, 67, 68, 69, 70, 71, 72, 73, 74, 75, 98, 99, 100, 101, 102, 103] (by decide +kernel) (by decide +kernel)
set_option maxRecDepth 20000 in
theorem gX6_read_X1_valueAt : GoodIn wsX6_read (wsV RX6 113 RX1 yX1_valueAt wsX1_valueAt) := goodIn_app (goodIn_of _ (by decide +kernel)) ggX6_read_X1_valueAt
theorem dX6_read_0 : decode cX6_read 0 = .ok (.iload_n 1, 1) := by decide +kernel
theorem dX6_read_1 : decode cX6_read 1 = .ok (.invokestatic 84, 3) := by decide +kernel
theorem dX6_read_4 : decode cX6_read 4 = .ok (.ifCond .eq 21, 3) := by decide +kernel
theorem dX6_read_7 : decode cX6_read 7 = .ok (.iload_n 2, 1) := by decide +kernel
theorem dX6_read_8 : decode cX6_read 8 = .ok (.invokestatic 88, 3) := by decide +kernel
theorem dX6_read_11 : decode cX6_read 11 = .ok (.ifCond .eq 14, 3) := by decide +kernel
theorem dX6_read_14 : decode cX6_read 14 = .ok (.aload_n 0, 1) := by decide +kernel
theorem dX6_read_15 : decode cX6_read 15 = .ok (.getfield 10, 3) := by decide +kernel
theorem dX6_read_18 : decode cX6_read 18 = .ok (.iload_n 3, 1) := by decide +kernel
theorem dX6_read_19 : decode cX6_read 19 = .ok (.invokevirtual 91, 3) := by decide +kernel
theorem dX6_read_22 : decode cX6_read 22 = .ok (.ifCond .ne 6, 3) := by decide +kernel
theorem dX6_read_25 : decode cX6_read 25 = .ok (.ldc 94, 2) := by decide +kernel
theorem dX6_read_27 : decode cX6_read 27 = .ok (.ireturn, 1) := by decide +kernel
theorem dX6_read_28 : decode cX6_read 28 = .ok (.aload_n 0, 1) := by decide +kernel
theorem dX6_read_29 : decode cX6_read 29 = .ok (.getfield 10, 3) := by decide +kernel
theorem dX6_read_32 : decode cX6_read 32 = .ok (.iload_n 1, 1) := by decide +kernel
theorem dX6_read_33 : decode cX6_read 33 = .ok (.invokevirtual 95, 3) := by decide +kernel
theorem dX6_read_36 : decode cX6_read 36 = .ok (.astore 4, 2) := by decide +kernel
theorem dX6_read_38 : decode cX6_read 38 = .ok (.aload 4, 2) := by decide +kernel
theorem dX6_read_40 : decode cX6_read 40 = .ok (.iload_n 3, 1) := by decide +kernel
theorem dX6_read_41 : decode cX6_read 41 = .ok (.invokevirtual 99, 3) := by decide +kernel
theorem dX6_read_44 : decode cX6_read 44 = .ok (.ifCond .ne 6, 3) := by decide +kernel
theorem dX6_read_47 : decode cX6_read 47 = .ok (.ldc 104, 2) := by decide +kernel
theorem dX6_read_49 : decode cX6_read 49 = .ok (.ireturn, 1) := by decide +kernel
theorem dX6_read_50 : decode cX6_read 50 = .ok (.aload_n 0, 1) := by decide +kernel
theorem dX6_read_51 : decode cX6_read 51 = .ok (.getfield 10, 3) := by decide +kernel
theorem dX6_read_54 : decode cX6_read 54 = .ok (.getfield 105, 3) := by decide +kernel
theorem dX6_read_57 : decode cX6_read 57 = .ok (.iload_n 2, 1) := by decide +kernel
theorem dX6_read_58 : decode cX6_read 58 = .ok (.aload 4, 2) := by decide +kernel
theorem dX6_read_60 : decode cX6_read 60 = .ok (.getfield 109, 3) := by decide +kernel
theorem dX6_read_63 : decode cX6_read 63 = .ok (.invokevirtual 113, 3) := by decide +kernel
theorem dX6_read_66 : decode cX6_read 66 = .ok (.ireturn, 1) := by decide +kernel
set_option maxRecDepth 20000 in
theorem ggX6_primary_X6_isSlot : GoodIn wsX6_primary wsX6_isSlot := goodIn_r _ [9] (by decide +kernel) (by decide +kernel)
set_option maxRecDepth 20000 in
theorem gX6_primary_X6_isSlot : GoodIn wsX6_primary (va_wsS RX6 118 yX6_isSlot wsX6_isSlot) := goodIn_app (goodIn_of _ (by decide +kernel)) ggX6_primary_X6_isSlot
set_option maxRecDepth 20000 in
theorem ggX6_primary_X6_isKey : GoodIn wsX6_primary wsX6_isKey := goodIn_r _ [12] (by decide +kernel) (by decide +kernel)
set_option maxRecDepth 20000 in
theorem gX6_primary_X6_isKey : GoodIn wsX6_primary (va_wsS RX6 88 yX6_isKey wsX6_isKey) := goodIn_app (goodIn_of _ (by decide +kernel)) ggX6_primary_X6_isKey
set_option maxRecDepth 20000 in
theorem ggX6_primary_X1_valueAt : GoodIn wsX6_primary wsX1_valueAt := goodIn_r _ [17, 18, 19, 20, 16, 21, 22, 23, 24, 25, 26, 27, 28, 29, 30, 31, 32, 33, 34, 35, 36, 37, 38, 39, 40, 41, 42, 43, 44, 45, 46, 47, 48, 49, 50, 51, 52, 53, 54, 55, 82, 83, 84, 85, 86, 87] (by decide +kernel) (by decide +kernel)
set_option maxRecDepth 20000 in
theorem gX6_primary_X1_valueAt : GoodIn wsX6_primary (wsV RX6 113 RX1 yX1_valueAt wsX1_valueAt) := goodIn_app (goodIn_of _ (by decide +kernel)) ggX6_primary_X1_valueAt
set_option maxRecDepth 20000 in
theorem ggX6_primary_X4_transactionIn : GoodIn wsX6_primary wsX4_transactionIn := goodIn_r _ [60, 61, 7, 8, 9, 70, 71, 72, 73, 74, 75, 76, 77, 78, 79, 80, 81] (by decide +kernel) (by decide +kernel)
set_option maxRecDepth 20000 in
theorem gX6_primary_X4_transactionIn : GoodIn wsX6_primary (wsV RX6 124 RX4 yX4_transactionIn wsX4_transactionIn) := goodIn_app (goodIn_of _ (by decide +kernel)) ggX6_primary_X4_transactionIn
set_option maxRecDepth 20000 in
theorem ggX6_primary_X1_lastPut : GoodIn wsX6_primary wsX1_lastPut := goodIn_r _ [41, 42, 43, 44, 16, 45, 33, 34, 35, 36, 37, 27, 28, 29, 30, 31, 32, 22, 23, 24, 25, 26, 46, 47, 48, 49, 50, 82, 83, 84, 85, 86, 87] (by decide +kernel) (by decide +kernel)
set_option maxRecDepth 20000 in
theorem gX6_primary_X1_lastPut : GoodIn wsX6_primary (wsV RX6 127 RX1 yX1_lastPut wsX1_lastPut) := goodIn_app (goodIn_of _ (by decide +kernel)) ggX6_primary_X1_lastPut
set_option maxRecDepth 20000 in
theorem ggX6_primary_X1_valueIn : GoodIn wsX6_primary wsX1_valueIn := goodIn_r _ [54, 55, 27, 28, 29, 30, 16, 31, 32, 82, 83, 84, 85, 86, 87] (by decide +kernel) (by decide +kernel)
set_option maxRecDepth 20000 in
theorem gX6_primary_X1_valueIn : GoodIn wsX6_primary (wsV RX6 130 RX1 yX1_valueIn wsX1_valueIn) := goodIn_app (goodIn_of _ (by decide +kernel)) ggX6_primary_X1_valueIn
theorem dX6_primary_0 : decode cX6_primary 0 = .ok (.iload_n 1, 1) := by decide +kernel
theorem dX6_primary_1 : decode cX6_primary 1 = .ok (.iconst (-1), 1) := by decide +kernel
theorem dX6_primary_2 : decode cX6_primary 2 = .ok (.if_icmp .eq 10, 3) := by decide +kernel
theorem dX6_primary_5 : decode cX6_primary 5 = .ok (.iload_n 1, 1) := by decide +kernel
theorem dX6_primary_6 : decode cX6_primary 6 = .ok (.invokestatic 118, 3) := by decide +kernel
theorem dX6_primary_9 : decode cX6_primary 9 = .ok (.ifCond .eq 10, 3) := by decide +kernel
theorem dX6_primary_12 : decode cX6_primary 12 = .ok (.iload_n 2, 1) := by decide +kernel
theorem dX6_primary_13 : decode cX6_primary 13 = .ok (.invokestatic 88, 3) := by decide +kernel
theorem dX6_primary_16 : decode cX6_primary 16 = .ok (.ifCond .ne 6, 3) := by decide +kernel
theorem dX6_primary_19 : decode cX6_primary 19 = .ok (.ldc 94, 2) := by decide +kernel
theorem dX6_primary_21 : decode cX6_primary 21 = .ok (.ireturn, 1) := by decide +kernel
theorem dX6_primary_22 : decode cX6_primary 22 = .ok (.aload_n 0, 1) := by decide +kernel
theorem dX6_primary_23 : decode cX6_primary 23 = .ok (.getfield 10, 3) := by decide +kernel
theorem dX6_primary_26 : decode cX6_primary 26 = .ok (.getfield 105, 3) := by decide +kernel
theorem dX6_primary_29 : decode cX6_primary 29 = .ok (.astore_n 3, 1) := by decide +kernel
theorem dX6_primary_30 : decode cX6_primary 30 = .ok (.iload_n 1, 1) := by decide +kernel
theorem dX6_primary_31 : decode cX6_primary 31 = .ok (.iconst (-1), 1) := by decide +kernel
theorem dX6_primary_32 : decode cX6_primary 32 = .ok (.if_icmp .ne 13, 3) := by decide +kernel
theorem dX6_primary_35 : decode cX6_primary 35 = .ok (.aload_n 3, 1) := by decide +kernel
theorem dX6_primary_36 : decode cX6_primary 36 = .ok (.iload_n 2, 1) := by decide +kernel
theorem dX6_primary_37 : decode cX6_primary 37 = .ok (.aload_n 3, 1) := by decide +kernel
theorem dX6_primary_38 : decode cX6_primary 38 = .ok (.getfield 121, 3) := by decide +kernel
theorem dX6_primary_41 : decode cX6_primary 41 = .ok (.invokevirtual 113, 3) := by decide +kernel
theorem dX6_primary_44 : decode cX6_primary 44 = .ok (.ireturn, 1) := by decide +kernel
theorem dX6_primary_45 : decode cX6_primary 45 = .ok (.aload_n 0, 1) := by decide +kernel
theorem dX6_primary_46 : decode cX6_primary 46 = .ok (.getfield 10, 3) := by decide +kernel
theorem dX6_primary_49 : decode cX6_primary 49 = .ok (.iload_n 1, 1) := by decide +kernel
theorem dX6_primary_50 : decode cX6_primary 50 = .ok (.invokevirtual 124, 3) := by decide +kernel
theorem dX6_primary_53 : decode cX6_primary 53 = .ok (.istore 4, 2) := by decide +kernel
theorem dX6_primary_55 : decode cX6_primary 55 = .ok (.iload 4, 2) := by decide +kernel
theorem dX6_primary_57 : decode cX6_primary 57 = .ok (.ifCond .ne 6, 3) := by decide +kernel
theorem dX6_primary_60 : decode cX6_primary 60 = .ok (.ldc 104, 2) := by decide +kernel
theorem dX6_primary_62 : decode cX6_primary 62 = .ok (.ireturn, 1) := by decide +kernel
theorem dX6_primary_63 : decode cX6_primary 63 = .ok (.aload_n 3, 1) := by decide +kernel
theorem dX6_primary_64 : decode cX6_primary 64 = .ok (.iload 4, 2) := by decide +kernel
theorem dX6_primary_66 : decode cX6_primary 66 = .ok (.iload_n 2, 1) := by decide +kernel
theorem dX6_primary_67 : decode cX6_primary 67 = .ok (.aload_n 3, 1) := by decide +kernel
theorem dX6_primary_68 : decode cX6_primary 68 = .ok (.getfield 121, 3) := by decide +kernel
theorem dX6_primary_71 : decode cX6_primary 71 = .ok (.invokevirtual 127, 3) := by decide +kernel
theorem dX6_primary_74 : decode cX6_primary 74 = .ok (.istore 5, 2) := by decide +kernel
theorem dX6_primary_76 : decode cX6_primary 76 = .ok (.iload 5, 2) := by decide +kernel
theorem dX6_primary_78 : decode cX6_primary 78 = .ok (.ifCond .ne 15, 3) := by decide +kernel
theorem dX6_primary_81 : decode cX6_primary 81 = .ok (.aload_n 3, 1) := by decide +kernel
theorem dX6_primary_82 : decode cX6_primary 82 = .ok (.iload_n 2, 1) := by decide +kernel
theorem dX6_primary_83 : decode cX6_primary 83 = .ok (.aload_n 3, 1) := by decide +kernel
theorem dX6_primary_84 : decode cX6_primary 84 = .ok (.getfield 121, 3) := by decide +kernel
theorem dX6_primary_87 : decode cX6_primary 87 = .ok (.invokevirtual 113, 3) := by decide +kernel
theorem dX6_primary_90 : decode cX6_primary 90 = .ok (.goto 9, 3) := by decide +kernel
theorem dX6_primary_93 : decode cX6_primary 93 = .ok (.aload_n 3, 1) := by decide +kernel
theorem dX6_primary_94 : decode cX6_primary 94 = .ok (.iload 5, 2) := by decide +kernel
theorem dX6_primary_96 : decode cX6_primary 96 = .ok (.invokevirtual 130, 3) := by decide +kernel
theorem dX6_primary_99 : decode cX6_primary 99 = .ok (.ireturn, 1) := by decide +kernel
set_option maxRecDepth 20000 in
theorem ggX6_serves_X4_isPosition : GoodIn wsX6_serves wsX4_isPosition := goodIn_r _ [11, 12, 13, 27, 28, 29, 30, 31, 32, 33, 34, 35, 36, 37, 38, 43, 44, 45, 46, 47, 48] (by decide +kernel) (by decide +kernel)
set_option maxRecDepth 20000 in
theorem gX6_serves_X4_isPosition : GoodIn wsX6_serves (wsV RX6 91 RX4 yX4_isPosition wsX4_isPosition) := goodIn_app (goodIn_of _ (by decide +kernel)) ggX6_serves_X4_isPosition
set_option maxRecDepth 20000 in
theorem ggX6_serves_X3_canServe : GoodIn wsX6_serves wsX3_canServe := goodIn_r _ [18, 19, 20, 39, 40, 41, 42] (by decide +kernel) (by decide +kernel)
set_option maxRecDepth 20000 in
theorem gX6_serves_X3_canServe : GoodIn wsX6_serves (wsV RX6 99 RX3 yX3_canServe wsX3_canServe) := goodIn_app (goodIn_of _ (by decide +kernel)) ggX6_serves_X3_canServe
theorem dX6_serves_0 : decode cX6_serves 0 = .ok (.aload_n 0, 1) := by decide +kernel
theorem dX6_serves_1 : decode cX6_serves 1 = .ok (.getfield 10, 3) := by decide +kernel
theorem dX6_serves_4 : decode cX6_serves 4 = .ok (.iload_n 1, 1) := by decide +kernel
theorem dX6_serves_5 : decode cX6_serves 5 = .ok (.invokevirtual 91, 3) := by decide +kernel
theorem dX6_serves_8 : decode cX6_serves 8 = .ok (.ifCond .ne 6, 3) := by decide +kernel
theorem dX6_serves_11 : decode cX6_serves 11 = .ok (.ldc 94, 2) := by decide +kernel
theorem dX6_serves_13 : decode cX6_serves 13 = .ok (.ireturn, 1) := by decide +kernel
theorem dX6_serves_14 : decode cX6_serves 14 = .ok (.aload_n 0, 1) := by decide +kernel
theorem dX6_serves_15 : decode cX6_serves 15 = .ok (.getfield 10, 3) := by decide +kernel
theorem dX6_serves_18 : decode cX6_serves 18 = .ok (.getfield 133, 3) := by decide +kernel
theorem dX6_serves_21 : decode cX6_serves 21 = .ok (.iload_n 1, 1) := by decide +kernel
theorem dX6_serves_22 : decode cX6_serves 22 = .ok (.invokevirtual 99, 3) := by decide +kernel
theorem dX6_serves_25 : decode cX6_serves 25 = .ok (.istore_n 2, 1) := by decide +kernel
theorem dX6_serves_26 : decode cX6_serves 26 = .ok (.aload_n 0, 1) := by decide +kernel
theorem dX6_serves_27 : decode cX6_serves 27 = .ok (.getfield 10, 3) := by decide +kernel
theorem dX6_serves_30 : decode cX6_serves 30 = .ok (.getfield 137, 3) := by decide +kernel
theorem dX6_serves_33 : decode cX6_serves 33 = .ok (.iload_n 1, 1) := by decide +kernel
theorem dX6_serves_34 : decode cX6_serves 34 = .ok (.invokevirtual 99, 3) := by decide +kernel
theorem dX6_serves_37 : decode cX6_serves 37 = .ok (.istore_n 3, 1) := by decide +kernel
theorem dX6_serves_38 : decode cX6_serves 38 = .ok (.iload_n 2, 1) := by decide +kernel
theorem dX6_serves_39 : decode cX6_serves 39 = .ok (.ifCond .eq 36, 3) := by decide +kernel
theorem dX6_serves_42 : decode cX6_serves 42 = .ok (.iload_n 3, 1) := by decide +kernel
theorem dX6_serves_43 : decode cX6_serves 43 = .ok (.ifCond .eq 32, 3) := by decide +kernel
theorem dX6_serves_46 : decode cX6_serves 46 = .ok (.aload_n 0, 1) := by decide +kernel
theorem dX6_serves_47 : decode cX6_serves 47 = .ok (.getfield 10, 3) := by decide +kernel
theorem dX6_serves_50 : decode cX6_serves 50 = .ok (.getfield 137, 3) := by decide +kernel
theorem dX6_serves_53 : decode cX6_serves 53 = .ok (.getfield 109, 3) := by decide +kernel
theorem dX6_serves_56 : decode cX6_serves 56 = .ok (.aload_n 0, 1) := by decide +kernel
theorem dX6_serves_57 : decode cX6_serves 57 = .ok (.getfield 10, 3) := by decide +kernel
theorem dX6_serves_60 : decode cX6_serves 60 = .ok (.getfield 133, 3) := by decide +kernel
theorem dX6_serves_63 : decode cX6_serves 63 = .ok (.getfield 109, 3) := by decide +kernel
theorem dX6_serves_66 : decode cX6_serves 66 = .ok (.if_icmp .le 7, 3) := by decide +kernel
theorem dX6_serves_69 : decode cX6_serves 69 = .ok (.iconst 1, 1) := by decide +kernel
theorem dX6_serves_70 : decode cX6_serves 70 = .ok (.goto 4, 3) := by decide +kernel
theorem dX6_serves_73 : decode cX6_serves 73 = .ok (.iconst 0, 1) := by decide +kernel
theorem dX6_serves_74 : decode cX6_serves 74 = .ok (.ireturn, 1) := by decide +kernel
theorem dX6_serves_75 : decode cX6_serves 75 = .ok (.iload_n 2, 1) := by decide +kernel
theorem dX6_serves_76 : decode cX6_serves 76 = .ok (.ifCond .eq 5, 3) := by decide +kernel
theorem dX6_serves_79 : decode cX6_serves 79 = .ok (.iconst 0, 1) := by decide +kernel
theorem dX6_serves_80 : decode cX6_serves 80 = .ok (.ireturn, 1) := by decide +kernel
theorem dX6_serves_81 : decode cX6_serves 81 = .ok (.iload_n 3, 1) := by decide +kernel
theorem dX6_serves_82 : decode cX6_serves 82 = .ok (.ifCond .eq 7, 3) := by decide +kernel
theorem dX6_serves_85 : decode cX6_serves 85 = .ok (.iconst 1, 1) := by decide +kernel
theorem dX6_serves_86 : decode cX6_serves 86 = .ok (.goto 5, 3) := by decide +kernel
theorem dX6_serves_89 : decode cX6_serves 89 = .ok (.ldc 140, 2) := by decide +kernel
theorem dX6_serves_91 : decode cX6_serves 91 = .ok (.ireturn, 1) := by decide +kernel
set_option maxRecDepth 20000 in
theorem ggX6_fence_X6_isKey : GoodIn wsX6_fence wsX6_isKey := goodIn_r _ [8] (by decide +kernel) (by decide +kernel)
set_option maxRecDepth 20000 in
theorem gX6_fence_X6_isKey : GoodIn wsX6_fence (va_wsS RX6 88 yX6_isKey wsX6_isKey) := goodIn_app (goodIn_of _ (by decide +kernel)) ggX6_fence_X6_isKey
set_option maxRecDepth 20000 in
theorem ggX6_fence_X1_lastCommit : GoodIn wsX6_fence wsX1_lastCommit := goodIn_r _ [13, 14, 15, 16, 12, 17, 18, 19, 20, 21, 22, 23, 24, 25, 26, 27, 28, 29, 30, 31, 32, 33, 34, 35, 36, 37, 38, 39, 40, 41, 42, 65, 66, 67, 68, 69, 70] (by decide +kernel) (by decide +kernel)
set_option maxRecDepth 20000 in
theorem gX6_fence_X1_lastCommit : GoodIn wsX6_fence (wsV RX6 141 RX1 yX1_lastCommit wsX1_lastCommit) := goodIn_app (goodIn_of _ (by decide +kernel)) ggX6_fence_X1_lastCommit
set_option maxRecDepth 20000 in
theorem ggX6_fence_X6_found : GoodIn wsX6_fence wsX6_found := goodIn_r _ [45, 46] (by decide +kernel) (by decide +kernel)
set_option maxRecDepth 20000 in
theorem gX6_fence_X6_found : GoodIn wsX6_fence (va_wsS RX6 144 yX6_found wsX6_found) := goodIn_app (goodIn_of _ (by decide +kernel)) ggX6_fence_X6_found
theorem dX6_fence_0 : decode cX6_fence 0 = .ok (.iload_n 1, 1) := by decide +kernel
theorem dX6_fence_1 : decode cX6_fence 1 = .ok (.invokestatic 88, 3) := by decide +kernel
theorem dX6_fence_4 : decode cX6_fence 4 = .ok (.ifCond .ne 6, 3) := by decide +kernel
theorem dX6_fence_7 : decode cX6_fence 7 = .ok (.ldc 94, 2) := by decide +kernel
theorem dX6_fence_9 : decode cX6_fence 9 = .ok (.ireturn, 1) := by decide +kernel
theorem dX6_fence_10 : decode cX6_fence 10 = .ok (.aload_n 0, 1) := by decide +kernel
theorem dX6_fence_11 : decode cX6_fence 11 = .ok (.getfield 10, 3) := by decide +kernel
theorem dX6_fence_14 : decode cX6_fence 14 = .ok (.getfield 105, 3) := by decide +kernel
theorem dX6_fence_17 : decode cX6_fence 17 = .ok (.iload_n 1, 1) := by decide +kernel
theorem dX6_fence_18 : decode cX6_fence 18 = .ok (.aload_n 0, 1) := by decide +kernel
theorem dX6_fence_19 : decode cX6_fence 19 = .ok (.getfield 10, 3) := by decide +kernel
theorem dX6_fence_22 : decode cX6_fence 22 = .ok (.getfield 105, 3) := by decide +kernel
theorem dX6_fence_25 : decode cX6_fence 25 = .ok (.getfield 121, 3) := by decide +kernel
theorem dX6_fence_28 : decode cX6_fence 28 = .ok (.invokevirtual 141, 3) := by decide +kernel
theorem dX6_fence_31 : decode cX6_fence 31 = .ok (.invokestatic 144, 3) := by decide +kernel
theorem dX6_fence_34 : decode cX6_fence 34 = .ok (.ireturn, 1) := by decide +kernel
set_option maxRecDepth 20000 in
theorem ggX6_recordOf_X1_has : GoodIn wsX6_recordOf wsX1_has := goodIn_r _ [9, 10, 56, 57, 58, 59, 60, 61] (by decide +kernel) (by decide +kernel)
set_option maxRecDepth 20000 in
theorem gX6_recordOf_X1_has : GoodIn wsX6_recordOf (wsV RX6 147 RX1 yX1_has wsX1_has) := goodIn_app (goodIn_of _ (by decide +kernel)) ggX6_recordOf_X1_has
set_option maxRecDepth 20000 in
theorem ggX6_recordOf_X1_kindOf : GoodIn wsX6_recordOf wsX1_kindOf := goodIn_r _ [14, 15, 16, 17, 6, 7, 8, 9, 10, 56, 57, 58, 59, 60, 61] (by decide +kernel) (by decide +kernel)
set_option maxRecDepth 20000 in
theorem gX6_recordOf_X1_kindOf : GoodIn wsX6_recordOf (wsV RX6 150 RX1 yX1_kindOf wsX1_kindOf) := goodIn_app (goodIn_of _ (by decide +kernel)) ggX6_recordOf_X1_kindOf
set_option maxRecDepth 20000 in
theorem ggX6_recordOf_X1_transactionOf : GoodIn wsX6_recordOf wsX1_transactionOf := goodIn_r _ [21, 22, 16, 17, 6, 7, 8, 9, 10, 56, 57, 58, 59, 60, 61] (by decide +kernel) (by decide +kernel)
set_option maxRecDepth 20000 in
theorem gX6_recordOf_X1_transactionOf : GoodIn wsX6_recordOf (wsV RX6 153 RX1 yX1_transactionOf wsX1_transactionOf) := goodIn_app (goodIn_of _ (by decide +kernel)) ggX6_recordOf_X1_transactionOf
set_option maxRecDepth 20000 in
theorem ggX6_recordOf_X1_keyOf : GoodIn wsX6_recordOf wsX1_keyOf := goodIn_r _ [26, 27, 16, 17, 6, 7, 8, 9, 10, 56, 57, 58, 59, 60, 61] (by decide +kernel) (by decide +kernel)
set_option maxRecDepth 20000 in
theorem gX6_recordOf_X1_keyOf : GoodIn wsX6_recordOf (wsV RX6 156 RX1 yX1_keyOf wsX1_keyOf) := goodIn_app (goodIn_of _ (by decide +kernel)) ggX6_recordOf_X1_keyOf
set_option maxRecDepth 20000 in
theorem ggX6_recordOf_X1_valueIn : GoodIn wsX6_recordOf wsX1_valueIn := goodIn_r _ [31, 32, 16, 17, 6, 7, 8, 9, 10, 56, 57, 58, 59, 60, 61] (by decide +kernel) (by decide +kernel)
set_option maxRecDepth 20000 in
theorem gX6_recordOf_X1_valueIn : GoodIn wsX6_recordOf (wsV RX6 130 RX1 yX1_valueIn wsX1_valueIn) := goodIn_app (goodIn_of _ (by decide +kernel)) ggX6_recordOf_X1_valueIn
set_option maxRecDepth 20000 in
theorem ggX6_recordOf_X1_tickOf : GoodIn wsX6_recordOf wsX1_tickOf := goodIn_r _ [36, 37, 16, 17, 6, 7, 8, 9, 10, 56, 57, 58, 59, 60, 61] (by decide +kernel) (by decide +kernel)
set_option maxRecDepth 20000 in
theorem gX6_recordOf_X1_tickOf : GoodIn wsX6_recordOf (wsV RX6 159 RX1 yX1_tickOf wsX1_tickOf) := goodIn_app (goodIn_of _ (by decide +kernel)) ggX6_recordOf_X1_tickOf
theorem dX6_recordOf_0 : decode cX6_recordOf 0 = .ok (.iload_n 1, 1) := by decide +kernel
theorem dX6_recordOf_1 : decode cX6_recordOf 1 = .ok (.iconst 1, 1) := by decide +kernel
theorem dX6_recordOf_2 : decode cX6_recordOf 2 = .ok (.if_icmp .lt 12, 3) := by decide +kernel
theorem dX6_recordOf_5 : decode cX6_recordOf 5 = .ok (.iload_n 2, 1) := by decide +kernel
theorem dX6_recordOf_6 : decode cX6_recordOf 6 = .ok (.ifCond .lt 8, 3) := by decide +kernel
theorem dX6_recordOf_9 : decode cX6_recordOf 9 = .ok (.iload_n 2, 1) := by decide +kernel
theorem dX6_recordOf_10 : decode cX6_recordOf 10 = .ok (.iconst 4, 1) := by decide +kernel
theorem dX6_recordOf_11 : decode cX6_recordOf 11 = .ok (.if_icmp .le 6, 3) := by decide +kernel
theorem dX6_recordOf_14 : decode cX6_recordOf 14 = .ok (.ldc 94, 2) := by decide +kernel
theorem dX6_recordOf_16 : decode cX6_recordOf 16 = .ok (.ireturn, 1) := by decide +kernel
theorem dX6_recordOf_17 : decode cX6_recordOf 17 = .ok (.aload_n 0, 1) := by decide +kernel
theorem dX6_recordOf_18 : decode cX6_recordOf 18 = .ok (.getfield 10, 3) := by decide +kernel
theorem dX6_recordOf_21 : decode cX6_recordOf 21 = .ok (.getfield 105, 3) := by decide +kernel
theorem dX6_recordOf_24 : decode cX6_recordOf 24 = .ok (.astore_n 3, 1) := by decide +kernel
theorem dX6_recordOf_25 : decode cX6_recordOf 25 = .ok (.iload_n 2, 1) := by decide +kernel
theorem dX6_recordOf_26 : decode cX6_recordOf 26 = .ok (.iconst 2, 1) := by decide +kernel
theorem dX6_recordOf_27 : decode cX6_recordOf 27 = .ok (.if_icmp .eq 8, 3) := by decide +kernel
theorem dX6_recordOf_30 : decode cX6_recordOf 30 = .ok (.iload_n 2, 1) := by decide +kernel
theorem dX6_recordOf_31 : decode cX6_recordOf 31 = .ok (.iconst 3, 1) := by decide +kernel
theorem dX6_recordOf_32 : decode cX6_recordOf 32 = .ok (.if_icmp .ne 7, 3) := by decide +kernel
theorem dX6_recordOf_35 : decode cX6_recordOf 35 = .ok (.iconst 1, 1) := by decide +kernel
theorem dX6_recordOf_36 : decode cX6_recordOf 36 = .ok (.goto 4, 3) := by decide +kernel
theorem dX6_recordOf_39 : decode cX6_recordOf 39 = .ok (.iconst 0, 1) := by decide +kernel
theorem dX6_recordOf_40 : decode cX6_recordOf 40 = .ok (.istore 4, 2) := by decide +kernel
theorem dX6_recordOf_42 : decode cX6_recordOf 42 = .ok (.aload_n 3, 1) := by decide +kernel
theorem dX6_recordOf_43 : decode cX6_recordOf 43 = .ok (.iload_n 1, 1) := by decide +kernel
theorem dX6_recordOf_44 : decode cX6_recordOf 44 = .ok (.invokevirtual 147, 3) := by decide +kernel
theorem dX6_recordOf_47 : decode cX6_recordOf 47 = .ok (.ifCond .eq 16, 3) := by decide +kernel
theorem dX6_recordOf_50 : decode cX6_recordOf 50 = .ok (.iload 4, 2) := by decide +kernel
theorem dX6_recordOf_52 : decode cX6_recordOf 52 = .ok (.ifCond .eq 14, 3) := by decide +kernel
theorem dX6_recordOf_55 : decode cX6_recordOf 55 = .ok (.aload_n 3, 1) := by decide +kernel
theorem dX6_recordOf_56 : decode cX6_recordOf 56 = .ok (.iload_n 1, 1) := by decide +kernel
theorem dX6_recordOf_57 : decode cX6_recordOf 57 = .ok (.invokevirtual 150, 3) := by decide +kernel
theorem dX6_recordOf_60 : decode cX6_recordOf 60 = .ok (.ifCond .eq 6, 3) := by decide +kernel
theorem dX6_recordOf_63 : decode cX6_recordOf 63 = .ok (.ldc 140, 2) := by decide +kernel
theorem dX6_recordOf_65 : decode cX6_recordOf 65 = .ok (.ireturn, 1) := by decide +kernel
theorem dX6_recordOf_66 : decode cX6_recordOf 66 = .ok (.iload_n 2, 1) := by decide +kernel
theorem dX6_recordOf_67 : decode cX6_recordOf 67 = .ok (.tableswitch 53 0 3 #[29, 35, 41, 47], 29) := by decide +kernel
theorem dX6_recordOf_96 : decode cX6_recordOf 96 = .ok (.aload_n 3, 1) := by decide +kernel
theorem dX6_recordOf_97 : decode cX6_recordOf 97 = .ok (.iload_n 1, 1) := by decide +kernel
theorem dX6_recordOf_98 : decode cX6_recordOf 98 = .ok (.invokevirtual 150, 3) := by decide +kernel
theorem dX6_recordOf_101 : decode cX6_recordOf 101 = .ok (.ireturn, 1) := by decide +kernel
theorem dX6_recordOf_102 : decode cX6_recordOf 102 = .ok (.aload_n 3, 1) := by decide +kernel
theorem dX6_recordOf_103 : decode cX6_recordOf 103 = .ok (.iload_n 1, 1) := by decide +kernel
theorem dX6_recordOf_104 : decode cX6_recordOf 104 = .ok (.invokevirtual 153, 3) := by decide +kernel
theorem dX6_recordOf_107 : decode cX6_recordOf 107 = .ok (.ireturn, 1) := by decide +kernel
theorem dX6_recordOf_108 : decode cX6_recordOf 108 = .ok (.aload_n 3, 1) := by decide +kernel
theorem dX6_recordOf_109 : decode cX6_recordOf 109 = .ok (.iload_n 1, 1) := by decide +kernel
theorem dX6_recordOf_110 : decode cX6_recordOf 110 = .ok (.invokevirtual 156, 3) := by decide +kernel
theorem dX6_recordOf_113 : decode cX6_recordOf 113 = .ok (.ireturn, 1) := by decide +kernel
theorem dX6_recordOf_114 : decode cX6_recordOf 114 = .ok (.aload_n 3, 1) := by decide +kernel
theorem dX6_recordOf_115 : decode cX6_recordOf 115 = .ok (.iload_n 1, 1) := by decide +kernel
theorem dX6_recordOf_116 : decode cX6_recordOf 116 = .ok (.invokevirtual 130, 3) := by decide +kernel
theorem dX6_recordOf_119 : decode cX6_recordOf 119 = .ok (.ireturn, 1) := by decide +kernel
theorem dX6_recordOf_120 : decode cX6_recordOf 120 = .ok (.aload_n 3, 1) := by decide +kernel
theorem dX6_recordOf_121 : decode cX6_recordOf 121 = .ok (.iload_n 1, 1) := by decide +kernel
theorem dX6_recordOf_122 : decode cX6_recordOf 122 = .ok (.invokevirtual 159, 3) := by decide +kernel
theorem dX6_recordOf_125 : decode cX6_recordOf 125 = .ok (.ireturn, 1) := by decide +kernel
set_option maxRecDepth 20000 in
theorem ggX6_standbyOf_X6_isStandby : GoodIn wsX6_standbyOf wsX6_isStandby := goodIn_r _ [13] (by decide +kernel) (by decide +kernel)
set_option maxRecDepth 20000 in
theorem gX6_standbyOf_X6_isStandby : GoodIn wsX6_standbyOf (va_wsS RX6 84 yX6_isStandby wsX6_isStandby) := goodIn_app (goodIn_of _ (by decide +kernel)) ggX6_standbyOf_X6_isStandby
set_option maxRecDepth 20000 in
theorem ggX6_standbyOf_X4_standby : GoodIn wsX6_standbyOf wsX4_standby := goodIn_r _ [18, 19, 20, 98, 99, 100, 101, 102, 103, 104, 105, 106, 107, 108, 109] (by decide +kernel) (by decide +kernel)
set_option maxRecDepth 20000 in
theorem gX6_standbyOf_X4_standby : GoodIn wsX6_standbyOf (wsV RX6 95 RX4 yX4_standby wsX4_standby) := goodIn_app (goodIn_of _ (by decide +kernel)) ggX6_standbyOf_X4_standby
set_option maxRecDepth 20000 in
theorem ggX6_standbyOf_X3_gapCount : GoodIn wsX6_standbyOf wsX3_gapCount := goodIn_r _ [25, 26, 110, 111, 112, 113] (by decide +kernel) (by decide +kernel)
set_option maxRecDepth 20000 in
theorem gX6_standbyOf_X3_gapCount : GoodIn wsX6_standbyOf (wsV RX6 165 RX3 yX3_gapCount wsX3_gapCount) := goodIn_app (goodIn_of _ (by decide +kernel)) ggX6_standbyOf_X3_gapCount
set_option maxRecDepth 20000 in
theorem ggX6_standbyOf_X3_lowestGap : GoodIn wsX6_standbyOf wsX3_lowestGap := goodIn_r _ [30, 26, 110, 111, 112, 113] (by decide +kernel) (by decide +kernel)
set_option maxRecDepth 20000 in
theorem gX6_standbyOf_X3_lowestGap : GoodIn wsX6_standbyOf (wsV RX6 169 RX3 yX3_lowestGap wsX3_lowestGap) := goodIn_app (goodIn_of _ (by decide +kernel)) ggX6_standbyOf_X3_lowestGap
set_option maxRecDepth 20000 in
theorem ggX6_standbyOf_X6_found : GoodIn wsX6_standbyOf wsX6_found := goodIn_r _ [33, 9] (by decide +kernel) (by decide +kernel)
set_option maxRecDepth 20000 in
theorem gX6_standbyOf_X6_found : GoodIn wsX6_standbyOf (va_wsS RX6 144 yX6_found wsX6_found) := goodIn_app (goodIn_of _ (by decide +kernel)) ggX6_standbyOf_X6_found
set_option maxRecDepth 20000 in
theorem ggX6_standbyOf_X1_commitsBehind : GoodIn wsX6_standbyOf wsX1_commitsBehind := goodIn_r _ [38, 39, 40, 41, 42, 37, 43, 44, 45, 46, 47, 48, 49, 114, 115, 116, 117, 118, 119] (by decide +kernel) (by decide +kernel)
set_option maxRecDepth 20000 in
theorem gX6_standbyOf_X1_commitsBehind : GoodIn wsX6_standbyOf (wsV RX6 176 RX1 yX1_commitsBehind wsX1_commitsBehind) := goodIn_app (goodIn_of _ (by decide +kernel)) ggX6_standbyOf_X1_commitsBehind
set_option maxRecDepth 20000 in
theorem ggX6_standbyOf_X1_has : GoodIn wsX6_standbyOf wsX1_has := goodIn_r _ [49, 39, 114, 115, 116, 117, 118, 119] (by decide +kernel) (by decide +kernel)
set_option maxRecDepth 20000 in
theorem gX6_standbyOf_X1_has : GoodIn wsX6_standbyOf (wsV RX6 147 RX1 yX1_has wsX1_has) := goodIn_app (goodIn_of _ (by decide +kernel)) ggX6_standbyOf_X1_has
set_option maxRecDepth 20000 in
theorem ggX6_standbyOf_X1_tickOf : GoodIn wsX6_standbyOf wsX1_tickOf := goodIn_r _ [54, 55, 45, 46, 47, 48, 37, 49, 39, 114, 115, 116, 117, 118, 119] (by decide +kernel) (by decide +kernel)
set_option maxRecDepth 20000 in
theorem gX6_standbyOf_X1_tickOf : GoodIn wsX6_standbyOf (wsV RX6 159 RX1 yX1_tickOf wsX1_tickOf) := goodIn_app (goodIn_of _ (by decide +kernel)) ggX6_standbyOf_X1_tickOf
set_option maxRecDepth 20000 in
theorem ggX6_standbyOf_X6_keysNotAsAtEnd : GoodIn wsX6_standbyOf wsX6_keysNotAsAtEnd := goodIn_r _ [59, 2, 3, 60, 7, 61, 62, 63, 64, 37, 65, 40, 41, 42, 43, 44, 45, 46, 47, 48, 49, 39, 66, 67, 68, 69, 70, 71, 72, 73, 74, 75, 76, 77, 78, 79, 80, 81, 82, 83, 84, 85, 86, 87, 88, 89, 90, 91, 92, 93, 94, 95, 96, 97, 98, 99, 100, 101, 102, 103, 104, 105, 106, 107, 108, 109, 114, 115, 116, 117, 118, 119] (by decide +kernel) (by decide +kernel)
set_option maxRecDepth 20000 in
theorem gX6_standbyOf_X6_keysNotAsAtEnd : GoodIn wsX6_standbyOf (wsV RX6 182 RX6 yX6_keysNotAsAtEnd wsX6_keysNotAsAtEnd) := goodIn_app (goodIn_of _ (by decide +kernel)) ggX6_standbyOf_X6_keysNotAsAtEnd
theorem dX6_standbyOf_0 : decode cX6_standbyOf 0 = .ok (.iload_n 1, 1) := by decide +kernel
theorem dX6_standbyOf_1 : decode cX6_standbyOf 1 = .ok (.invokestatic 84, 3) := by decide +kernel
theorem dX6_standbyOf_4 : decode cX6_standbyOf 4 = .ok (.ifCond .eq 13, 3) := by decide +kernel
theorem dX6_standbyOf_7 : decode cX6_standbyOf 7 = .ok (.iload_n 2, 1) := by decide +kernel
theorem dX6_standbyOf_8 : decode cX6_standbyOf 8 = .ok (.ifCond .lt 9, 3) := by decide +kernel
theorem dX6_standbyOf_11 : decode cX6_standbyOf 11 = .ok (.iload_n 2, 1) := by decide +kernel
theorem dX6_standbyOf_12 : decode cX6_standbyOf 12 = .ok (.bipush 8, 2) := by decide +kernel
theorem dX6_standbyOf_14 : decode cX6_standbyOf 14 = .ok (.if_icmp .le 6, 3) := by decide +kernel
theorem dX6_standbyOf_17 : decode cX6_standbyOf 17 = .ok (.ldc 94, 2) := by decide +kernel
theorem dX6_standbyOf_19 : decode cX6_standbyOf 19 = .ok (.ireturn, 1) := by decide +kernel
theorem dX6_standbyOf_20 : decode cX6_standbyOf 20 = .ok (.aload_n 0, 1) := by decide +kernel
theorem dX6_standbyOf_21 : decode cX6_standbyOf 21 = .ok (.getfield 10, 3) := by decide +kernel
theorem dX6_standbyOf_24 : decode cX6_standbyOf 24 = .ok (.iload_n 1, 1) := by decide +kernel
theorem dX6_standbyOf_25 : decode cX6_standbyOf 25 = .ok (.invokevirtual 95, 3) := by decide +kernel
theorem dX6_standbyOf_28 : decode cX6_standbyOf 28 = .ok (.astore_n 3, 1) := by decide +kernel
theorem dX6_standbyOf_29 : decode cX6_standbyOf 29 = .ok (.aload_n 0, 1) := by decide +kernel
theorem dX6_standbyOf_30 : decode cX6_standbyOf 30 = .ok (.getfield 10, 3) := by decide +kernel
theorem dX6_standbyOf_33 : decode cX6_standbyOf 33 = .ok (.getfield 105, 3) := by decide +kernel
theorem dX6_standbyOf_36 : decode cX6_standbyOf 36 = .ok (.astore 4, 2) := by decide +kernel
theorem dX6_standbyOf_38 : decode cX6_standbyOf 38 = .ok (.iload_n 2, 1) := by decide +kernel
theorem dX6_standbyOf_39 : decode cX6_standbyOf 39 = .ok (.tableswitch 141 0 7 #[45, 50, 55, 60, 68, 81, 92, 102], 45) := by decide +kernel
theorem dX6_standbyOf_84 : decode cX6_standbyOf 84 = .ok (.aload_n 3, 1) := by decide +kernel
theorem dX6_standbyOf_85 : decode cX6_standbyOf 85 = .ok (.getfield 162, 3) := by decide +kernel
theorem dX6_standbyOf_88 : decode cX6_standbyOf 88 = .ok (.ireturn, 1) := by decide +kernel
theorem dX6_standbyOf_89 : decode cX6_standbyOf 89 = .ok (.aload_n 3, 1) := by decide +kernel
theorem dX6_standbyOf_90 : decode cX6_standbyOf 90 = .ok (.getfield 109, 3) := by decide +kernel
theorem dX6_standbyOf_93 : decode cX6_standbyOf 93 = .ok (.ireturn, 1) := by decide +kernel
theorem dX6_standbyOf_94 : decode cX6_standbyOf 94 = .ok (.aload_n 3, 1) := by decide +kernel
theorem dX6_standbyOf_95 : decode cX6_standbyOf 95 = .ok (.invokevirtual 165, 3) := by decide +kernel
theorem dX6_standbyOf_98 : decode cX6_standbyOf 98 = .ok (.ireturn, 1) := by decide +kernel
theorem dX6_standbyOf_99 : decode cX6_standbyOf 99 = .ok (.aload_n 3, 1) := by decide +kernel
theorem dX6_standbyOf_100 : decode cX6_standbyOf 100 = .ok (.invokevirtual 169, 3) := by decide +kernel
theorem dX6_standbyOf_103 : decode cX6_standbyOf 103 = .ok (.invokestatic 144, 3) := by decide +kernel
theorem dX6_standbyOf_106 : decode cX6_standbyOf 106 = .ok (.ireturn, 1) := by decide +kernel
theorem dX6_standbyOf_107 : decode cX6_standbyOf 107 = .ok (.aload_n 3, 1) := by decide +kernel
theorem dX6_standbyOf_108 : decode cX6_standbyOf 108 = .ok (.getfield 172, 3) := by decide +kernel
theorem dX6_standbyOf_111 : decode cX6_standbyOf 111 = .ok (.ifCond .eq 7, 3) := by decide +kernel
theorem dX6_standbyOf_114 : decode cX6_standbyOf 114 = .ok (.iconst 1, 1) := by decide +kernel
theorem dX6_standbyOf_115 : decode cX6_standbyOf 115 = .ok (.goto 4, 3) := by decide +kernel
theorem dX6_standbyOf_118 : decode cX6_standbyOf 118 = .ok (.iconst 0, 1) := by decide +kernel
theorem dX6_standbyOf_119 : decode cX6_standbyOf 119 = .ok (.ireturn, 1) := by decide +kernel
theorem dX6_standbyOf_120 : decode cX6_standbyOf 120 = .ok (.aload 4, 2) := by decide +kernel
theorem dX6_standbyOf_122 : decode cX6_standbyOf 122 = .ok (.getfield 121, 3) := by decide +kernel
theorem dX6_standbyOf_125 : decode cX6_standbyOf 125 = .ok (.aload_n 3, 1) := by decide +kernel
theorem dX6_standbyOf_126 : decode cX6_standbyOf 126 = .ok (.getfield 109, 3) := by decide +kernel
theorem dX6_standbyOf_129 : decode cX6_standbyOf 129 = .ok (.isub, 1) := by decide +kernel
theorem dX6_standbyOf_130 : decode cX6_standbyOf 130 = .ok (.ireturn, 1) := by decide +kernel
theorem dX6_standbyOf_131 : decode cX6_standbyOf 131 = .ok (.aload 4, 2) := by decide +kernel
end
section
theorem dX6_standbyOf_133 : decode cX6_standbyOf 133 = .ok (.aload_n 3, 1) := by decide +kernel
theorem dX6_standbyOf_134 : decode cX6_standbyOf 134 = .ok (.getfield 109, 3) := by decide +kernel
theorem dX6_standbyOf_137 : decode cX6_standbyOf 137 = .ok (.invokevirtual 176, 3) := by decide +kernel
theorem dX6_standbyOf_140 : decode cX6_standbyOf 140 = .ok (.ireturn, 1) := by decide +kernel
theorem dX6_standbyOf_141 : decode cX6_standbyOf 141 = .ok (.aload 4, 2) := by decide +kernel
theorem dX6_standbyOf_143 : decode cX6_standbyOf 143 = .ok (.aload_n 3, 1) := by decide +kernel
theorem dX6_standbyOf_144 : decode cX6_standbyOf 144 = .ok (.getfield 109, 3) := by decide +kernel
theorem dX6_standbyOf_147 : decode cX6_standbyOf 147 = .ok (.iconst 1, 1) := by decide +kernel
theorem dX6_standbyOf_148 : decode cX6_standbyOf 148 = .ok (.iadd, 1) := by decide +kernel
theorem dX6_standbyOf_149 : decode cX6_standbyOf 149 = .ok (.invokevirtual 147, 3) := by decide +kernel
theorem dX6_standbyOf_152 : decode cX6_standbyOf 152 = .ok (.ifCond .eq 25, 3) := by decide +kernel
theorem dX6_standbyOf_155 : decode cX6_standbyOf 155 = .ok (.aload_n 0, 1) := by decide +kernel
theorem dX6_standbyOf_156 : decode cX6_standbyOf 156 = .ok (.getfield 10, 3) := by decide +kernel
theorem dX6_standbyOf_159 : decode cX6_standbyOf 159 = .ok (.getfield 179, 3) := by decide +kernel
theorem dX6_standbyOf_162 : decode cX6_standbyOf 162 = .ok (.aload 4, 2) := by decide +kernel
theorem dX6_standbyOf_164 : decode cX6_standbyOf 164 = .ok (.aload_n 3, 1) := by decide +kernel
theorem dX6_standbyOf_165 : decode cX6_standbyOf 165 = .ok (.getfield 109, 3) := by decide +kernel
theorem dX6_standbyOf_168 : decode cX6_standbyOf 168 = .ok (.iconst 1, 1) := by decide +kernel
theorem dX6_standbyOf_169 : decode cX6_standbyOf 169 = .ok (.iadd, 1) := by decide +kernel
theorem dX6_standbyOf_170 : decode cX6_standbyOf 170 = .ok (.invokevirtual 159, 3) := by decide +kernel
theorem dX6_standbyOf_173 : decode cX6_standbyOf 173 = .ok (.isub, 1) := by decide +kernel
theorem dX6_standbyOf_174 : decode cX6_standbyOf 174 = .ok (.goto 5, 3) := by decide +kernel
theorem dX6_standbyOf_177 : decode cX6_standbyOf 177 = .ok (.ldc 140, 2) := by decide +kernel
theorem dX6_standbyOf_179 : decode cX6_standbyOf 179 = .ok (.ireturn, 1) := by decide +kernel
theorem dX6_standbyOf_180 : decode cX6_standbyOf 180 = .ok (.aload_n 0, 1) := by decide +kernel
theorem dX6_standbyOf_181 : decode cX6_standbyOf 181 = .ok (.aload_n 3, 1) := by decide +kernel
theorem dX6_standbyOf_182 : decode cX6_standbyOf 182 = .ok (.getfield 109, 3) := by decide +kernel
theorem dX6_standbyOf_185 : decode cX6_standbyOf 185 = .ok (.invokevirtual 182, 3) := by decide +kernel
theorem dX6_standbyOf_188 : decode cX6_standbyOf 188 = .ok (.ireturn, 1) := by decide +kernel
set_option maxRecDepth 20000 in
theorem ggX6_slotOf_X6_isSlot : GoodIn wsX6_slotOf wsX6_isSlot := goodIn_r _ [8] (by decide +kernel) (by decide +kernel)
set_option maxRecDepth 20000 in
theorem gX6_slotOf_X6_isSlot : GoodIn wsX6_slotOf (va_wsS RX6 118 yX6_isSlot wsX6_isSlot) := goodIn_app (goodIn_of _ (by decide +kernel)) ggX6_slotOf_X6_isSlot
set_option maxRecDepth 20000 in
theorem ggX6_slotOf_X4_transactionIn : GoodIn wsX6_slotOf wsX4_transactionIn := goodIn_r _ [13, 14, 6, 7, 8, 46, 47, 48, 49, 50, 51, 52, 53, 54, 55, 56, 57] (by decide +kernel) (by decide +kernel)
set_option maxRecDepth 20000 in
theorem gX6_slotOf_X4_transactionIn : GoodIn wsX6_slotOf (wsV RX6 124 RX4 yX4_transactionIn wsX4_transactionIn) := goodIn_app (goodIn_of _ (by decide +kernel)) ggX6_slotOf_X4_transactionIn
set_option maxRecDepth 20000 in
theorem ggX6_slotOf_X1_putsOf : GoodIn wsX6_slotOf wsX1_putsOf := goodIn_r _ [19, 20, 21, 22, 23, 18, 24, 25, 26, 27, 28, 29, 30, 31, 32, 33, 34, 35, 36, 37, 38, 39, 58, 59, 60, 61, 62, 63] (by decide +kernel) (by decide +kernel)
set_option maxRecDepth 20000 in
theorem gX6_slotOf_X1_putsOf : GoodIn wsX6_slotOf (wsV RX6 185 RX1 yX1_putsOf wsX1_putsOf) := goodIn_app (goodIn_of _ (by decide +kernel)) ggX6_slotOf_X1_putsOf
theorem dX6_slotOf_0 : decode cX6_slotOf 0 = .ok (.iload_n 1, 1) := by decide +kernel
theorem dX6_slotOf_1 : decode cX6_slotOf 1 = .ok (.invokestatic 118, 3) := by decide +kernel
theorem dX6_slotOf_4 : decode cX6_slotOf 4 = .ok (.ifCond .eq 12, 3) := by decide +kernel
theorem dX6_slotOf_7 : decode cX6_slotOf 7 = .ok (.iload_n 2, 1) := by decide +kernel
theorem dX6_slotOf_8 : decode cX6_slotOf 8 = .ok (.ifCond .lt 8, 3) := by decide +kernel
theorem dX6_slotOf_11 : decode cX6_slotOf 11 = .ok (.iload_n 2, 1) := by decide +kernel
theorem dX6_slotOf_12 : decode cX6_slotOf 12 = .ok (.iconst 1, 1) := by decide +kernel
theorem dX6_slotOf_13 : decode cX6_slotOf 13 = .ok (.if_icmp .le 6, 3) := by decide +kernel
theorem dX6_slotOf_16 : decode cX6_slotOf 16 = .ok (.ldc 94, 2) := by decide +kernel
theorem dX6_slotOf_18 : decode cX6_slotOf 18 = .ok (.ireturn, 1) := by decide +kernel
theorem dX6_slotOf_19 : decode cX6_slotOf 19 = .ok (.aload_n 0, 1) := by decide +kernel
theorem dX6_slotOf_20 : decode cX6_slotOf 20 = .ok (.getfield 10, 3) := by decide +kernel
theorem dX6_slotOf_23 : decode cX6_slotOf 23 = .ok (.iload_n 1, 1) := by decide +kernel
theorem dX6_slotOf_24 : decode cX6_slotOf 24 = .ok (.invokevirtual 124, 3) := by decide +kernel
theorem dX6_slotOf_27 : decode cX6_slotOf 27 = .ok (.istore_n 3, 1) := by decide +kernel
theorem dX6_slotOf_28 : decode cX6_slotOf 28 = .ok (.iload_n 3, 1) := by decide +kernel
theorem dX6_slotOf_29 : decode cX6_slotOf 29 = .ok (.ifCond .ne 6, 3) := by decide +kernel
theorem dX6_slotOf_32 : decode cX6_slotOf 32 = .ok (.ldc 140, 2) := by decide +kernel
theorem dX6_slotOf_34 : decode cX6_slotOf 34 = .ok (.ireturn, 1) := by decide +kernel
theorem dX6_slotOf_35 : decode cX6_slotOf 35 = .ok (.iload_n 2, 1) := by decide +kernel
theorem dX6_slotOf_36 : decode cX6_slotOf 36 = .ok (.ifCond .ne 7, 3) := by decide +kernel
theorem dX6_slotOf_39 : decode cX6_slotOf 39 = .ok (.iload_n 3, 1) := by decide +kernel
theorem dX6_slotOf_40 : decode cX6_slotOf 40 = .ok (.goto 14, 3) := by decide +kernel
theorem dX6_slotOf_43 : decode cX6_slotOf 43 = .ok (.aload_n 0, 1) := by decide +kernel
theorem dX6_slotOf_44 : decode cX6_slotOf 44 = .ok (.getfield 10, 3) := by decide +kernel
theorem dX6_slotOf_47 : decode cX6_slotOf 47 = .ok (.getfield 105, 3) := by decide +kernel
theorem dX6_slotOf_50 : decode cX6_slotOf 50 = .ok (.iload_n 3, 1) := by decide +kernel
theorem dX6_slotOf_51 : decode cX6_slotOf 51 = .ok (.invokevirtual 185, 3) := by decide +kernel
theorem dX6_slotOf_54 : decode cX6_slotOf 54 = .ok (.ireturn, 1) := by decide +kernel
set_option maxRecDepth 20000 in
theorem ggX6_waits_X6_isStandby : GoodIn wsX6_waits wsX6_isStandby := goodIn_r _ [8] (by decide +kernel) (by decide +kernel)
set_option maxRecDepth 20000 in
theorem gX6_waits_X6_isStandby : GoodIn wsX6_waits (va_wsS RX6 84 yX6_isStandby wsX6_isStandby) := goodIn_app (goodIn_of _ (by decide +kernel)) ggX6_waits_X6_isStandby
set_option maxRecDepth 20000 in
theorem ggX6_waits_X4_isPosition : GoodIn wsX6_waits wsX4_isPosition := goodIn_r _ [13, 14, 15, 65, 66, 67, 68, 69, 70, 71, 72, 73, 74, 75, 76, 77, 78, 79, 80, 81, 82] (by decide +kernel) (by decide +kernel)
set_option maxRecDepth 20000 in
theorem gX6_waits_X4_isPosition : GoodIn wsX6_waits (wsV RX6 91 RX4 yX4_isPosition wsX4_isPosition) := goodIn_app (goodIn_of _ (by decide +kernel)) ggX6_waits_X4_isPosition
set_option maxRecDepth 20000 in
theorem ggX6_waits_X4_standby : GoodIn wsX6_waits wsX4_standby := goodIn_r _ [19, 20, 21, 65, 66, 67, 68, 69, 70, 71, 72, 73, 74, 75, 76] (by decide +kernel) (by decide +kernel)
set_option maxRecDepth 20000 in
theorem gX6_waits_X4_standby : GoodIn wsX6_waits (wsV RX6 95 RX4 yX4_standby wsX4_standby) := goodIn_app (goodIn_of _ (by decide +kernel)) ggX6_waits_X4_standby
set_option maxRecDepth 20000 in
theorem ggX6_waits_X4_ticksUntil : GoodIn wsX6_waits wsX4_ticksUntil := goodIn_r _ [25, 26, 27, 28, 29, 30, 31, 32, 12, 33, 34, 35, 14, 36, 37, 38, 39, 40, 41, 42, 43, 44, 45, 46, 47, 48, 49, 50, 51, 52, 53, 54, 61, 62, 63, 64, 65, 66, 67, 68, 69, 70, 71, 72, 73, 74, 75, 76, 77, 78, 79, 80, 81, 82] (by decide +kernel) (by decide +kernel)
set_option maxRecDepth 20000 in
theorem gX6_waits_X4_ticksUntil : GoodIn wsX6_waits (wsV RX6 188 RX4 yX4_ticksUntil wsX4_ticksUntil) := goodIn_app (goodIn_of _ (by decide +kernel)) ggX6_waits_X4_ticksUntil
theorem dX6_waits_0 : decode cX6_waits 0 = .ok (.iload_n 1, 1) := by decide +kernel
theorem dX6_waits_1 : decode cX6_waits 1 = .ok (.invokestatic 84, 3) := by decide +kernel
theorem dX6_waits_4 : decode cX6_waits 4 = .ok (.ifCond .eq 14, 3) := by decide +kernel
theorem dX6_waits_7 : decode cX6_waits 7 = .ok (.aload_n 0, 1) := by decide +kernel
theorem dX6_waits_8 : decode cX6_waits 8 = .ok (.getfield 10, 3) := by decide +kernel
theorem dX6_waits_11 : decode cX6_waits 11 = .ok (.iload_n 2, 1) := by decide +kernel
theorem dX6_waits_12 : decode cX6_waits 12 = .ok (.invokevirtual 91, 3) := by decide +kernel
theorem dX6_waits_15 : decode cX6_waits 15 = .ok (.ifCond .ne 6, 3) := by decide +kernel
theorem dX6_waits_18 : decode cX6_waits 18 = .ok (.ldc 94, 2) := by decide +kernel
theorem dX6_waits_20 : decode cX6_waits 20 = .ok (.ireturn, 1) := by decide +kernel
theorem dX6_waits_21 : decode cX6_waits 21 = .ok (.aload_n 0, 1) := by decide +kernel
theorem dX6_waits_22 : decode cX6_waits 22 = .ok (.getfield 10, 3) := by decide +kernel
theorem dX6_waits_25 : decode cX6_waits 25 = .ok (.iload_n 1, 1) := by decide +kernel
theorem dX6_waits_26 : decode cX6_waits 26 = .ok (.invokevirtual 95, 3) := by decide +kernel
theorem dX6_waits_29 : decode cX6_waits 29 = .ok (.astore_n 3, 1) := by decide +kernel
theorem dX6_waits_30 : decode cX6_waits 30 = .ok (.aload_n 3, 1) := by decide +kernel
theorem dX6_waits_31 : decode cX6_waits 31 = .ok (.getfield 172, 3) := by decide +kernel
theorem dX6_waits_34 : decode cX6_waits 34 = .ok (.ifCond .eq 8, 3) := by decide +kernel
theorem dX6_waits_37 : decode cX6_waits 37 = .ok (.ldc 104, 2) := by decide +kernel
theorem dX6_waits_39 : decode cX6_waits 39 = .ok (.goto 12, 3) := by decide +kernel
theorem dX6_waits_42 : decode cX6_waits 42 = .ok (.aload_n 0, 1) := by decide +kernel
theorem dX6_waits_43 : decode cX6_waits 43 = .ok (.getfield 10, 3) := by decide +kernel
theorem dX6_waits_46 : decode cX6_waits 46 = .ok (.aload_n 3, 1) := by decide +kernel
theorem dX6_waits_47 : decode cX6_waits 47 = .ok (.iload_n 2, 1) := by decide +kernel
theorem dX6_waits_48 : decode cX6_waits 48 = .ok (.invokevirtual 188, 3) := by decide +kernel
theorem dX6_waits_51 : decode cX6_waits 51 = .ok (.ireturn, 1) := by decide +kernel
set_option maxRecDepth 20000 in
theorem ggX6_wouldLose_X6_isStandby : GoodIn wsX6_wouldLose wsX6_isStandby := goodIn_r _ [10] (by decide +kernel) (by decide +kernel)
set_option maxRecDepth 20000 in
theorem gX6_wouldLose_X6_isStandby : GoodIn wsX6_wouldLose (va_wsS RX6 84 yX6_isStandby wsX6_isStandby) := goodIn_app (goodIn_of _ (by decide +kernel)) ggX6_wouldLose_X6_isStandby
set_option maxRecDepth 20000 in
theorem ggX6_wouldLose_X4_standby : GoodIn wsX6_wouldLose wsX4_standby := goodIn_r _ [15, 16, 17, 44, 45, 46, 47, 48, 49, 50, 51, 52, 53, 54, 55] (by decide +kernel) (by decide +kernel)
set_option maxRecDepth 20000 in
theorem gX6_wouldLose_X4_standby : GoodIn wsX6_wouldLose (wsV RX6 95 RX4 yX4_standby wsX4_standby) := goodIn_app (goodIn_of _ (by decide +kernel)) ggX6_wouldLose_X4_standby
set_option maxRecDepth 20000 in
theorem ggX6_wouldLose_X1_commitsBehind : GoodIn wsX6_wouldLose wsX1_commitsBehind := goodIn_r _ [22, 23, 24, 25, 26, 21, 27, 28, 29, 30, 31, 32, 33, 56, 57, 58, 59, 60, 61] (by decide +kernel) (by decide +kernel)
set_option maxRecDepth 20000 in
theorem gX6_wouldLose_X1_commitsBehind : GoodIn wsX6_wouldLose (wsV RX6 176 RX1 yX1_commitsBehind wsX1_commitsBehind) := goodIn_app (goodIn_of _ (by decide +kernel)) ggX6_wouldLose_X1_commitsBehind
theorem dX6_wouldLose_0 : decode cX6_wouldLose 0 = .ok (.iload_n 1, 1) := by decide +kernel
theorem dX6_wouldLose_1 : decode cX6_wouldLose 1 = .ok (.invokestatic 84, 3) := by decide +kernel
theorem dX6_wouldLose_4 : decode cX6_wouldLose 4 = .ok (.ifCond .ne 6, 3) := by decide +kernel
theorem dX6_wouldLose_7 : decode cX6_wouldLose 7 = .ok (.ldc 94, 2) := by decide +kernel
theorem dX6_wouldLose_9 : decode cX6_wouldLose 9 = .ok (.ireturn, 1) := by decide +kernel
theorem dX6_wouldLose_10 : decode cX6_wouldLose 10 = .ok (.aload_n 0, 1) := by decide +kernel
theorem dX6_wouldLose_11 : decode cX6_wouldLose 11 = .ok (.getfield 10, 3) := by decide +kernel
theorem dX6_wouldLose_14 : decode cX6_wouldLose 14 = .ok (.iload_n 1, 1) := by decide +kernel
theorem dX6_wouldLose_15 : decode cX6_wouldLose 15 = .ok (.invokevirtual 95, 3) := by decide +kernel
theorem dX6_wouldLose_18 : decode cX6_wouldLose 18 = .ok (.astore_n 2, 1) := by decide +kernel
theorem dX6_wouldLose_19 : decode cX6_wouldLose 19 = .ok (.aload_n 2, 1) := by decide +kernel
theorem dX6_wouldLose_20 : decode cX6_wouldLose 20 = .ok (.getfield 172, 3) := by decide +kernel
theorem dX6_wouldLose_23 : decode cX6_wouldLose 23 = .ok (.ifCond .eq 8, 3) := by decide +kernel
theorem dX6_wouldLose_26 : decode cX6_wouldLose 26 = .ok (.ldc 104, 2) := by decide +kernel
theorem dX6_wouldLose_28 : decode cX6_wouldLose 28 = .ok (.goto 17, 3) := by decide +kernel
theorem dX6_wouldLose_31 : decode cX6_wouldLose 31 = .ok (.aload_n 0, 1) := by decide +kernel
theorem dX6_wouldLose_32 : decode cX6_wouldLose 32 = .ok (.getfield 10, 3) := by decide +kernel
theorem dX6_wouldLose_35 : decode cX6_wouldLose 35 = .ok (.getfield 105, 3) := by decide +kernel
theorem dX6_wouldLose_38 : decode cX6_wouldLose 38 = .ok (.aload_n 2, 1) := by decide +kernel
theorem dX6_wouldLose_39 : decode cX6_wouldLose 39 = .ok (.getfield 109, 3) := by decide +kernel
theorem dX6_wouldLose_42 : decode cX6_wouldLose 42 = .ok (.invokevirtual 176, 3) := by decide +kernel
theorem dX6_wouldLose_45 : decode cX6_wouldLose 45 = .ok (.ireturn, 1) := by decide +kernel
set_option maxRecDepth 20000 in
theorem ggX6_rateFor_X6_isStandby : GoodIn wsX6_rateFor wsX6_isStandby := goodIn_r _ [8] (by decide +kernel) (by decide +kernel)
set_option maxRecDepth 20000 in
theorem gX6_rateFor_X6_isStandby : GoodIn wsX6_rateFor (va_wsS RX6 84 yX6_isStandby wsX6_isStandby) := goodIn_app (goodIn_of _ (by decide +kernel)) ggX6_rateFor_X6_isStandby
set_option maxRecDepth 20000 in
theorem ggX6_rateFor_X6_isTicks : GoodIn wsX6_rateFor wsX6_isTicks := goodIn_r _ [11] (by decide +kernel) (by decide +kernel)
set_option maxRecDepth 20000 in
theorem gX6_rateFor_X6_isTicks : GoodIn wsX6_rateFor (va_wsS RX6 192 yX6_isTicks wsX6_isTicks) := goodIn_app (goodIn_of _ (by decide +kernel)) ggX6_rateFor_X6_isTicks
set_option maxRecDepth 20000 in
theorem ggX6_rateFor_X4_standby : GoodIn wsX6_rateFor wsX4_standby := goodIn_r _ [16, 17, 18, 75, 76, 77, 78, 79, 80, 81, 82, 83, 84, 85, 86] (by decide +kernel) (by decide +kernel)
set_option maxRecDepth 20000 in
theorem gX6_rateFor_X4_standby : GoodIn wsX6_rateFor (wsV RX6 95 RX4 yX4_standby wsX4_standby) := goodIn_app (goodIn_of _ (by decide +kernel)) ggX6_rateFor_X4_standby
set_option maxRecDepth 20000 in
theorem ggX6_rateFor_X4_leastRate : GoodIn wsX6_rateFor wsX4_leastRate := goodIn_r _ [22, 23, 24, 25, 26, 27, 28, 29, 30, 31, 32, 33, 34, 35, 36, 37, 15, 38, 39, 40, 41, 42, 43, 44, 45, 46, 47, 48, 49, 50, 51, 52, 53, 54, 55, 56, 57, 58, 59, 60, 61, 62, 63, 64, 71, 72, 73, 74, 75, 76, 77, 78, 79, 80, 81, 82, 83, 84, 85, 86, 87, 88, 89, 90, 91, 92] (by decide +kernel) (by decide +kernel)
set_option maxRecDepth 20000 in
theorem gX6_rateFor_X4_leastRate : GoodIn wsX6_rateFor (wsV RX6 195 RX4 yX4_leastRate wsX4_leastRate) := goodIn_app (goodIn_of _ (by decide +kernel)) ggX6_rateFor_X4_leastRate
theorem dX6_rateFor_0 : decode cX6_rateFor 0 = .ok (.iload_n 1, 1) := by decide +kernel
theorem dX6_rateFor_1 : decode cX6_rateFor 1 = .ok (.invokestatic 84, 3) := by decide +kernel
theorem dX6_rateFor_4 : decode cX6_rateFor 4 = .ok (.ifCond .eq 10, 3) := by decide +kernel
theorem dX6_rateFor_7 : decode cX6_rateFor 7 = .ok (.iload_n 2, 1) := by decide +kernel
theorem dX6_rateFor_8 : decode cX6_rateFor 8 = .ok (.invokestatic 192, 3) := by decide +kernel
theorem dX6_rateFor_11 : decode cX6_rateFor 11 = .ok (.ifCond .ne 6, 3) := by decide +kernel
theorem dX6_rateFor_14 : decode cX6_rateFor 14 = .ok (.ldc 94, 2) := by decide +kernel
theorem dX6_rateFor_16 : decode cX6_rateFor 16 = .ok (.ireturn, 1) := by decide +kernel
theorem dX6_rateFor_17 : decode cX6_rateFor 17 = .ok (.aload_n 0, 1) := by decide +kernel
theorem dX6_rateFor_18 : decode cX6_rateFor 18 = .ok (.getfield 10, 3) := by decide +kernel
theorem dX6_rateFor_21 : decode cX6_rateFor 21 = .ok (.iload_n 1, 1) := by decide +kernel
theorem dX6_rateFor_22 : decode cX6_rateFor 22 = .ok (.invokevirtual 95, 3) := by decide +kernel
theorem dX6_rateFor_25 : decode cX6_rateFor 25 = .ok (.astore_n 3, 1) := by decide +kernel
theorem dX6_rateFor_26 : decode cX6_rateFor 26 = .ok (.aload_n 3, 1) := by decide +kernel
theorem dX6_rateFor_27 : decode cX6_rateFor 27 = .ok (.getfield 172, 3) := by decide +kernel
theorem dX6_rateFor_30 : decode cX6_rateFor 30 = .ok (.ifCond .eq 8, 3) := by decide +kernel
theorem dX6_rateFor_33 : decode cX6_rateFor 33 = .ok (.ldc 104, 2) := by decide +kernel
theorem dX6_rateFor_35 : decode cX6_rateFor 35 = .ok (.goto 12, 3) := by decide +kernel
theorem dX6_rateFor_38 : decode cX6_rateFor 38 = .ok (.aload_n 0, 1) := by decide +kernel
theorem dX6_rateFor_39 : decode cX6_rateFor 39 = .ok (.getfield 10, 3) := by decide +kernel
theorem dX6_rateFor_42 : decode cX6_rateFor 42 = .ok (.aload_n 3, 1) := by decide +kernel
theorem dX6_rateFor_43 : decode cX6_rateFor 43 = .ok (.iload_n 2, 1) := by decide +kernel
theorem dX6_rateFor_44 : decode cX6_rateFor 44 = .ok (.invokevirtual 195, 3) := by decide +kernel
theorem dX6_rateFor_47 : decode cX6_rateFor 47 = .ok (.ireturn, 1) := by decide +kernel
set_option maxRecDepth 20000 in
theorem ggX6_count_X1_commitsBehind : GoodIn wsX6_count wsX1_commitsBehind := goodIn_r _ [21, 22, 23, 24, 25, 20, 26, 27, 28, 29, 30, 31, 32, 51, 52, 53, 54, 55, 56] (by decide +kernel) (by decide +kernel)
set_option maxRecDepth 20000 in
theorem gX6_count_X1_commitsBehind : GoodIn wsX6_count (wsV RX6 176 RX1 yX1_commitsBehind wsX1_commitsBehind) := goodIn_app (goodIn_of _ (by decide +kernel)) ggX6_count_X1_commitsBehind
theorem dX6_count_0 : decode cX6_count 0 = .ok (.iload_n 1, 1) := by decide +kernel
theorem dX6_count_1 : decode cX6_count 1 = .ok (.tableswitch 206 0 21 #[103, 114, 122, 130, 138, 150, 158, 166, 174, 182, 206, 206, 206, 206, 206, 206, 206, 206, 206, 206, 190, 198], 103) := by decide +kernel
theorem dX6_count_104 : decode cX6_count 104 = .ok (.aload_n 0, 1) := by decide +kernel
theorem dX6_count_105 : decode cX6_count 105 = .ok (.getfield 10, 3) := by decide +kernel
theorem dX6_count_108 : decode cX6_count 108 = .ok (.getfield 105, 3) := by decide +kernel
theorem dX6_count_111 : decode cX6_count 111 = .ok (.getfield 121, 3) := by decide +kernel
theorem dX6_count_114 : decode cX6_count 114 = .ok (.ireturn, 1) := by decide +kernel
theorem dX6_count_115 : decode cX6_count 115 = .ok (.aload_n 0, 1) := by decide +kernel
theorem dX6_count_116 : decode cX6_count 116 = .ok (.getfield 10, 3) := by decide +kernel
theorem dX6_count_119 : decode cX6_count 119 = .ok (.getfield 179, 3) := by decide +kernel
theorem dX6_count_122 : decode cX6_count 122 = .ok (.ireturn, 1) := by decide +kernel
theorem dX6_count_123 : decode cX6_count 123 = .ok (.aload_n 0, 1) := by decide +kernel
theorem dX6_count_124 : decode cX6_count 124 = .ok (.getfield 10, 3) := by decide +kernel
theorem dX6_count_127 : decode cX6_count 127 = .ok (.getfield 198, 3) := by decide +kernel
theorem dX6_count_130 : decode cX6_count 130 = .ok (.ireturn, 1) := by decide +kernel
theorem dX6_count_131 : decode cX6_count 131 = .ok (.aload_n 0, 1) := by decide +kernel
theorem dX6_count_132 : decode cX6_count 132 = .ok (.getfield 10, 3) := by decide +kernel
theorem dX6_count_135 : decode cX6_count 135 = .ok (.getfield 201, 3) := by decide +kernel
theorem dX6_count_138 : decode cX6_count 138 = .ok (.ireturn, 1) := by decide +kernel
theorem dX6_count_139 : decode cX6_count 139 = .ok (.aload_n 0, 1) := by decide +kernel
theorem dX6_count_140 : decode cX6_count 140 = .ok (.getfield 10, 3) := by decide +kernel
theorem dX6_count_143 : decode cX6_count 143 = .ok (.getfield 105, 3) := by decide +kernel
theorem dX6_count_146 : decode cX6_count 146 = .ok (.iconst 0, 1) := by decide +kernel
theorem dX6_count_147 : decode cX6_count 147 = .ok (.invokevirtual 176, 3) := by decide +kernel
theorem dX6_count_150 : decode cX6_count 150 = .ok (.ireturn, 1) := by decide +kernel
theorem dX6_count_151 : decode cX6_count 151 = .ok (.aload_n 0, 1) := by decide +kernel
theorem dX6_count_152 : decode cX6_count 152 = .ok (.getfield 10, 3) := by decide +kernel
theorem dX6_count_155 : decode cX6_count 155 = .ok (.getfield 204, 3) := by decide +kernel
theorem dX6_count_158 : decode cX6_count 158 = .ok (.ireturn, 1) := by decide +kernel
theorem dX6_count_159 : decode cX6_count 159 = .ok (.aload_n 0, 1) := by decide +kernel
theorem dX6_count_160 : decode cX6_count 160 = .ok (.getfield 10, 3) := by decide +kernel
theorem dX6_count_163 : decode cX6_count 163 = .ok (.getfield 207, 3) := by decide +kernel
theorem dX6_count_166 : decode cX6_count 166 = .ok (.ireturn, 1) := by decide +kernel
theorem dX6_count_167 : decode cX6_count 167 = .ok (.aload_n 0, 1) := by decide +kernel
theorem dX6_count_168 : decode cX6_count 168 = .ok (.getfield 10, 3) := by decide +kernel
theorem dX6_count_171 : decode cX6_count 171 = .ok (.getfield 210, 3) := by decide +kernel
theorem dX6_count_174 : decode cX6_count 174 = .ok (.ireturn, 1) := by decide +kernel
theorem dX6_count_175 : decode cX6_count 175 = .ok (.aload_n 0, 1) := by decide +kernel
theorem dX6_count_176 : decode cX6_count 176 = .ok (.getfield 19, 3) := by decide +kernel
theorem dX6_count_179 : decode cX6_count 179 = .ok (.getfield 213, 3) := by decide +kernel
theorem dX6_count_182 : decode cX6_count 182 = .ok (.ireturn, 1) := by decide +kernel
theorem dX6_count_183 : decode cX6_count 183 = .ok (.aload_n 0, 1) := by decide +kernel
theorem dX6_count_184 : decode cX6_count 184 = .ok (.getfield 26, 3) := by decide +kernel
theorem dX6_count_187 : decode cX6_count 187 = .ok (.getfield 214, 3) := by decide +kernel
theorem dX6_count_190 : decode cX6_count 190 = .ok (.ireturn, 1) := by decide +kernel
theorem dX6_count_191 : decode cX6_count 191 = .ok (.aload_n 0, 1) := by decide +kernel
theorem dX6_count_192 : decode cX6_count 192 = .ok (.getfield 10, 3) := by decide +kernel
theorem dX6_count_195 : decode cX6_count 195 = .ok (.getfield 217, 3) := by decide +kernel
theorem dX6_count_198 : decode cX6_count 198 = .ok (.ireturn, 1) := by decide +kernel
theorem dX6_count_199 : decode cX6_count 199 = .ok (.aload_n 0, 1) := by decide +kernel
theorem dX6_count_200 : decode cX6_count 200 = .ok (.getfield 10, 3) := by decide +kernel
theorem dX6_count_203 : decode cX6_count 203 = .ok (.getfield 220, 3) := by decide +kernel
theorem dX6_count_206 : decode cX6_count 206 = .ok (.ireturn, 1) := by decide +kernel
theorem dX6_count_207 : decode cX6_count 207 = .ok (.ldc 94, 2) := by decide +kernel
theorem dX6_count_209 : decode cX6_count 209 = .ok (.ireturn, 1) := by decide +kernel
set_option maxRecDepth 20000 in
theorem ggX6_undo_X0_restore : GoodIn wsX6_undo wsX0_restore := goodIn_r _ [9, 10, 11, 12, 13, 14, 15, 16, 17, 18, 19, 20, 21, 22, 23, 24, 25, 26, 27, 28, 29, 30, 31, 32, 33, 34, 35, 36, 37, 38, 39, 40, 41, 42, 43, 44, 45, 46, 47, 48, 49, 50, 51, 52, 53, 54, 55, 56, 57, 58, 59, 60, 61, 68, 69, 70, 71, 72, 73, 74, 75, 76, 77, 78, 79, 80, 81, 82, 83, 84, 85, 86, 87, 88, 89, 90, 91] (by decide +kernel) (by decide +kernel)
set_option maxRecDepth 20000 in
theorem gX6_undo_X0_restore : GoodIn wsX6_undo (wsV RX6 223 RX0 yX0_restore wsX0_restore) := goodIn_app (goodIn_of _ (by decide +kernel)) ggX6_undo_X0_restore
theorem dX6_undo_0 : decode cX6_undo 0 = .ok (.aload_n 0, 1) := by decide +kernel
theorem dX6_undo_1 : decode cX6_undo 1 = .ok (.getfield 19, 3) := by decide +kernel
theorem dX6_undo_4 : decode cX6_undo 4 = .ok (.aload_n 0, 1) := by decide +kernel
theorem dX6_undo_5 : decode cX6_undo 5 = .ok (.getfield 10, 3) := by decide +kernel
theorem dX6_undo_8 : decode cX6_undo 8 = .ok (.invokevirtual 223, 3) := by decide +kernel
theorem dX6_undo_11 : decode cX6_undo 11 = .ok (.ifCond .eq 13, 3) := by decide +kernel
theorem dX6_undo_14 : decode cX6_undo 14 = .ok (.aload_n 0, 1) := by decide +kernel
theorem dX6_undo_15 : decode cX6_undo 15 = .ok (.getfield 19, 3) := by decide +kernel
theorem dX6_undo_18 : decode cX6_undo 18 = .ok (.getfield 213, 3) := by decide +kernel
theorem dX6_undo_21 : decode cX6_undo 21 = .ok (.goto 5, 3) := by decide +kernel
theorem dX6_undo_24 : decode cX6_undo 24 = .ok (.ldc 104, 2) := by decide +kernel
theorem dX6_undo_26 : decode cX6_undo 26 = .ok (.ireturn, 1) := by decide +kernel
set_option maxRecDepth 20000 in
theorem ggX6_type_X2_append : GoodIn wsX6_type wsX2_append := goodIn_r _ [9, 10, 11, 18, 19, 20, 21, 22, 23] (by decide +kernel) (by decide +kernel)
set_option maxRecDepth 20000 in
theorem gX6_type_X2_append : GoodIn wsX6_type (wsV RX6 227 RX2 yX2_append wsX2_append) := goodIn_app (goodIn_of _ (by decide +kernel)) ggX6_type_X2_append
theorem dX6_type_0 : decode cX6_type 0 = .ok (.iload_n 1, 1) := by decide +kernel
theorem dX6_type_1 : decode cX6_type 1 = .ok (.bipush 32, 2) := by decide +kernel
theorem dX6_type_3 : decode cX6_type 3 = .ok (.if_icmp .lt 9, 3) := by decide +kernel
theorem dX6_type_6 : decode cX6_type 6 = .ok (.iload_n 1, 1) := by decide +kernel
theorem dX6_type_7 : decode cX6_type 7 = .ok (.bipush 126, 2) := by decide +kernel
theorem dX6_type_9 : decode cX6_type 9 = .ok (.if_icmp .le 6, 3) := by decide +kernel
theorem dX6_type_12 : decode cX6_type 12 = .ok (.ldc 94, 2) := by decide +kernel
theorem dX6_type_14 : decode cX6_type 14 = .ok (.ireturn, 1) := by decide +kernel
theorem dX6_type_15 : decode cX6_type 15 = .ok (.aload_n 0, 1) := by decide +kernel
theorem dX6_type_16 : decode cX6_type 16 = .ok (.getfield 26, 3) := by decide +kernel
theorem dX6_type_19 : decode cX6_type 19 = .ok (.iload_n 1, 1) := by decide +kernel
theorem dX6_type_20 : decode cX6_type 20 = .ok (.i2c, 1) := by decide +kernel
theorem dX6_type_21 : decode cX6_type 21 = .ok (.invokevirtual 227, 3) := by decide +kernel
theorem dX6_type_24 : decode cX6_type 24 = .ok (.ifCond .eq 13, 3) := by decide +kernel
theorem dX6_type_27 : decode cX6_type 27 = .ok (.aload_n 0, 1) := by decide +kernel
theorem dX6_type_28 : decode cX6_type 28 = .ok (.getfield 26, 3) := by decide +kernel
theorem dX6_type_31 : decode cX6_type 31 = .ok (.getfield 214, 3) := by decide +kernel
theorem dX6_type_34 : decode cX6_type 34 = .ok (.goto 5, 3) := by decide +kernel
theorem dX6_type_37 : decode cX6_type 37 = .ok (.ldc 231, 2) := by decide +kernel
theorem dX6_type_39 : decode cX6_type 39 = .ok (.ireturn, 1) := by decide +kernel
theorem dX6_clearText_0 : decode cX6_clearText 0 = .ok (.aload_n 0, 1) := by decide +kernel
theorem dX6_clearText_1 : decode cX6_clearText 1 = .ok (.getfield 26, 3) := by decide +kernel
theorem dX6_clearText_4 : decode cX6_clearText 4 = .ok (.getfield 214, 3) := by decide +kernel
theorem dX6_clearText_7 : decode cX6_clearText 7 = .ok (.istore_n 1, 1) := by decide +kernel
theorem dX6_clearText_8 : decode cX6_clearText 8 = .ok (.aload_n 0, 1) := by decide +kernel
theorem dX6_clearText_9 : decode cX6_clearText 9 = .ok (.getfield 26, 3) := by decide +kernel
theorem dX6_clearText_12 : decode cX6_clearText 12 = .ok (.iconst 0, 1) := by decide +kernel
theorem dX6_clearText_13 : decode cX6_clearText 13 = .ok (.putfield 214, 3) := by decide +kernel
theorem dX6_clearText_16 : decode cX6_clearText 16 = .ok (.iload_n 1, 1) := by decide +kernel
theorem dX6_clearText_17 : decode cX6_clearText 17 = .ok (.ireturn, 1) := by decide +kernel
set_option maxRecDepth 20000 in
theorem ggX6_fault_X5_run : GoodIn wsX6_fault wsX5_run := goodIn_r _ [13, 14, 15, 16, 17, 18, 19, 20, 21, 22, 23, 24, 25, 26, 27, 28, 29, 30, 31, 32, 33, 34, 35, 36, 37, 38, 39, 40, 41, 42, 43, 44, 45, 46, 47, 48, 49, 50, 51, 52, 53, 54, 55, 56, 57, 58, 59, 60, 61, 62, 63, 64, 65, 66, 67, 68, 69, 70, 71, 72, 73, 74, 75, 76, 77, 78, 79, 80, 81, 82, 83, 84, 85, 86, 87, 88, 89, 90, 91, 92, 93, 94, 95, 96, 97, 98, 99, 100, 101, 102, 103, 104, 105, 106, 107, 108, 109, 110, 111, 112, 113, 114, 115, 116, 117, 118, 119, 120, 121, 122, 123, 124, 125, 126, 127, 128, 129, 130, 131, 132, 133, 134, 135, 136, 137, 138, 139, 140, 141, 142, 143, 144, 145, 146, 147, 148, 149, 150, 151, 152, 153, 154, 155, 12, 156, 157, 158, 159, 160, 161, 162, 163, 164, 165, 166, 167, 168, 169, 170, 171, 172, 173, 174, 175, 176, 177, 178, 179, 180, 181, 182, 183, 184, 185, 186, 187, 188, 189, 190, 191, 192, 193, 194, 195, 196, 197, 198, 199, 200, 201, 202, 203, 204, 205, 206, 207, 208, 209, 210, 211, 212, 213, 214, 215, 216, 217, 218, 219, 220, 221, 222, 223, 224, 225, 226, 227, 234, 235, 236, 237, 238, 239, 240, 241, 242, 243, 244, 245, 246, 247, 248, 249, 250, 251, 252, 253, 254, 255, 256, 257, 258, 259, 260, 261, 262, 263, 264, 265, 266] (by decide +kernel) (by decide +kernel)
set_option maxRecDepth 20000 in
theorem gX6_fault_X5_run : GoodIn wsX6_fault (wsV RX6 232 RX5 yX5_run wsX5_run) := goodIn_app (goodIn_of _ (by decide +kernel)) ggX6_fault_X5_run
theorem dX6_fault_0 : decode cX6_fault 0 = .ok (.iload_n 1, 1) := by decide +kernel
theorem dX6_fault_1 : decode cX6_fault 1 = .ok (.ifCond .lt 8, 3) := by decide +kernel
theorem dX6_fault_4 : decode cX6_fault 4 = .ok (.iload_n 1, 1) := by decide +kernel
theorem dX6_fault_5 : decode cX6_fault 5 = .ok (.iconst 2, 1) := by decide +kernel
theorem dX6_fault_6 : decode cX6_fault 6 = .ok (.if_icmp .le 6, 3) := by decide +kernel
theorem dX6_fault_9 : decode cX6_fault 9 = .ok (.ldc 94, 2) := by decide +kernel
theorem dX6_fault_11 : decode cX6_fault 11 = .ok (.ireturn, 1) := by decide +kernel
theorem dX6_fault_12 : decode cX6_fault 12 = .ok (.aload_n 0, 1) := by decide +kernel
theorem dX6_fault_13 : decode cX6_fault 13 = .ok (.getfield 33, 3) := by decide +kernel
theorem dX6_fault_16 : decode cX6_fault 16 = .ok (.aload_n 0, 1) := by decide +kernel
theorem dX6_fault_17 : decode cX6_fault 17 = .ok (.getfield 26, 3) := by decide +kernel
theorem dX6_fault_20 : decode cX6_fault 20 = .ok (.aload_n 0, 1) := by decide +kernel
theorem dX6_fault_21 : decode cX6_fault 21 = .ok (.getfield 10, 3) := by decide +kernel
theorem dX6_fault_24 : decode cX6_fault 24 = .ok (.invokevirtual 232, 3) := by decide +kernel
theorem dX6_fault_27 : decode cX6_fault 27 = .ok (.aload_n 0, 1) := by decide +kernel
theorem dX6_fault_28 : decode cX6_fault 28 = .ok (.getfield 33, 3) := by decide +kernel
theorem dX6_fault_31 : decode cX6_fault 31 = .ok (.getfield 236, 3) := by decide +kernel
theorem dX6_fault_34 : decode cX6_fault 34 = .ok (.ifCond .ne 6, 3) := by decide +kernel
theorem dX6_fault_37 : decode cX6_fault 37 = .ok (.ldc 140, 2) := by decide +kernel
theorem dX6_fault_39 : decode cX6_fault 39 = .ok (.ireturn, 1) := by decide +kernel
theorem dX6_fault_40 : decode cX6_fault 40 = .ok (.iload_n 1, 1) := by decide +kernel
theorem dX6_fault_41 : decode cX6_fault 41 = .ok (.lookupswitch 43 #[(0, 27), (1, 35)], 27) := by decide +kernel
theorem dX6_fault_68 : decode cX6_fault 68 = .ok (.aload_n 0, 1) := by decide +kernel
theorem dX6_fault_69 : decode cX6_fault 69 = .ok (.getfield 33, 3) := by decide +kernel
theorem dX6_fault_72 : decode cX6_fault 72 = .ok (.getfield 239, 3) := by decide +kernel
theorem dX6_fault_75 : decode cX6_fault 75 = .ok (.ireturn, 1) := by decide +kernel
theorem dX6_fault_76 : decode cX6_fault 76 = .ok (.aload_n 0, 1) := by decide +kernel
theorem dX6_fault_77 : decode cX6_fault 77 = .ok (.getfield 33, 3) := by decide +kernel
theorem dX6_fault_80 : decode cX6_fault 80 = .ok (.getfield 236, 3) := by decide +kernel
theorem dX6_fault_83 : decode cX6_fault 83 = .ok (.ireturn, 1) := by decide +kernel
theorem dX6_fault_84 : decode cX6_fault 84 = .ok (.aload_n 0, 1) := by decide +kernel
theorem dX6_fault_85 : decode cX6_fault 85 = .ok (.getfield 33, 3) := by decide +kernel
theorem dX6_fault_88 : decode cX6_fault 88 = .ok (.getfield 242, 3) := by decide +kernel
theorem dX6_fault_91 : decode cX6_fault 91 = .ok (.ireturn, 1) := by decide +kernel
set_option maxRecDepth 20000 in
theorem ggX6_play_X5_run : GoodIn wsX6_play wsX5_run := goodIn_r _ [13, 14, 15, 16, 17, 18, 19, 20, 21, 22, 23, 24, 25, 26, 27, 28, 29, 30, 31, 32, 33, 34, 35, 36, 37, 38, 39, 40, 41, 42, 43, 44, 45, 46, 47, 48, 49, 50, 51, 52, 53, 54, 55, 56, 57, 58, 59, 60, 61, 62, 63, 64, 65, 66, 67, 68, 69, 70, 71, 72, 73, 74, 75, 76, 77, 78, 79, 80, 81, 82, 83, 84, 85, 86, 87, 88, 89, 90, 91, 92, 93, 94, 95, 96, 97, 98, 99, 100, 101, 102, 103, 104, 105, 106, 107, 108, 109, 110, 111, 112, 113, 114, 115, 116, 117, 118, 119, 120, 121, 122, 123, 124, 125, 126, 127, 128, 129, 130, 131, 132, 133, 134, 135, 136, 137, 138, 139, 140, 141, 142, 143, 144, 145, 146, 147, 148, 149, 150, 151, 152, 153, 154, 155, 12, 156, 157, 158, 159, 160, 161, 162, 163, 164, 165, 166, 167, 168, 169, 170, 171, 172, 173, 174, 175, 176, 177, 178, 179, 180, 181, 182, 183, 184, 185, 186, 187, 188, 189, 190, 191, 192, 193, 194, 195, 196, 197, 198, 199, 200, 201, 202, 203, 204, 205, 206, 207, 208, 209, 210, 211, 212, 213, 214, 215, 216, 217, 218, 219, 220, 221, 222, 223, 224, 225, 226, 227, 251, 252, 253, 254, 255, 256, 257, 258, 259, 260, 261, 262, 263, 264, 265, 266, 267, 268, 269, 270, 271, 272, 273, 274, 275, 276, 277, 278, 279, 280, 281, 282, 283] (by decide +kernel) (by decide +kernel)
set_option maxRecDepth 20000 in
theorem gX6_play_X5_run : GoodIn wsX6_play (wsV RX6 232 RX5 yX5_run wsX5_run) := goodIn_app (goodIn_of _ (by decide +kernel)) ggX6_play_X5_run
set_option maxRecDepth 20000 in
theorem ggX6_play_X0_prepare : GoodIn wsX6_play wsX0_prepare := goodIn_r _ [232, 233, 234, 235, 22, 23, 24, 25, 26, 27, 28, 29, 30, 31, 32, 33, 34, 35, 36, 37, 38, 39, 40, 41, 42, 43, 44, 45, 46, 47, 48, 49, 50, 51, 52, 53, 54, 55, 56, 57, 58, 59, 60, 61, 62, 63, 64, 65, 66, 67, 68, 69, 70, 284, 285, 262, 263, 264, 265, 266, 267, 268, 269, 270, 271, 272, 273, 274, 275, 276, 277, 278, 279, 280, 281, 282, 283] (by decide +kernel) (by decide +kernel)
set_option maxRecDepth 20000 in
theorem gX6_play_X0_prepare : GoodIn wsX6_play (wsV RX6 44 RX0 yX0_prepare wsX0_prepare) := goodIn_app (goodIn_of _ (by decide +kernel)) ggX6_play_X0_prepare
set_option maxRecDepth 20000 in
theorem ggX6_play_X4_copyFrom : GoodIn wsX6_play wsX4_copyFrom := goodIn_r _ [25, 26, 27, 28, 29, 30, 31, 32, 33, 34, 35, 36, 37, 38, 39, 40, 41, 42, 43, 44, 45, 46, 47, 48, 49, 50, 51, 52, 53, 54, 55, 56, 57, 58, 59, 60, 61, 62, 63, 64, 65, 66, 67, 68, 69, 70, 262, 263, 264, 265, 266, 267, 268, 269, 270, 271, 272, 273, 274, 275, 276, 277, 278, 279, 280, 281, 282, 283] (by decide +kernel) (by decide +kernel)
set_option maxRecDepth 20000 in
theorem gX6_play_X4_copyFrom : GoodIn wsX6_play (wsV RX6 246 RX4 yX4_copyFrom wsX4_copyFrom) := goodIn_app (goodIn_of _ (by decide +kernel)) ggX6_play_X4_copyFrom
set_option maxRecDepth 20000 in
theorem ggX6_play_X6_changed : GoodIn wsX6_play wsX6_changed := goodIn_r _ [240, 6, 241, 242, 243, 231, 244, 233, 234, 245, 246, 247, 248, 249, 250, 284, 285] (by decide +kernel) (by decide +kernel)
set_option maxRecDepth 20000 in
theorem gX6_play_X6_changed : GoodIn wsX6_play (wsV RX6 52 RX6 yX6_changed wsX6_changed) := goodIn_app (goodIn_of _ (by decide +kernel)) ggX6_play_X6_changed
theorem dX6_play_0 : decode cX6_play 0 = .ok (.aload_n 0, 1) := by decide +kernel
theorem dX6_play_1 : decode cX6_play 1 = .ok (.getfield 33, 3) := by decide +kernel
theorem dX6_play_4 : decode cX6_play 4 = .ok (.aload_n 0, 1) := by decide +kernel
theorem dX6_play_5 : decode cX6_play 5 = .ok (.getfield 26, 3) := by decide +kernel
theorem dX6_play_8 : decode cX6_play 8 = .ok (.aload_n 0, 1) := by decide +kernel
theorem dX6_play_9 : decode cX6_play 9 = .ok (.getfield 10, 3) := by decide +kernel
theorem dX6_play_12 : decode cX6_play 12 = .ok (.invokevirtual 232, 3) := by decide +kernel
theorem dX6_play_15 : decode cX6_play 15 = .ok (.aload_n 0, 1) := by decide +kernel
theorem dX6_play_16 : decode cX6_play 16 = .ok (.getfield 33, 3) := by decide +kernel
theorem dX6_play_19 : decode cX6_play 19 = .ok (.getfield 236, 3) := by decide +kernel
theorem dX6_play_22 : decode cX6_play 22 = .ok (.ifCond .eq 6, 3) := by decide +kernel
theorem dX6_play_25 : decode cX6_play 25 = .ok (.ldc 104, 2) := by decide +kernel
theorem dX6_play_27 : decode cX6_play 27 = .ok (.ireturn, 1) := by decide +kernel
theorem dX6_play_28 : decode cX6_play 28 = .ok (.aload_n 0, 1) := by decide +kernel
theorem dX6_play_29 : decode cX6_play 29 = .ok (.getfield 19, 3) := by decide +kernel
theorem dX6_play_32 : decode cX6_play 32 = .ok (.aload_n 0, 1) := by decide +kernel
theorem dX6_play_33 : decode cX6_play 33 = .ok (.getfield 10, 3) := by decide +kernel
theorem dX6_play_36 : decode cX6_play 36 = .ok (.invokevirtual 44, 3) := by decide +kernel
theorem dX6_play_39 : decode cX6_play 39 = .ok (.aload_n 0, 1) := by decide +kernel
theorem dX6_play_40 : decode cX6_play 40 = .ok (.getfield 10, 3) := by decide +kernel
theorem dX6_play_43 : decode cX6_play 43 = .ok (.aload_n 0, 1) := by decide +kernel
theorem dX6_play_44 : decode cX6_play 44 = .ok (.getfield 33, 3) := by decide +kernel
theorem dX6_play_47 : decode cX6_play 47 = .ok (.getfield 245, 3) := by decide +kernel
theorem dX6_play_50 : decode cX6_play 50 = .ok (.invokevirtual 246, 3) := by decide +kernel
theorem dX6_play_53 : decode cX6_play 53 = .ok (.aload_n 0, 1) := by decide +kernel
theorem dX6_play_54 : decode cX6_play 54 = .ok (.aload_n 0, 1) := by decide +kernel
theorem dX6_play_55 : decode cX6_play 55 = .ok (.getfield 33, 3) := by decide +kernel
theorem dX6_play_58 : decode cX6_play 58 = .ok (.getfield 249, 3) := by decide +kernel
theorem dX6_play_61 : decode cX6_play 61 = .ok (.invokevirtual 52, 3) := by decide +kernel
theorem dX6_play_64 : decode cX6_play 64 = .ok (.ireturn, 1) := by decide +kernel
set_option maxRecDepth 20000 in
theorem ggX6_changed_X0_keep : GoodIn wsX6_changed wsX0_keep := goodIn_r _ [6, 7, 8, 15, 16] (by decide +kernel) (by decide +kernel)
set_option maxRecDepth 20000 in
theorem gX6_changed_X0_keep : GoodIn wsX6_changed (wsV RX6 252 RX0 yX0_keep wsX0_keep) := goodIn_app (goodIn_of _ (by decide +kernel)) ggX6_changed_X0_keep
theorem dX6_changed_0 : decode cX6_changed 0 = .ok (.iload_n 1, 1) := by decide +kernel
theorem dX6_changed_1 : decode cX6_changed 1 = .ok (.ifCond .lt 10, 3) := by decide +kernel
theorem dX6_changed_4 : decode cX6_changed 4 = .ok (.aload_n 0, 1) := by decide +kernel
theorem dX6_changed_5 : decode cX6_changed 5 = .ok (.getfield 19, 3) := by decide +kernel
theorem dX6_changed_8 : decode cX6_changed 8 = .ok (.invokevirtual 252, 3) := by decide +kernel
theorem dX6_changed_11 : decode cX6_changed 11 = .ok (.iload_n 1, 1) := by decide +kernel
theorem dX6_changed_12 : decode cX6_changed 12 = .ok (.ireturn, 1) := by decide +kernel
set_option maxRecDepth 20000 in
theorem ggX6_keysNotAsAtEnd_X1_fillValues : GoodIn wsX6_keysNotAsAtEnd wsX1_fillValues := goodIn_r _ [10, 11, 12, 13, 9, 14, 15, 16, 17, 18, 19, 20, 21, 22, 23, 24, 25, 26, 27, 28, 29, 30, 31, 32, 33, 34, 35, 36, 37, 38, 39, 40, 41, 42, 43, 44, 45, 46, 47, 66, 67, 68, 69, 70, 71] (by decide +kernel) (by decide +kernel)
set_option maxRecDepth 20000 in
theorem gX6_keysNotAsAtEnd_X1_fillValues : GoodIn wsX6_keysNotAsAtEnd (wsV RX6 255 RX1 yX1_fillValues wsX1_fillValues) := goodIn_app (goodIn_of _ (by decide +kernel)) ggX6_keysNotAsAtEnd_X1_fillValues
theorem dX6_keysNotAsAtEnd_0 : decode cX6_keysNotAsAtEnd 0 = .ok (.aload_n 0, 1) := by decide +kernel
theorem dX6_keysNotAsAtEnd_1 : decode cX6_keysNotAsAtEnd 1 = .ok (.getfield 10, 3) := by decide +kernel
theorem dX6_keysNotAsAtEnd_4 : decode cX6_keysNotAsAtEnd 4 = .ok (.getfield 105, 3) := by decide +kernel
theorem dX6_keysNotAsAtEnd_7 : decode cX6_keysNotAsAtEnd 7 = .ok (.iload_n 1, 1) := by decide +kernel
theorem dX6_keysNotAsAtEnd_8 : decode cX6_keysNotAsAtEnd 8 = .ok (.aload_n 0, 1) := by decide +kernel
theorem dX6_keysNotAsAtEnd_9 : decode cX6_keysNotAsAtEnd 9 = .ok (.getfield 37, 3) := by decide +kernel
theorem dX6_keysNotAsAtEnd_12 : decode cX6_keysNotAsAtEnd 12 = .ok (.invokevirtual 255, 3) := by decide +kernel
theorem dX6_keysNotAsAtEnd_15 : decode cX6_keysNotAsAtEnd 15 = .ok (.aload_n 0, 1) := by decide +kernel
theorem dX6_keysNotAsAtEnd_16 : decode cX6_keysNotAsAtEnd 16 = .ok (.getfield 10, 3) := by decide +kernel
theorem dX6_keysNotAsAtEnd_19 : decode cX6_keysNotAsAtEnd 19 = .ok (.getfield 105, 3) := by decide +kernel
theorem dX6_keysNotAsAtEnd_22 : decode cX6_keysNotAsAtEnd 22 = .ok (.aload_n 0, 1) := by decide +kernel
theorem dX6_keysNotAsAtEnd_23 : decode cX6_keysNotAsAtEnd 23 = .ok (.getfield 10, 3) := by decide +kernel
theorem dX6_keysNotAsAtEnd_26 : decode cX6_keysNotAsAtEnd 26 = .ok (.getfield 105, 3) := by decide +kernel
theorem dX6_keysNotAsAtEnd_29 : decode cX6_keysNotAsAtEnd 29 = .ok (.getfield 121, 3) := by decide +kernel
theorem dX6_keysNotAsAtEnd_32 : decode cX6_keysNotAsAtEnd 32 = .ok (.aload_n 0, 1) := by decide +kernel
theorem dX6_keysNotAsAtEnd_33 : decode cX6_keysNotAsAtEnd 33 = .ok (.getfield 41, 3) := by decide +kernel
theorem dX6_keysNotAsAtEnd_36 : decode cX6_keysNotAsAtEnd 36 = .ok (.invokevirtual 255, 3) := by decide +kernel
theorem dX6_keysNotAsAtEnd_39 : decode cX6_keysNotAsAtEnd 39 = .ok (.iconst 0, 1) := by decide +kernel
theorem dX6_keysNotAsAtEnd_40 : decode cX6_keysNotAsAtEnd 40 = .ok (.istore_n 2, 1) := by decide +kernel
theorem dX6_keysNotAsAtEnd_41 : decode cX6_keysNotAsAtEnd 41 = .ok (.iconst 0, 1) := by decide +kernel
theorem dX6_keysNotAsAtEnd_42 : decode cX6_keysNotAsAtEnd 42 = .ok (.istore_n 3, 1) := by decide +kernel
theorem dX6_keysNotAsAtEnd_43 : decode cX6_keysNotAsAtEnd 43 = .ok (.iload_n 3, 1) := by decide +kernel
theorem dX6_keysNotAsAtEnd_44 : decode cX6_keysNotAsAtEnd 44 = .ok (.bipush 24, 2) := by decide +kernel
theorem dX6_keysNotAsAtEnd_46 : decode cX6_keysNotAsAtEnd 46 = .ok (.if_icmp .ge 27, 3) := by decide +kernel
theorem dX6_keysNotAsAtEnd_49 : decode cX6_keysNotAsAtEnd 49 = .ok (.aload_n 0, 1) := by decide +kernel
theorem dX6_keysNotAsAtEnd_50 : decode cX6_keysNotAsAtEnd 50 = .ok (.getfield 37, 3) := by decide +kernel
theorem dX6_keysNotAsAtEnd_53 : decode cX6_keysNotAsAtEnd 53 = .ok (.iload_n 3, 1) := by decide +kernel
theorem dX6_keysNotAsAtEnd_54 : decode cX6_keysNotAsAtEnd 54 = .ok (.iaload, 1) := by decide +kernel
theorem dX6_keysNotAsAtEnd_55 : decode cX6_keysNotAsAtEnd 55 = .ok (.aload_n 0, 1) := by decide +kernel
theorem dX6_keysNotAsAtEnd_56 : decode cX6_keysNotAsAtEnd 56 = .ok (.getfield 41, 3) := by decide +kernel
theorem dX6_keysNotAsAtEnd_59 : decode cX6_keysNotAsAtEnd 59 = .ok (.iload_n 3, 1) := by decide +kernel
theorem dX6_keysNotAsAtEnd_60 : decode cX6_keysNotAsAtEnd 60 = .ok (.iaload, 1) := by decide +kernel
theorem dX6_keysNotAsAtEnd_61 : decode cX6_keysNotAsAtEnd 61 = .ok (.if_icmp .eq 6, 3) := by decide +kernel
theorem dX6_keysNotAsAtEnd_64 : decode cX6_keysNotAsAtEnd 64 = .ok (.iinc 2 1, 3) := by decide +kernel
theorem dX6_keysNotAsAtEnd_67 : decode cX6_keysNotAsAtEnd 67 = .ok (.iinc 3 1, 3) := by decide +kernel
theorem dX6_keysNotAsAtEnd_70 : decode cX6_keysNotAsAtEnd 70 = .ok (.goto (-27), 3) := by decide +kernel
theorem dX6_keysNotAsAtEnd_73 : decode cX6_keysNotAsAtEnd 73 = .ok (.iload_n 2, 1) := by decide +kernel
theorem dX6_keysNotAsAtEnd_74 : decode cX6_keysNotAsAtEnd 74 = .ok (.ireturn, 1) := by decide +kernel
theorem dX6_found_0 : decode cX6_found 0 = .ok (.iload_n 0, 1) := by decide +kernel
theorem dX6_found_1 : decode cX6_found 1 = .ok (.ifCond .ne 8, 3) := by decide +kernel
theorem dX6_found_4 : decode cX6_found 4 = .ok (.ldc 140, 2) := by decide +kernel
theorem dX6_found_6 : decode cX6_found 6 = .ok (.goto 4, 3) := by decide +kernel
theorem dX6_found_9 : decode cX6_found 9 = .ok (.iload_n 0, 1) := by decide +kernel
theorem dX6_found_10 : decode cX6_found 10 = .ok (.ireturn, 1) := by decide +kernel
theorem dX6_isSlot_0 : decode cX6_isSlot 0 = .ok (.iload_n 0, 1) := by decide +kernel
theorem dX6_isSlot_1 : decode cX6_isSlot 1 = .ok (.ifCond .lt 12, 3) := by decide +kernel
theorem dX6_isSlot_4 : decode cX6_isSlot 4 = .ok (.iload_n 0, 1) := by decide +kernel
theorem dX6_isSlot_5 : decode cX6_isSlot 5 = .ok (.iconst 3, 1) := by decide +kernel
theorem dX6_isSlot_6 : decode cX6_isSlot 6 = .ok (.if_icmp .ge 7, 3) := by decide +kernel
theorem dX6_isSlot_9 : decode cX6_isSlot 9 = .ok (.iconst 1, 1) := by decide +kernel
theorem dX6_isSlot_10 : decode cX6_isSlot 10 = .ok (.goto 4, 3) := by decide +kernel
theorem dX6_isSlot_13 : decode cX6_isSlot 13 = .ok (.iconst 0, 1) := by decide +kernel
theorem dX6_isSlot_14 : decode cX6_isSlot 14 = .ok (.ireturn, 1) := by decide +kernel
theorem dX6_isKey_0 : decode cX6_isKey 0 = .ok (.iload_n 0, 1) := by decide +kernel
theorem dX6_isKey_1 : decode cX6_isKey 1 = .ok (.ifCond .lt 13, 3) := by decide +kernel
theorem dX6_isKey_4 : decode cX6_isKey 4 = .ok (.iload_n 0, 1) := by decide +kernel
theorem dX6_isKey_5 : decode cX6_isKey 5 = .ok (.bipush 24, 2) := by decide +kernel
theorem dX6_isKey_7 : decode cX6_isKey 7 = .ok (.if_icmp .ge 7, 3) := by decide +kernel
theorem dX6_isKey_10 : decode cX6_isKey 10 = .ok (.iconst 1, 1) := by decide +kernel
theorem dX6_isKey_11 : decode cX6_isKey 11 = .ok (.goto 4, 3) := by decide +kernel
theorem dX6_isKey_14 : decode cX6_isKey 14 = .ok (.iconst 0, 1) := by decide +kernel
theorem dX6_isKey_15 : decode cX6_isKey 15 = .ok (.ireturn, 1) := by decide +kernel
theorem dX6_isStandby_0 : decode cX6_isStandby 0 = .ok (.iload_n 0, 1) := by decide +kernel
theorem dX6_isStandby_1 : decode cX6_isStandby 1 = .ok (.ifCond .lt 12, 3) := by decide +kernel
theorem dX6_isStandby_4 : decode cX6_isStandby 4 = .ok (.iload_n 0, 1) := by decide +kernel
theorem dX6_isStandby_5 : decode cX6_isStandby 5 = .ok (.iconst 2, 1) := by decide +kernel
theorem dX6_isStandby_6 : decode cX6_isStandby 6 = .ok (.if_icmp .ge 7, 3) := by decide +kernel
theorem dX6_isStandby_9 : decode cX6_isStandby 9 = .ok (.iconst 1, 1) := by decide +kernel
theorem dX6_isStandby_10 : decode cX6_isStandby 10 = .ok (.goto 4, 3) := by decide +kernel
theorem dX6_isStandby_13 : decode cX6_isStandby 13 = .ok (.iconst 0, 1) := by decide +kernel
theorem dX6_isStandby_14 : decode cX6_isStandby 14 = .ok (.ireturn, 1) := by decide +kernel
theorem dX6_isTicks_0 : decode cX6_isTicks 0 = .ok (.iload_n 0, 1) := by decide +kernel
theorem dX6_isTicks_1 : decode cX6_isTicks 1 = .ok (.iconst 1, 1) := by decide +kernel
theorem dX6_isTicks_2 : decode cX6_isTicks 2 = .ok (.if_icmp .lt 13, 3) := by decide +kernel
theorem dX6_isTicks_5 : decode cX6_isTicks 5 = .ok (.iload_n 0, 1) := by decide +kernel
theorem dX6_isTicks_6 : decode cX6_isTicks 6 = .ok (.bipush 99, 2) := by decide +kernel
theorem dX6_isTicks_8 : decode cX6_isTicks 8 = .ok (.if_icmp .gt 7, 3) := by decide +kernel
theorem dX6_isTicks_11 : decode cX6_isTicks 11 = .ok (.iconst 1, 1) := by decide +kernel
theorem dX6_isTicks_12 : decode cX6_isTicks 12 = .ok (.goto 4, 3) := by decide +kernel
theorem dX6_isTicks_15 : decode cX6_isTicks 15 = .ok (.iconst 0, 1) := by decide +kernel
theorem dX6_isTicks_16 : decode cX6_isTicks 16 = .ok (.ireturn, 1) := by decide +kernel
theorem dX7_init_0 : decode cX7_init 0 = .ok (.aload_n 0, 1) := by decide +kernel
theorem dX7_init_1 : decode cX7_init 1 = .ok (.invokespecial 1, 3) := by decide +kernel
theorem dX7_init_4 : decode cX7_init 4 = .ok (.aload_n 0, 1) := by decide +kernel
theorem dX7_init_5 : decode cX7_init 5 = .ok (.sipush 718, 3) := by decide +kernel
theorem dX7_init_8 : decode cX7_init 8 = .ok (.newarray .int, 2) := by decide +kernel
theorem dX7_init_10 : decode cX7_init 10 = .ok (.putfield 7, 3) := by decide +kernel
theorem dX7_init_13 : decode cX7_init 13 = .ok (.aload_n 0, 1) := by decide +kernel
theorem dX7_init_14 : decode cX7_init 14 = .ok (.sipush 2872, 3) := by decide +kernel
theorem dX7_init_17 : decode cX7_init 17 = .ok (.newarray .int, 2) := by decide +kernel
theorem dX7_init_19 : decode cX7_init 19 = .ok (.putfield 13, 3) := by decide +kernel
theorem dX7_init_22 : decode cX7_init 22 = .ok (.aload_n 0, 1) := by decide +kernel
theorem dX7_init_23 : decode cX7_init 23 = .ok (.sipush 718, 3) := by decide +kernel
theorem dX7_init_26 : decode cX7_init 26 = .ok (.newarray .int, 2) := by decide +kernel
theorem dX7_init_28 : decode cX7_init 28 = .ok (.putfield 16, 3) := by decide +kernel
theorem dX7_init_31 : decode cX7_init 31 = .ok (.aload_n 0, 1) := by decide +kernel
theorem dX7_init_32 : decode cX7_init 32 = .ok (.bipush 60, 2) := by decide +kernel
theorem dX7_init_34 : decode cX7_init 34 = .ok (.newarray .int, 2) := by decide +kernel
theorem dX7_init_36 : decode cX7_init 36 = .ok (.putfield 19, 3) := by decide +kernel
theorem dX7_init_39 : decode cX7_init 39 = .ok (.aload_n 0, 1) := by decide +kernel
theorem dX7_init_40 : decode cX7_init 40 = .ok (.iconst 3, 1) := by decide +kernel
theorem dX7_init_41 : decode cX7_init 41 = .ok (.newarray .int, 2) := by decide +kernel
theorem dX7_init_43 : decode cX7_init 43 = .ok (.putfield 22, 3) := by decide +kernel
theorem dX7_init_46 : decode cX7_init 46 = .ok (.aload_n 0, 1) := by decide +kernel
theorem dX7_init_47 : decode cX7_init 47 = .ok (.getfield 7, 3) := by decide +kernel
theorem dX7_init_50 : decode cX7_init 50 = .ok (.iconst 2, 1) := by decide +kernel
theorem dX7_init_51 : decode cX7_init 51 = .ok (.iconst 1, 1) := by decide +kernel
theorem dX7_init_52 : decode cX7_init 52 = .ok (.iastore, 1) := by decide +kernel
theorem dX7_init_53 : decode cX7_init 53 = .ok (.aload_n 0, 1) := by decide +kernel
theorem dX7_init_54 : decode cX7_init 54 = .ok (.getfield 7, 3) := by decide +kernel
theorem dX7_init_57 : decode cX7_init 57 = .ok (.bipush 7, 2) := by decide +kernel
theorem dX7_init_59 : decode cX7_init 59 = .ok (.iconst 4, 1) := by decide +kernel
theorem dX7_init_60 : decode cX7_init 60 = .ok (.iastore, 1) := by decide +kernel
theorem dX7_init_61 : decode cX7_init 61 = .ok (.aload_n 0, 1) := by decide +kernel
theorem dX7_init_62 : decode cX7_init 62 = .ok (.getfield 7, 3) := by decide +kernel
theorem dX7_init_65 : decode cX7_init 65 = .ok (.bipush 8, 2) := by decide +kernel
theorem dX7_init_67 : decode cX7_init 67 = .ok (.iconst 2, 1) := by decide +kernel
theorem dX7_init_68 : decode cX7_init 68 = .ok (.iastore, 1) := by decide +kernel
theorem dX7_init_69 : decode cX7_init 69 = .ok (.return_, 1) := by decide +kernel
theorem dX7_in_0 : decode cX7_in 0 = .ok (.iload_n 0, 1) := by decide +kernel
theorem dX7_in_1 : decode cX7_in 1 = .ok (.iload_n 1, 1) := by decide +kernel
theorem dX7_in_2 : decode cX7_in 2 = .ok (.if_icmp .lt 12, 3) := by decide +kernel
theorem dX7_in_5 : decode cX7_in 5 = .ok (.iload_n 0, 1) := by decide +kernel
theorem dX7_in_6 : decode cX7_in 6 = .ok (.iload_n 2, 1) := by decide +kernel
theorem dX7_in_7 : decode cX7_in 7 = .ok (.if_icmp .gt 7, 3) := by decide +kernel
theorem dX7_in_10 : decode cX7_in 10 = .ok (.iconst 1, 1) := by decide +kernel
theorem dX7_in_11 : decode cX7_in 11 = .ok (.goto 4, 3) := by decide +kernel
theorem dX7_in_14 : decode cX7_in 14 = .ok (.iconst 0, 1) := by decide +kernel
theorem dX7_in_15 : decode cX7_in 15 = .ok (.ireturn, 1) := by decide +kernel
theorem dX7_copies_0 : decode cX7_copies 0 = .ok (.iconst 0, 1) := by decide +kernel
theorem dX7_copies_1 : decode cX7_copies 1 = .ok (.istore_n 2, 1) := by decide +kernel
theorem dX7_copies_2 : decode cX7_copies 2 = .ok (.iload_n 2, 1) := by decide +kernel
theorem dX7_copies_3 : decode cX7_copies 3 = .ok (.sipush 718, 3) := by decide +kernel
theorem dX7_copies_6 : decode cX7_copies 6 = .ok (.if_icmp .ge 15, 3) := by decide +kernel
theorem dX7_copies_9 : decode cX7_copies 9 = .ok (.aload_n 1, 1) := by decide +kernel
theorem dX7_copies_10 : decode cX7_copies 10 = .ok (.iload_n 2, 1) := by decide +kernel
theorem dX7_copies_11 : decode cX7_copies 11 = .ok (.aload_n 0, 1) := by decide +kernel
theorem dX7_copies_12 : decode cX7_copies 12 = .ok (.iload_n 2, 1) := by decide +kernel
theorem dX7_copies_13 : decode cX7_copies 13 = .ok (.iaload, 1) := by decide +kernel
theorem dX7_copies_14 : decode cX7_copies 14 = .ok (.iastore, 1) := by decide +kernel
theorem dX7_copies_15 : decode cX7_copies 15 = .ok (.iinc 2 1, 3) := by decide +kernel
theorem dX7_copies_18 : decode cX7_copies 18 = .ok (.goto (-16), 3) := by decide +kernel
theorem dX7_copies_21 : decode cX7_copies 21 = .ok (.return_, 1) := by decide +kernel
theorem dX7_changes_0 : decode cX7_changes 0 = .ok (.aload_n 0, 1) := by decide +kernel
theorem dX7_changes_1 : decode cX7_changes 1 = .ok (.getfield 25, 3) := by decide +kernel
theorem dX7_changes_4 : decode cX7_changes 4 = .ok (.ifCond .eq 4, 3) := by decide +kernel
theorem dX7_changes_7 : decode cX7_changes 7 = .ok (.return_, 1) := by decide +kernel
theorem dX7_changes_8 : decode cX7_changes 8 = .ok (.aload_n 0, 1) := by decide +kernel
theorem dX7_changes_9 : decode cX7_changes 9 = .ok (.getfield 29, 3) := by decide +kernel
theorem dX7_changes_12 : decode cX7_changes 12 = .ok (.iconst 4, 1) := by decide +kernel
theorem dX7_changes_13 : decode cX7_changes 13 = .ok (.if_icmp .ne 44, 3) := by decide +kernel
theorem dX7_changes_16 : decode cX7_changes 16 = .ok (.iconst 0, 1) := by decide +kernel
theorem dX7_changes_17 : decode cX7_changes 17 = .ok (.istore_n 1, 1) := by decide +kernel
theorem dX7_changes_18 : decode cX7_changes 18 = .ok (.iload_n 1, 1) := by decide +kernel
theorem dX7_changes_19 : decode cX7_changes 19 = .ok (.sipush 2154, 3) := by decide +kernel
theorem dX7_changes_22 : decode cX7_changes 22 = .ok (.if_icmp .ge 25, 3) := by decide +kernel
theorem dX7_changes_25 : decode cX7_changes 25 = .ok (.aload_n 0, 1) := by decide +kernel
theorem dX7_changes_26 : decode cX7_changes 26 = .ok (.getfield 13, 3) := by decide +kernel
theorem dX7_changes_29 : decode cX7_changes 29 = .ok (.iload_n 1, 1) := by decide +kernel
theorem dX7_changes_30 : decode cX7_changes 30 = .ok (.aload_n 0, 1) := by decide +kernel
theorem dX7_changes_31 : decode cX7_changes 31 = .ok (.getfield 13, 3) := by decide +kernel
theorem dX7_changes_34 : decode cX7_changes 34 = .ok (.iload_n 1, 1) := by decide +kernel
theorem dX7_changes_35 : decode cX7_changes 35 = .ok (.sipush 718, 3) := by decide +kernel
theorem dX7_changes_38 : decode cX7_changes 38 = .ok (.iadd, 1) := by decide +kernel
theorem dX7_changes_39 : decode cX7_changes 39 = .ok (.iaload, 1) := by decide +kernel
theorem dX7_changes_40 : decode cX7_changes 40 = .ok (.iastore, 1) := by decide +kernel
theorem dX7_changes_41 : decode cX7_changes 41 = .ok (.iinc 1 1, 3) := by decide +kernel
theorem dX7_changes_44 : decode cX7_changes 44 = .ok (.goto (-26), 3) := by decide +kernel
theorem dX7_changes_47 : decode cX7_changes 47 = .ok (.aload_n 0, 1) := by decide +kernel
theorem dX7_changes_48 : decode cX7_changes 48 = .ok (.dup, 1) := by decide +kernel
theorem dX7_changes_49 : decode cX7_changes 49 = .ok (.getfield 29, 3) := by decide +kernel
theorem dX7_changes_52 : decode cX7_changes 52 = .ok (.iconst 1, 1) := by decide +kernel
theorem dX7_changes_53 : decode cX7_changes 53 = .ok (.isub, 1) := by decide +kernel
theorem dX7_changes_54 : decode cX7_changes 54 = .ok (.putfield 29, 3) := by decide +kernel
theorem dX7_changes_57 : decode cX7_changes 57 = .ok (.iconst 0, 1) := by decide +kernel
theorem dX7_changes_58 : decode cX7_changes 58 = .ok (.istore_n 1, 1) := by decide +kernel
theorem dX7_changes_59 : decode cX7_changes 59 = .ok (.iload_n 1, 1) := by decide +kernel
theorem dX7_changes_60 : decode cX7_changes 60 = .ok (.sipush 718, 3) := by decide +kernel
theorem dX7_changes_63 : decode cX7_changes 63 = .ok (.if_icmp .ge 30, 3) := by decide +kernel
theorem dX7_changes_66 : decode cX7_changes 66 = .ok (.aload_n 0, 1) := by decide +kernel
theorem dX7_changes_67 : decode cX7_changes 67 = .ok (.getfield 13, 3) := by decide +kernel
theorem dX7_changes_70 : decode cX7_changes 70 = .ok (.sipush 718, 3) := by decide +kernel
theorem dX7_changes_73 : decode cX7_changes 73 = .ok (.aload_n 0, 1) := by decide +kernel
theorem dX7_changes_74 : decode cX7_changes 74 = .ok (.getfield 29, 3) := by decide +kernel
theorem dX7_changes_77 : decode cX7_changes 77 = .ok (.imul, 1) := by decide +kernel
theorem dX7_changes_78 : decode cX7_changes 78 = .ok (.iload_n 1, 1) := by decide +kernel
theorem dX7_changes_79 : decode cX7_changes 79 = .ok (.iadd, 1) := by decide +kernel
theorem dX7_changes_80 : decode cX7_changes 80 = .ok (.aload_n 0, 1) := by decide +kernel
theorem dX7_changes_81 : decode cX7_changes 81 = .ok (.getfield 7, 3) := by decide +kernel
theorem dX7_changes_84 : decode cX7_changes 84 = .ok (.iload_n 1, 1) := by decide +kernel
theorem dX7_changes_85 : decode cX7_changes 85 = .ok (.iaload, 1) := by decide +kernel
theorem dX7_changes_86 : decode cX7_changes 86 = .ok (.iastore, 1) := by decide +kernel
theorem dX7_changes_87 : decode cX7_changes 87 = .ok (.iinc 1 1, 3) := by decide +kernel
theorem dX7_changes_90 : decode cX7_changes 90 = .ok (.goto (-31), 3) := by decide +kernel
theorem dX7_changes_93 : decode cX7_changes 93 = .ok (.aload_n 0, 1) := by decide +kernel
theorem dX7_changes_94 : decode cX7_changes 94 = .ok (.dup, 1) := by decide +kernel
theorem dX7_changes_95 : decode cX7_changes 95 = .ok (.getfield 29, 3) := by decide +kernel
theorem dX7_changes_98 : decode cX7_changes 98 = .ok (.iconst 1, 1) := by decide +kernel
theorem dX7_changes_99 : decode cX7_changes 99 = .ok (.iadd, 1) := by decide +kernel
theorem dX7_changes_100 : decode cX7_changes 100 = .ok (.putfield 29, 3) := by decide +kernel
theorem dX7_changes_103 : decode cX7_changes 103 = .ok (.return_, 1) := by decide +kernel
set_option maxRecDepth 20000 in
theorem ggX7_isSlot_X7_in : GoodIn wsX7_isSlot wsX7_in := goodIn_r _ [4] (by decide +kernel) (by decide +kernel)
set_option maxRecDepth 20000 in
theorem gX7_isSlot_X7_in : GoodIn wsX7_isSlot (va_wsS RX7 33 yX7_in wsX7_in) := goodIn_app (goodIn_of _ (by decide +kernel)) ggX7_isSlot_X7_in
theorem dX7_isSlot_0 : decode cX7_isSlot 0 = .ok (.iload_n 0, 1) := by decide +kernel
theorem dX7_isSlot_1 : decode cX7_isSlot 1 = .ok (.iconst 0, 1) := by decide +kernel
theorem dX7_isSlot_2 : decode cX7_isSlot 2 = .ok (.iconst 2, 1) := by decide +kernel
theorem dX7_isSlot_3 : decode cX7_isSlot 3 = .ok (.invokestatic 33, 3) := by decide +kernel
theorem dX7_isSlot_6 : decode cX7_isSlot 6 = .ok (.ireturn, 1) := by decide +kernel
set_option maxRecDepth 20000 in
theorem ggX7_isKey_X7_in : GoodIn wsX7_isKey wsX7_in := goodIn_r _ [4] (by decide +kernel) (by decide +kernel)
set_option maxRecDepth 20000 in
theorem gX7_isKey_X7_in : GoodIn wsX7_isKey (va_wsS RX7 33 yX7_in wsX7_in) := goodIn_app (goodIn_of _ (by decide +kernel)) ggX7_isKey_X7_in
theorem dX7_isKey_0 : decode cX7_isKey 0 = .ok (.iload_n 0, 1) := by decide +kernel
theorem dX7_isKey_1 : decode cX7_isKey 1 = .ok (.iconst 0, 1) := by decide +kernel
theorem dX7_isKey_2 : decode cX7_isKey 2 = .ok (.bipush 23, 2) := by decide +kernel
theorem dX7_isKey_4 : decode cX7_isKey 4 = .ok (.invokestatic 33, 3) := by decide +kernel
theorem dX7_isKey_7 : decode cX7_isKey 7 = .ok (.ireturn, 1) := by decide +kernel
set_option maxRecDepth 20000 in
theorem ggX7_isStandby_X7_in : GoodIn wsX7_isStandby wsX7_in := goodIn_r _ [4] (by decide +kernel) (by decide +kernel)
set_option maxRecDepth 20000 in
theorem gX7_isStandby_X7_in : GoodIn wsX7_isStandby (va_wsS RX7 33 yX7_in wsX7_in) := goodIn_app (goodIn_of _ (by decide +kernel)) ggX7_isStandby_X7_in
theorem dX7_isStandby_0 : decode cX7_isStandby 0 = .ok (.iload_n 0, 1) := by decide +kernel
theorem dX7_isStandby_1 : decode cX7_isStandby 1 = .ok (.iconst 0, 1) := by decide +kernel
theorem dX7_isStandby_2 : decode cX7_isStandby 2 = .ok (.iconst 1, 1) := by decide +kernel
theorem dX7_isStandby_3 : decode cX7_isStandby 3 = .ok (.invokestatic 33, 3) := by decide +kernel
theorem dX7_isStandby_6 : decode cX7_isStandby 6 = .ok (.ireturn, 1) := by decide +kernel
theorem dX7_ofRecord_0 : decode cX7_ofRecord 0 = .ok (.aload_n 0, 1) := by decide +kernel
theorem dX7_ofRecord_1 : decode cX7_ofRecord 1 = .ok (.getfield 7, 3) := by decide +kernel
theorem dX7_ofRecord_4 : decode cX7_ofRecord 4 = .ok (.sipush 218, 3) := by decide +kernel
theorem dX7_ofRecord_7 : decode cX7_ofRecord 7 = .ok (.iconst 5, 1) := by decide +kernel
theorem dX7_ofRecord_8 : decode cX7_ofRecord 8 = .ok (.iload_n 1, 1) := by decide +kernel
theorem dX7_ofRecord_9 : decode cX7_ofRecord 9 = .ok (.imul, 1) := by decide +kernel
theorem dX7_ofRecord_10 : decode cX7_ofRecord 10 = .ok (.iadd, 1) := by decide +kernel
theorem dX7_ofRecord_11 : decode cX7_ofRecord 11 = .ok (.iconst 5, 1) := by decide +kernel
theorem dX7_ofRecord_12 : decode cX7_ofRecord 12 = .ok (.isub, 1) := by decide +kernel
theorem dX7_ofRecord_13 : decode cX7_ofRecord 13 = .ok (.iload_n 2, 1) := by decide +kernel
theorem dX7_ofRecord_14 : decode cX7_ofRecord 14 = .ok (.iadd, 1) := by decide +kernel
theorem dX7_ofRecord_15 : decode cX7_ofRecord 15 = .ok (.iaload, 1) := by decide +kernel
theorem dX7_ofRecord_16 : decode cX7_ofRecord 16 = .ok (.ireturn, 1) := by decide +kernel
theorem dX7_ofStandby_0 : decode cX7_ofStandby 0 = .ok (.aload_n 0, 1) := by decide +kernel
theorem dX7_ofStandby_1 : decode cX7_ofStandby 1 = .ok (.getfield 7, 3) := by decide +kernel
theorem dX7_ofStandby_4 : decode cX7_ofStandby 4 = .ok (.bipush 12, 2) := by decide +kernel
theorem dX7_ofStandby_6 : decode cX7_ofStandby 6 = .ok (.iconst 3, 1) := by decide +kernel
theorem dX7_ofStandby_7 : decode cX7_ofStandby 7 = .ok (.iload_n 1, 1) := by decide +kernel
theorem dX7_ofStandby_8 : decode cX7_ofStandby 8 = .ok (.imul, 1) := by decide +kernel
theorem dX7_ofStandby_9 : decode cX7_ofStandby 9 = .ok (.iadd, 1) := by decide +kernel
theorem dX7_ofStandby_10 : decode cX7_ofStandby 10 = .ok (.iload_n 2, 1) := by decide +kernel
theorem dX7_ofStandby_11 : decode cX7_ofStandby 11 = .ok (.iadd, 1) := by decide +kernel
theorem dX7_ofStandby_12 : decode cX7_ofStandby 12 = .ok (.iaload, 1) := by decide +kernel
theorem dX7_ofStandby_13 : decode cX7_ofStandby 13 = .ok (.ireturn, 1) := by decide +kernel
theorem dX7_isGap_0 : decode cX7_isGap 0 = .ok (.aload_n 0, 1) := by decide +kernel
theorem dX7_isGap_1 : decode cX7_isGap 1 = .ok (.getfield 7, 3) := by decide +kernel
theorem dX7_isGap_4 : decode cX7_isGap 4 = .ok (.bipush 18, 2) := by decide +kernel
theorem dX7_isGap_6 : decode cX7_isGap 6 = .ok (.bipush 100, 2) := by decide +kernel
theorem dX7_isGap_8 : decode cX7_isGap 8 = .ok (.iload_n 1, 1) := by decide +kernel
theorem dX7_isGap_9 : decode cX7_isGap 9 = .ok (.imul, 1) := by decide +kernel
theorem dX7_isGap_10 : decode cX7_isGap 10 = .ok (.iadd, 1) := by decide +kernel
theorem dX7_isGap_11 : decode cX7_isGap 11 = .ok (.iload_n 2, 1) := by decide +kernel
theorem dX7_isGap_12 : decode cX7_isGap 12 = .ok (.iadd, 1) := by decide +kernel
theorem dX7_isGap_13 : decode cX7_isGap 13 = .ok (.iconst 1, 1) := by decide +kernel
theorem dX7_isGap_14 : decode cX7_isGap 14 = .ok (.isub, 1) := by decide +kernel
theorem dX7_isGap_15 : decode cX7_isGap 15 = .ok (.iaload, 1) := by decide +kernel
theorem dX7_isGap_16 : decode cX7_isGap 16 = .ok (.iconst 1, 1) := by decide +kernel
theorem dX7_isGap_17 : decode cX7_isGap 17 = .ok (.if_icmp .ne 7, 3) := by decide +kernel
theorem dX7_isGap_20 : decode cX7_isGap 20 = .ok (.iconst 1, 1) := by decide +kernel
theorem dX7_isGap_21 : decode cX7_isGap 21 = .ok (.goto 4, 3) := by decide +kernel
theorem dX7_isGap_24 : decode cX7_isGap 24 = .ok (.iconst 0, 1) := by decide +kernel
theorem dX7_isGap_25 : decode cX7_isGap 25 = .ok (.ireturn, 1) := by decide +kernel
set_option maxRecDepth 20000 in
theorem ggX7_open_X7_isSlot : GoodIn wsX7_open wsX7_isSlot := goodIn_r _ [7, 8, 9, 6, 10] (by decide +kernel) (by decide +kernel)
set_option maxRecDepth 20000 in
theorem gX7_open_X7_isSlot : GoodIn wsX7_open (va_wsS RX7 37 yX7_isSlot wsX7_isSlot) := goodIn_app (goodIn_of _ (by decide +kernel)) ggX7_open_X7_isSlot
set_option maxRecDepth 20000 in
theorem ggX7_open_X7_changes : GoodIn wsX7_open wsX7_changes := goodIn_r _ [14, 15, 16, 17, 2, 18, 19, 20, 21, 22, 23, 24, 25, 26, 27, 28, 29, 30, 31] (by decide +kernel) (by decide +kernel)
set_option maxRecDepth 20000 in
theorem gX7_open_X7_changes : GoodIn wsX7_open (wsV RX7 43 RX7 yX7_changes wsX7_changes) := goodIn_app (goodIn_of _ (by decide +kernel)) ggX7_open_X7_changes
theorem dX7_open_0 : decode cX7_open 0 = .ok (.iload_n 1, 1) := by decide +kernel
theorem dX7_open_1 : decode cX7_open 1 = .ok (.invokestatic 37, 3) := by decide +kernel
theorem dX7_open_4 : decode cX7_open 4 = .ok (.ifCond .ne 6, 3) := by decide +kernel
theorem dX7_open_7 : decode cX7_open 7 = .ok (.ldc 41, 2) := by decide +kernel
theorem dX7_open_9 : decode cX7_open 9 = .ok (.ireturn, 1) := by decide +kernel
theorem dX7_open_10 : decode cX7_open 10 = .ok (.aload_n 0, 1) := by decide +kernel
theorem dX7_open_11 : decode cX7_open 11 = .ok (.getfield 7, 3) := by decide +kernel
theorem dX7_open_14 : decode cX7_open 14 = .ok (.bipush 9, 2) := by decide +kernel
theorem dX7_open_16 : decode cX7_open 16 = .ok (.iload_n 1, 1) := by decide +kernel
theorem dX7_open_17 : decode cX7_open 17 = .ok (.iadd, 1) := by decide +kernel
theorem dX7_open_18 : decode cX7_open 18 = .ok (.iaload, 1) := by decide +kernel
theorem dX7_open_19 : decode cX7_open 19 = .ok (.ifCond .le 6, 3) := by decide +kernel
theorem dX7_open_22 : decode cX7_open 22 = .ok (.ldc 42, 2) := by decide +kernel
theorem dX7_open_24 : decode cX7_open 24 = .ok (.ireturn, 1) := by decide +kernel
theorem dX7_open_25 : decode cX7_open 25 = .ok (.aload_n 0, 1) := by decide +kernel
theorem dX7_open_26 : decode cX7_open 26 = .ok (.invokevirtual 43, 3) := by decide +kernel
theorem dX7_open_29 : decode cX7_open 29 = .ok (.aload_n 0, 1) := by decide +kernel
theorem dX7_open_30 : decode cX7_open 30 = .ok (.getfield 7, 3) := by decide +kernel
theorem dX7_open_33 : decode cX7_open 33 = .ok (.iconst 3, 1) := by decide +kernel
theorem dX7_open_34 : decode cX7_open 34 = .ok (.dup2, 1) := by decide +kernel
theorem dX7_open_35 : decode cX7_open 35 = .ok (.iaload, 1) := by decide +kernel
theorem dX7_open_36 : decode cX7_open 36 = .ok (.iconst 1, 1) := by decide +kernel
theorem dX7_open_37 : decode cX7_open 37 = .ok (.iadd, 1) := by decide +kernel
theorem dX7_open_38 : decode cX7_open 38 = .ok (.iastore, 1) := by decide +kernel
theorem dX7_open_39 : decode cX7_open 39 = .ok (.aload_n 0, 1) := by decide +kernel
theorem dX7_open_40 : decode cX7_open 40 = .ok (.getfield 7, 3) := by decide +kernel
theorem dX7_open_43 : decode cX7_open 43 = .ok (.bipush 9, 2) := by decide +kernel
theorem dX7_open_45 : decode cX7_open 45 = .ok (.iload_n 1, 1) := by decide +kernel
theorem dX7_open_46 : decode cX7_open 46 = .ok (.iadd, 1) := by decide +kernel
theorem dX7_open_47 : decode cX7_open 47 = .ok (.aload_n 0, 1) := by decide +kernel
theorem dX7_open_48 : decode cX7_open 48 = .ok (.getfield 7, 3) := by decide +kernel
theorem dX7_open_51 : decode cX7_open 51 = .ok (.iconst 3, 1) := by decide +kernel
theorem dX7_open_52 : decode cX7_open 52 = .ok (.iaload, 1) := by decide +kernel
theorem dX7_open_53 : decode cX7_open 53 = .ok (.iastore, 1) := by decide +kernel
theorem dX7_open_54 : decode cX7_open 54 = .ok (.aload_n 0, 1) := by decide +kernel
theorem dX7_open_55 : decode cX7_open 55 = .ok (.getfield 7, 3) := by decide +kernel
theorem dX7_open_58 : decode cX7_open 58 = .ok (.iconst 3, 1) := by decide +kernel
theorem dX7_open_59 : decode cX7_open 59 = .ok (.iaload, 1) := by decide +kernel
theorem dX7_open_60 : decode cX7_open 60 = .ok (.ireturn, 1) := by decide +kernel
set_option maxRecDepth 20000 in
theorem ggX7_bar_X7_isSlot : GoodIn wsX7_bar wsX7_isSlot := goodIn_r _ [8, 9, 10, 7, 11] (by decide +kernel) (by decide +kernel)
set_option maxRecDepth 20000 in
theorem gX7_bar_X7_isSlot : GoodIn wsX7_bar (va_wsS RX7 37 yX7_isSlot wsX7_isSlot) := goodIn_app (goodIn_of _ (by decide +kernel)) ggX7_bar_X7_isSlot
theorem dX7_bar_0 : decode cX7_bar 0 = .ok (.iload_n 1, 1) := by decide +kernel
theorem dX7_bar_1 : decode cX7_bar 1 = .ok (.invokestatic 37, 3) := by decide +kernel
theorem dX7_bar_4 : decode cX7_bar 4 = .ok (.ifCond .ne 8, 3) := by decide +kernel
theorem dX7_bar_7 : decode cX7_bar 7 = .ok (.ldc 41, 2) := by decide +kernel
theorem dX7_bar_9 : decode cX7_bar 9 = .ok (.goto 37, 3) := by decide +kernel
theorem dX7_bar_12 : decode cX7_bar 12 = .ok (.aload_n 0, 1) := by decide +kernel
theorem dX7_bar_13 : decode cX7_bar 13 = .ok (.getfield 7, 3) := by decide +kernel
theorem dX7_bar_16 : decode cX7_bar 16 = .ok (.bipush 9, 2) := by decide +kernel
theorem dX7_bar_18 : decode cX7_bar 18 = .ok (.iload_n 1, 1) := by decide +kernel
theorem dX7_bar_19 : decode cX7_bar 19 = .ok (.iadd, 1) := by decide +kernel
theorem dX7_bar_20 : decode cX7_bar 20 = .ok (.iaload, 1) := by decide +kernel
theorem dX7_bar_21 : decode cX7_bar 21 = .ok (.ifCond .ne 8, 3) := by decide +kernel
theorem dX7_bar_24 : decode cX7_bar 24 = .ok (.ldc 42, 2) := by decide +kernel
theorem dX7_bar_26 : decode cX7_bar 26 = .ok (.goto 20, 3) := by decide +kernel
theorem dX7_bar_29 : decode cX7_bar 29 = .ok (.aload_n 0, 1) := by decide +kernel
theorem dX7_bar_30 : decode cX7_bar 30 = .ok (.getfield 7, 3) := by decide +kernel
theorem dX7_bar_33 : decode cX7_bar 33 = .ok (.iconst 0, 1) := by decide +kernel
theorem dX7_bar_34 : decode cX7_bar 34 = .ok (.iaload, 1) := by decide +kernel
theorem dX7_bar_35 : decode cX7_bar 35 = .ok (.bipush 100, 2) := by decide +kernel
theorem dX7_bar_37 : decode cX7_bar 37 = .ok (.if_icmp .ne 8, 3) := by decide +kernel
theorem dX7_bar_40 : decode cX7_bar 40 = .ok (.ldc 46, 2) := by decide +kernel
theorem dX7_bar_42 : decode cX7_bar 42 = .ok (.goto 4, 3) := by decide +kernel
theorem dX7_bar_45 : decode cX7_bar 45 = .ok (.iconst 0, 1) := by decide +kernel
theorem dX7_bar_46 : decode cX7_bar 46 = .ok (.ireturn, 1) := by decide +kernel
set_option maxRecDepth 20000 in
theorem ggX7_writes_X7_changes : GoodIn wsX7_writes wsX7_changes := goodIn_r _ [6, 7, 8, 9, 1, 10, 11, 12, 13, 14, 15, 16, 17, 18, 19, 20, 21, 22, 23] (by decide +kernel) (by decide +kernel)
set_option maxRecDepth 20000 in
theorem gX7_writes_X7_changes : GoodIn wsX7_writes (wsV RX7 43 RX7 yX7_changes wsX7_changes) := goodIn_app (goodIn_of _ (by decide +kernel)) ggX7_writes_X7_changes
theorem dX7_writes_0 : decode cX7_writes 0 = .ok (.aload_n 0, 1) := by decide +kernel
theorem dX7_writes_1 : decode cX7_writes 1 = .ok (.invokevirtual 43, 3) := by decide +kernel
theorem dX7_writes_4 : decode cX7_writes 4 = .ok (.aload_n 0, 1) := by decide +kernel
theorem dX7_writes_5 : decode cX7_writes 5 = .ok (.getfield 7, 3) := by decide +kernel
theorem dX7_writes_8 : decode cX7_writes 8 = .ok (.iconst 0, 1) := by decide +kernel
theorem dX7_writes_9 : decode cX7_writes 9 = .ok (.dup2, 1) := by decide +kernel
theorem dX7_writes_10 : decode cX7_writes 10 = .ok (.iaload, 1) := by decide +kernel
theorem dX7_writes_11 : decode cX7_writes 11 = .ok (.iconst 1, 1) := by decide +kernel
theorem dX7_writes_12 : decode cX7_writes 12 = .ok (.iadd, 1) := by decide +kernel
theorem dX7_writes_13 : decode cX7_writes 13 = .ok (.iastore, 1) := by decide +kernel
theorem dX7_writes_14 : decode cX7_writes 14 = .ok (.sipush 218, 3) := by decide +kernel
theorem dX7_writes_17 : decode cX7_writes 17 = .ok (.iconst 5, 1) := by decide +kernel
theorem dX7_writes_18 : decode cX7_writes 18 = .ok (.aload_n 0, 1) := by decide +kernel
theorem dX7_writes_19 : decode cX7_writes 19 = .ok (.getfield 7, 3) := by decide +kernel
theorem dX7_writes_22 : decode cX7_writes 22 = .ok (.iconst 0, 1) := by decide +kernel
theorem dX7_writes_23 : decode cX7_writes 23 = .ok (.iaload, 1) := by decide +kernel
theorem dX7_writes_24 : decode cX7_writes 24 = .ok (.imul, 1) := by decide +kernel
theorem dX7_writes_25 : decode cX7_writes 25 = .ok (.iadd, 1) := by decide +kernel
theorem dX7_writes_26 : decode cX7_writes 26 = .ok (.iconst 5, 1) := by decide +kernel
theorem dX7_writes_27 : decode cX7_writes 27 = .ok (.isub, 1) := by decide +kernel
theorem dX7_writes_28 : decode cX7_writes 28 = .ok (.istore 5, 2) := by decide +kernel
theorem dX7_writes_30 : decode cX7_writes 30 = .ok (.aload_n 0, 1) := by decide +kernel
theorem dX7_writes_31 : decode cX7_writes 31 = .ok (.getfield 7, 3) := by decide +kernel
theorem dX7_writes_34 : decode cX7_writes 34 = .ok (.iload 5, 2) := by decide +kernel
theorem dX7_writes_36 : decode cX7_writes 36 = .ok (.iconst 0, 1) := by decide +kernel
theorem dX7_writes_37 : decode cX7_writes 37 = .ok (.iadd, 1) := by decide +kernel
theorem dX7_writes_38 : decode cX7_writes 38 = .ok (.iload_n 1, 1) := by decide +kernel
theorem dX7_writes_39 : decode cX7_writes 39 = .ok (.iastore, 1) := by decide +kernel
theorem dX7_writes_40 : decode cX7_writes 40 = .ok (.aload_n 0, 1) := by decide +kernel
theorem dX7_writes_41 : decode cX7_writes 41 = .ok (.getfield 7, 3) := by decide +kernel
theorem dX7_writes_44 : decode cX7_writes 44 = .ok (.iload 5, 2) := by decide +kernel
theorem dX7_writes_46 : decode cX7_writes 46 = .ok (.iconst 1, 1) := by decide +kernel
theorem dX7_writes_47 : decode cX7_writes 47 = .ok (.iadd, 1) := by decide +kernel
theorem dX7_writes_48 : decode cX7_writes 48 = .ok (.aload_n 0, 1) := by decide +kernel
theorem dX7_writes_49 : decode cX7_writes 49 = .ok (.getfield 7, 3) := by decide +kernel
theorem dX7_writes_52 : decode cX7_writes 52 = .ok (.bipush 9, 2) := by decide +kernel
theorem dX7_writes_54 : decode cX7_writes 54 = .ok (.iload_n 2, 1) := by decide +kernel
theorem dX7_writes_55 : decode cX7_writes 55 = .ok (.iadd, 1) := by decide +kernel
theorem dX7_writes_56 : decode cX7_writes 56 = .ok (.iaload, 1) := by decide +kernel
theorem dX7_writes_57 : decode cX7_writes 57 = .ok (.iastore, 1) := by decide +kernel
theorem dX7_writes_58 : decode cX7_writes 58 = .ok (.aload_n 0, 1) := by decide +kernel
theorem dX7_writes_59 : decode cX7_writes 59 = .ok (.getfield 7, 3) := by decide +kernel
theorem dX7_writes_62 : decode cX7_writes 62 = .ok (.iload 5, 2) := by decide +kernel
theorem dX7_writes_64 : decode cX7_writes 64 = .ok (.iconst 2, 1) := by decide +kernel
theorem dX7_writes_65 : decode cX7_writes 65 = .ok (.iadd, 1) := by decide +kernel
theorem dX7_writes_66 : decode cX7_writes 66 = .ok (.iload_n 3, 1) := by decide +kernel
theorem dX7_writes_67 : decode cX7_writes 67 = .ok (.iastore, 1) := by decide +kernel
theorem dX7_writes_68 : decode cX7_writes 68 = .ok (.aload_n 0, 1) := by decide +kernel
theorem dX7_writes_69 : decode cX7_writes 69 = .ok (.getfield 7, 3) := by decide +kernel
theorem dX7_writes_72 : decode cX7_writes 72 = .ok (.iload 5, 2) := by decide +kernel
theorem dX7_writes_74 : decode cX7_writes 74 = .ok (.iconst 3, 1) := by decide +kernel
theorem dX7_writes_75 : decode cX7_writes 75 = .ok (.iadd, 1) := by decide +kernel
theorem dX7_writes_76 : decode cX7_writes 76 = .ok (.iload 4, 2) := by decide +kernel
theorem dX7_writes_78 : decode cX7_writes 78 = .ok (.iastore, 1) := by decide +kernel
theorem dX7_writes_79 : decode cX7_writes 79 = .ok (.aload_n 0, 1) := by decide +kernel
theorem dX7_writes_80 : decode cX7_writes 80 = .ok (.getfield 7, 3) := by decide +kernel
theorem dX7_writes_83 : decode cX7_writes 83 = .ok (.iload 5, 2) := by decide +kernel
theorem dX7_writes_85 : decode cX7_writes 85 = .ok (.iconst 4, 1) := by decide +kernel
theorem dX7_writes_86 : decode cX7_writes 86 = .ok (.iadd, 1) := by decide +kernel
theorem dX7_writes_87 : decode cX7_writes 87 = .ok (.aload_n 0, 1) := by decide +kernel
theorem dX7_writes_88 : decode cX7_writes 88 = .ok (.getfield 7, 3) := by decide +kernel
theorem dX7_writes_91 : decode cX7_writes 91 = .ok (.iconst 1, 1) := by decide +kernel
theorem dX7_writes_92 : decode cX7_writes 92 = .ok (.iaload, 1) := by decide +kernel
theorem dX7_writes_93 : decode cX7_writes 93 = .ok (.iastore, 1) := by decide +kernel
theorem dX7_writes_94 : decode cX7_writes 94 = .ok (.aload_n 0, 1) := by decide +kernel
theorem dX7_writes_95 : decode cX7_writes 95 = .ok (.getfield 7, 3) := by decide +kernel
theorem dX7_writes_98 : decode cX7_writes 98 = .ok (.bipush 9, 2) := by decide +kernel
theorem dX7_writes_100 : decode cX7_writes 100 = .ok (.iload_n 2, 1) := by decide +kernel
theorem dX7_writes_101 : decode cX7_writes 101 = .ok (.iadd, 1) := by decide +kernel
theorem dX7_writes_102 : decode cX7_writes 102 = .ok (.iload_n 1, 1) := by decide +kernel
theorem dX7_writes_103 : decode cX7_writes 103 = .ok (.ifCond .ne 15, 3) := by decide +kernel
theorem dX7_writes_106 : decode cX7_writes 106 = .ok (.aload_n 0, 1) := by decide +kernel
theorem dX7_writes_107 : decode cX7_writes 107 = .ok (.getfield 7, 3) := by decide +kernel
theorem dX7_writes_110 : decode cX7_writes 110 = .ok (.bipush 9, 2) := by decide +kernel
theorem dX7_writes_112 : decode cX7_writes 112 = .ok (.iload_n 2, 1) := by decide +kernel
theorem dX7_writes_113 : decode cX7_writes 113 = .ok (.iadd, 1) := by decide +kernel
theorem dX7_writes_114 : decode cX7_writes 114 = .ok (.iaload, 1) := by decide +kernel
theorem dX7_writes_115 : decode cX7_writes 115 = .ok (.goto 4, 3) := by decide +kernel
theorem dX7_writes_118 : decode cX7_writes 118 = .ok (.iconst 0, 1) := by decide +kernel
theorem dX7_writes_119 : decode cX7_writes 119 = .ok (.iastore, 1) := by decide +kernel
theorem dX7_writes_120 : decode cX7_writes 120 = .ok (.aload_n 0, 1) := by decide +kernel
theorem dX7_writes_121 : decode cX7_writes 121 = .ok (.getfield 7, 3) := by decide +kernel
theorem dX7_writes_124 : decode cX7_writes 124 = .ok (.iconst 0, 1) := by decide +kernel
theorem dX7_writes_125 : decode cX7_writes 125 = .ok (.iaload, 1) := by decide +kernel
theorem dX7_writes_126 : decode cX7_writes 126 = .ok (.ireturn, 1) := by decide +kernel
set_option maxRecDepth 20000 in
theorem ggX7_put_X7_isKey : GoodIn wsX7_put wsX7_isKey := goodIn_r _ [5, 6, 7, 4, 8] (by decide +kernel) (by decide +kernel)
set_option maxRecDepth 20000 in
theorem gX7_put_X7_isKey : GoodIn wsX7_put (va_wsS RX7 47 yX7_isKey wsX7_isKey) := goodIn_app (goodIn_of _ (by decide +kernel)) ggX7_put_X7_isKey
set_option maxRecDepth 20000 in
theorem ggX7_put_X7_in : GoodIn wsX7_put wsX7_in := goodIn_r _ [8] (by decide +kernel) (by decide +kernel)
set_option maxRecDepth 20000 in
theorem gX7_put_X7_in : GoodIn wsX7_put (va_wsS RX7 33 yX7_in wsX7_in) := goodIn_app (goodIn_of _ (by decide +kernel)) ggX7_put_X7_in
set_option maxRecDepth 20000 in
theorem ggX7_put_X7_bar : GoodIn wsX7_put wsX7_bar := goodIn_r _ [12, 1, 13, 14, 15, 16, 17, 4, 18, 6, 7, 8, 30, 31, 32, 33, 34, 35, 36, 37, 38, 39, 40, 41, 42, 43] (by decide +kernel) (by decide +kernel)
set_option maxRecDepth 20000 in
theorem gX7_put_X7_bar : GoodIn wsX7_put (wsV RX7 50 RX7 yX7_bar wsX7_bar) := goodIn_app (goodIn_of _ (by decide +kernel)) ggX7_put_X7_bar
set_option maxRecDepth 20000 in
theorem ggX7_put_X7_writes : GoodIn wsX7_put wsX7_writes := goodIn_r _ [22, 13, 23, 24, 25, 4, 26, 27, 28, 29, 30, 31, 32, 33, 34, 35, 36, 37, 38, 39, 40, 41, 42, 43] (by decide +kernel) (by decide +kernel)
set_option maxRecDepth 20000 in
theorem gX7_put_X7_writes : GoodIn wsX7_put (wsV RX7 54 RX7 yX7_writes wsX7_writes) := goodIn_app (goodIn_of _ (by decide +kernel)) ggX7_put_X7_writes
theorem dX7_put_0 : decode cX7_put 0 = .ok (.iload_n 2, 1) := by decide +kernel
theorem dX7_put_1 : decode cX7_put 1 = .ok (.invokestatic 47, 3) := by decide +kernel
theorem dX7_put_4 : decode cX7_put 4 = .ok (.ifCond .eq 14, 3) := by decide +kernel
theorem dX7_put_7 : decode cX7_put 7 = .ok (.iload_n 3, 1) := by decide +kernel
theorem dX7_put_8 : decode cX7_put 8 = .ok (.iconst 0, 1) := by decide +kernel
theorem dX7_put_9 : decode cX7_put 9 = .ok (.sipush 999, 3) := by decide +kernel
theorem dX7_put_12 : decode cX7_put 12 = .ok (.invokestatic 33, 3) := by decide +kernel
theorem dX7_put_15 : decode cX7_put 15 = .ok (.ifCond .ne 6, 3) := by decide +kernel
theorem dX7_put_18 : decode cX7_put 18 = .ok (.ldc 41, 2) := by decide +kernel
theorem dX7_put_20 : decode cX7_put 20 = .ok (.ireturn, 1) := by decide +kernel
theorem dX7_put_21 : decode cX7_put 21 = .ok (.aload_n 0, 1) := by decide +kernel
theorem dX7_put_22 : decode cX7_put 22 = .ok (.iload_n 1, 1) := by decide +kernel
theorem dX7_put_23 : decode cX7_put 23 = .ok (.invokevirtual 50, 3) := by decide +kernel
theorem dX7_put_26 : decode cX7_put 26 = .ok (.istore 4, 2) := by decide +kernel
theorem dX7_put_28 : decode cX7_put 28 = .ok (.iload 4, 2) := by decide +kernel
theorem dX7_put_30 : decode cX7_put 30 = .ok (.ifCond .ge 8, 3) := by decide +kernel
theorem dX7_put_33 : decode cX7_put 33 = .ok (.iload 4, 2) := by decide +kernel
theorem dX7_put_35 : decode cX7_put 35 = .ok (.goto 11, 3) := by decide +kernel
theorem dX7_put_38 : decode cX7_put 38 = .ok (.aload_n 0, 1) := by decide +kernel
theorem dX7_put_39 : decode cX7_put 39 = .ok (.iconst 0, 1) := by decide +kernel
theorem dX7_put_40 : decode cX7_put 40 = .ok (.iload_n 1, 1) := by decide +kernel
theorem dX7_put_41 : decode cX7_put 41 = .ok (.iload_n 2, 1) := by decide +kernel
theorem dX7_put_42 : decode cX7_put 42 = .ok (.iload_n 3, 1) := by decide +kernel
theorem dX7_put_43 : decode cX7_put 43 = .ok (.invokevirtual 54, 3) := by decide +kernel
theorem dX7_put_46 : decode cX7_put 46 = .ok (.ireturn, 1) := by decide +kernel
set_option maxRecDepth 20000 in
theorem ggX7_commit_X7_bar : GoodIn wsX7_commit wsX7_bar := goodIn_r _ [6, 7, 8, 9, 10, 11, 12, 5, 13, 14, 15, 16, 28, 29, 30, 31, 32, 33, 34, 35, 36, 37, 38, 39, 40, 41] (by decide +kernel) (by decide +kernel)
set_option maxRecDepth 20000 in
theorem gX7_commit_X7_bar : GoodIn wsX7_commit (wsV RX7 50 RX7 yX7_bar wsX7_bar) := goodIn_app (goodIn_of _ (by decide +kernel)) ggX7_commit_X7_bar
set_option maxRecDepth 20000 in
theorem ggX7_commit_X7_writes : GoodIn wsX7_commit wsX7_writes := goodIn_r _ [20, 8, 21, 22, 23, 5, 24, 25, 26, 27, 28, 29, 30, 31, 32, 33, 34, 35, 36, 37, 38, 39, 40, 41] (by decide +kernel) (by decide +kernel)
set_option maxRecDepth 20000 in
theorem gX7_commit_X7_writes : GoodIn wsX7_commit (wsV RX7 54 RX7 yX7_writes wsX7_writes) := goodIn_app (goodIn_of _ (by decide +kernel)) ggX7_commit_X7_writes
theorem dX7_commit_0 : decode cX7_commit 0 = .ok (.aload_n 0, 1) := by decide +kernel
theorem dX7_commit_1 : decode cX7_commit 1 = .ok (.iload_n 1, 1) := by decide +kernel
theorem dX7_commit_2 : decode cX7_commit 2 = .ok (.invokevirtual 50, 3) := by decide +kernel
theorem dX7_commit_5 : decode cX7_commit 5 = .ok (.istore_n 2, 1) := by decide +kernel
theorem dX7_commit_6 : decode cX7_commit 6 = .ok (.iload_n 2, 1) := by decide +kernel
theorem dX7_commit_7 : decode cX7_commit 7 = .ok (.ifCond .ge 7, 3) := by decide +kernel
theorem dX7_commit_10 : decode cX7_commit 10 = .ok (.iload_n 2, 1) := by decide +kernel
theorem dX7_commit_11 : decode cX7_commit 11 = .ok (.goto 13, 3) := by decide +kernel
theorem dX7_commit_14 : decode cX7_commit 14 = .ok (.aload_n 0, 1) := by decide +kernel
theorem dX7_commit_15 : decode cX7_commit 15 = .ok (.iconst 1, 1) := by decide +kernel
theorem dX7_commit_16 : decode cX7_commit 16 = .ok (.iload_n 1, 1) := by decide +kernel
theorem dX7_commit_17 : decode cX7_commit 17 = .ok (.ldc 58, 2) := by decide +kernel
theorem dX7_commit_19 : decode cX7_commit 19 = .ok (.ldc 58, 2) := by decide +kernel
theorem dX7_commit_21 : decode cX7_commit 21 = .ok (.invokevirtual 54, 3) := by decide +kernel
theorem dX7_commit_24 : decode cX7_commit 24 = .ok (.ireturn, 1) := by decide +kernel
set_option maxRecDepth 20000 in
theorem ggX7_abort_X7_bar : GoodIn wsX7_abort wsX7_bar := goodIn_r _ [6, 7, 8, 9, 10, 11, 12, 5, 13, 14, 15, 16, 28, 29, 30, 31, 32, 33, 34, 35, 36, 37, 38, 39, 40, 41] (by decide +kernel) (by decide +kernel)
set_option maxRecDepth 20000 in
theorem gX7_abort_X7_bar : GoodIn wsX7_abort (wsV RX7 50 RX7 yX7_bar wsX7_bar) := goodIn_app (goodIn_of _ (by decide +kernel)) ggX7_abort_X7_bar
set_option maxRecDepth 20000 in
theorem ggX7_abort_X7_writes : GoodIn wsX7_abort wsX7_writes := goodIn_r _ [20, 8, 21, 22, 23, 5, 24, 25, 26, 27, 28, 29, 30, 31, 32, 33, 34, 35, 36, 37, 38, 39, 40, 41] (by decide +kernel) (by decide +kernel)
set_option maxRecDepth 20000 in
theorem gX7_abort_X7_writes : GoodIn wsX7_abort (wsV RX7 54 RX7 yX7_writes wsX7_writes) := goodIn_app (goodIn_of _ (by decide +kernel)) ggX7_abort_X7_writes
theorem dX7_abort_0 : decode cX7_abort 0 = .ok (.aload_n 0, 1) := by decide +kernel
theorem dX7_abort_1 : decode cX7_abort 1 = .ok (.iload_n 1, 1) := by decide +kernel
theorem dX7_abort_2 : decode cX7_abort 2 = .ok (.invokevirtual 50, 3) := by decide +kernel
theorem dX7_abort_5 : decode cX7_abort 5 = .ok (.istore_n 2, 1) := by decide +kernel
theorem dX7_abort_6 : decode cX7_abort 6 = .ok (.iload_n 2, 1) := by decide +kernel
theorem dX7_abort_7 : decode cX7_abort 7 = .ok (.ifCond .ge 7, 3) := by decide +kernel
theorem dX7_abort_10 : decode cX7_abort 10 = .ok (.iload_n 2, 1) := by decide +kernel
theorem dX7_abort_11 : decode cX7_abort 11 = .ok (.goto 13, 3) := by decide +kernel
theorem dX7_abort_14 : decode cX7_abort 14 = .ok (.aload_n 0, 1) := by decide +kernel
theorem dX7_abort_15 : decode cX7_abort 15 = .ok (.iconst 2, 1) := by decide +kernel
theorem dX7_abort_16 : decode cX7_abort 16 = .ok (.iload_n 1, 1) := by decide +kernel
theorem dX7_abort_17 : decode cX7_abort 17 = .ok (.ldc 58, 2) := by decide +kernel
theorem dX7_abort_19 : decode cX7_abort 19 = .ok (.ldc 58, 2) := by decide +kernel
theorem dX7_abort_21 : decode cX7_abort 21 = .ok (.invokevirtual 54, 3) := by decide +kernel
theorem dX7_abort_24 : decode cX7_abort 24 = .ok (.ireturn, 1) := by decide +kernel
set_option maxRecDepth 20000 in
theorem ggX7_lastPut_X7_ofRecord : GoodIn wsX7_lastPut wsX7_ofRecord := goodIn_r _ [6, 1, 7, 8, 9, 10, 11, 12, 13, 14, 15, 16, 17, 18, 19, 20] (by decide +kernel) (by decide +kernel)
set_option maxRecDepth 20000 in
theorem gX7_lastPut_X7_ofRecord : GoodIn wsX7_lastPut (wsV RX7 59 RX7 yX7_ofRecord wsX7_ofRecord) := goodIn_app (goodIn_of _ (by decide +kernel)) ggX7_lastPut_X7_ofRecord
theorem dX7_lastPut_0 : decode cX7_lastPut 0 = .ok (.iconst 0, 1) := by decide +kernel
theorem dX7_lastPut_1 : decode cX7_lastPut 1 = .ok (.istore_n 3, 1) := by decide +kernel
theorem dX7_lastPut_2 : decode cX7_lastPut 2 = .ok (.iconst 1, 1) := by decide +kernel
theorem dX7_lastPut_3 : decode cX7_lastPut 3 = .ok (.istore 4, 2) := by decide +kernel
theorem dX7_lastPut_5 : decode cX7_lastPut 5 = .ok (.iload 4, 2) := by decide +kernel
theorem dX7_lastPut_7 : decode cX7_lastPut 7 = .ok (.aload_n 0, 1) := by decide +kernel
theorem dX7_lastPut_8 : decode cX7_lastPut 8 = .ok (.getfield 7, 3) := by decide +kernel
theorem dX7_lastPut_11 : decode cX7_lastPut 11 = .ok (.iconst 0, 1) := by decide +kernel
theorem dX7_lastPut_12 : decode cX7_lastPut 12 = .ok (.iaload, 1) := by decide +kernel
theorem dX7_lastPut_13 : decode cX7_lastPut 13 = .ok (.if_icmp .gt 48, 3) := by decide +kernel
theorem dX7_lastPut_16 : decode cX7_lastPut 16 = .ok (.aload_n 0, 1) := by decide +kernel
theorem dX7_lastPut_17 : decode cX7_lastPut 17 = .ok (.iload 4, 2) := by decide +kernel
theorem dX7_lastPut_19 : decode cX7_lastPut 19 = .ok (.iconst 0, 1) := by decide +kernel
theorem dX7_lastPut_20 : decode cX7_lastPut 20 = .ok (.invokevirtual 59, 3) := by decide +kernel
theorem dX7_lastPut_23 : decode cX7_lastPut 23 = .ok (.ifCond .ne 30, 3) := by decide +kernel
theorem dX7_lastPut_26 : decode cX7_lastPut 26 = .ok (.aload_n 0, 1) := by decide +kernel
theorem dX7_lastPut_27 : decode cX7_lastPut 27 = .ok (.iload 4, 2) := by decide +kernel
theorem dX7_lastPut_29 : decode cX7_lastPut 29 = .ok (.iconst 1, 1) := by decide +kernel
theorem dX7_lastPut_30 : decode cX7_lastPut 30 = .ok (.invokevirtual 59, 3) := by decide +kernel
theorem dX7_lastPut_33 : decode cX7_lastPut 33 = .ok (.iload_n 1, 1) := by decide +kernel
theorem dX7_lastPut_34 : decode cX7_lastPut 34 = .ok (.if_icmp .ne 19, 3) := by decide +kernel
theorem dX7_lastPut_37 : decode cX7_lastPut 37 = .ok (.aload_n 0, 1) := by decide +kernel
theorem dX7_lastPut_38 : decode cX7_lastPut 38 = .ok (.iload 4, 2) := by decide +kernel
theorem dX7_lastPut_40 : decode cX7_lastPut 40 = .ok (.iconst 2, 1) := by decide +kernel
theorem dX7_lastPut_41 : decode cX7_lastPut 41 = .ok (.invokevirtual 59, 3) := by decide +kernel
theorem dX7_lastPut_44 : decode cX7_lastPut 44 = .ok (.iload_n 2, 1) := by decide +kernel
theorem dX7_lastPut_45 : decode cX7_lastPut 45 = .ok (.if_icmp .ne 8, 3) := by decide +kernel
theorem dX7_lastPut_48 : decode cX7_lastPut 48 = .ok (.iload 4, 2) := by decide +kernel
theorem dX7_lastPut_50 : decode cX7_lastPut 50 = .ok (.goto 4, 3) := by decide +kernel
theorem dX7_lastPut_53 : decode cX7_lastPut 53 = .ok (.iload_n 3, 1) := by decide +kernel
theorem dX7_lastPut_54 : decode cX7_lastPut 54 = .ok (.istore_n 3, 1) := by decide +kernel
theorem dX7_lastPut_55 : decode cX7_lastPut 55 = .ok (.iinc 4 1, 3) := by decide +kernel
theorem dX7_lastPut_58 : decode cX7_lastPut 58 = .ok (.goto (-53), 3) := by decide +kernel
theorem dX7_lastPut_61 : decode cX7_lastPut 61 = .ok (.iload_n 3, 1) := by decide +kernel
theorem dX7_lastPut_62 : decode cX7_lastPut 62 = .ok (.ireturn, 1) := by decide +kernel
set_option maxRecDepth 20000 in
theorem ggX7_lastCommit_X7_ofRecord : GoodIn wsX7_lastCommit wsX7_ofRecord := goodIn_r _ [5, 6, 11, 12, 13, 14, 15, 16, 17, 18, 19, 20, 21, 22, 23, 24] (by decide +kernel) (by decide +kernel)
set_option maxRecDepth 20000 in
theorem gX7_lastCommit_X7_ofRecord : GoodIn wsX7_lastCommit (wsV RX7 59 RX7 yX7_ofRecord wsX7_ofRecord) := goodIn_app (goodIn_of _ (by decide +kernel)) ggX7_lastCommit_X7_ofRecord
set_option maxRecDepth 20000 in
theorem ggX7_lastCommit_X7_lastPut : GoodIn wsX7_lastCommit wsX7_lastPut := goodIn_r _ [10, 6, 1, 2, 3, 4, 5, 11, 12, 13, 14, 15, 16, 17, 18, 19, 20, 21, 22, 23, 24] (by decide +kernel) (by decide +kernel)
set_option maxRecDepth 20000 in
theorem gX7_lastCommit_X7_lastPut : GoodIn wsX7_lastCommit (wsV RX7 63 RX7 yX7_lastPut wsX7_lastPut) := goodIn_app (goodIn_of _ (by decide +kernel)) ggX7_lastCommit_X7_lastPut
theorem dX7_lastCommit_0 : decode cX7_lastCommit 0 = .ok (.iload_n 1, 1) := by decide +kernel
theorem dX7_lastCommit_1 : decode cX7_lastCommit 1 = .ok (.istore_n 3, 1) := by decide +kernel
theorem dX7_lastCommit_2 : decode cX7_lastCommit 2 = .ok (.iload_n 3, 1) := by decide +kernel
theorem dX7_lastCommit_3 : decode cX7_lastCommit 3 = .ok (.ifCond .le 35, 3) := by decide +kernel
theorem dX7_lastCommit_6 : decode cX7_lastCommit 6 = .ok (.aload_n 0, 1) := by decide +kernel
theorem dX7_lastCommit_7 : decode cX7_lastCommit 7 = .ok (.iload_n 3, 1) := by decide +kernel
theorem dX7_lastCommit_8 : decode cX7_lastCommit 8 = .ok (.iconst 0, 1) := by decide +kernel
theorem dX7_lastCommit_9 : decode cX7_lastCommit 9 = .ok (.invokevirtual 59, 3) := by decide +kernel
theorem dX7_lastCommit_12 : decode cX7_lastCommit 12 = .ok (.iconst 1, 1) := by decide +kernel
theorem dX7_lastCommit_13 : decode cX7_lastCommit 13 = .ok (.if_icmp .ne 19, 3) := by decide +kernel
theorem dX7_lastCommit_16 : decode cX7_lastCommit 16 = .ok (.aload_n 0, 1) := by decide +kernel
theorem dX7_lastCommit_17 : decode cX7_lastCommit 17 = .ok (.aload_n 0, 1) := by decide +kernel
theorem dX7_lastCommit_18 : decode cX7_lastCommit 18 = .ok (.iload_n 3, 1) := by decide +kernel
theorem dX7_lastCommit_19 : decode cX7_lastCommit 19 = .ok (.iconst 1, 1) := by decide +kernel
theorem dX7_lastCommit_20 : decode cX7_lastCommit 20 = .ok (.invokevirtual 59, 3) := by decide +kernel
theorem dX7_lastCommit_23 : decode cX7_lastCommit 23 = .ok (.iload_n 2, 1) := by decide +kernel
theorem dX7_lastCommit_24 : decode cX7_lastCommit 24 = .ok (.invokevirtual 63, 3) := by decide +kernel
theorem dX7_lastCommit_27 : decode cX7_lastCommit 27 = .ok (.ifCond .le 5, 3) := by decide +kernel
theorem dX7_lastCommit_30 : decode cX7_lastCommit 30 = .ok (.iload_n 3, 1) := by decide +kernel
theorem dX7_lastCommit_31 : decode cX7_lastCommit 31 = .ok (.ireturn, 1) := by decide +kernel
theorem dX7_lastCommit_32 : decode cX7_lastCommit 32 = .ok (.iinc 3 (-1), 3) := by decide +kernel
theorem dX7_lastCommit_35 : decode cX7_lastCommit 35 = .ok (.goto (-33), 3) := by decide +kernel
theorem dX7_lastCommit_38 : decode cX7_lastCommit 38 = .ok (.iconst 0, 1) := by decide +kernel
theorem dX7_lastCommit_39 : decode cX7_lastCommit 39 = .ok (.ireturn, 1) := by decide +kernel
set_option maxRecDepth 20000 in
theorem ggX7_valueAt_X7_lastCommit : GoodIn wsX7_valueAt wsX7_lastCommit := goodIn_r _ [5, 6, 7, 8, 4, 9, 10, 11, 12, 13, 14, 15, 16, 17, 18, 19, 20, 21, 22, 23, 24, 25, 26, 27, 28] (by decide +kernel) (by decide +kernel)
set_option maxRecDepth 20000 in
theorem gX7_valueAt_X7_lastCommit : GoodIn wsX7_valueAt (wsV RX7 66 RX7 yX7_lastCommit wsX7_lastCommit) := goodIn_app (goodIn_of _ (by decide +kernel)) ggX7_valueAt_X7_lastCommit
set_option maxRecDepth 20000 in
theorem ggX7_valueAt_X7_ofRecord : GoodIn wsX7_valueAt wsX7_ofRecord := goodIn_r _ [9, 10, 15, 16, 17, 18, 19, 20, 21, 22, 23, 24, 25, 26, 27, 28] (by decide +kernel) (by decide +kernel)
set_option maxRecDepth 20000 in
theorem gX7_valueAt_X7_ofRecord : GoodIn wsX7_valueAt (wsV RX7 59 RX7 yX7_ofRecord wsX7_ofRecord) := goodIn_app (goodIn_of _ (by decide +kernel)) ggX7_valueAt_X7_ofRecord
set_option maxRecDepth 20000 in
theorem ggX7_valueAt_X7_lastPut : GoodIn wsX7_valueAt wsX7_lastPut := goodIn_r _ [14, 10, 6, 7, 8, 4, 9, 15, 16, 17, 18, 19, 20, 21, 22, 23, 24, 25, 26, 27, 28] (by decide +kernel) (by decide +kernel)
set_option maxRecDepth 20000 in
theorem gX7_valueAt_X7_lastPut : GoodIn wsX7_valueAt (wsV RX7 63 RX7 yX7_lastPut wsX7_lastPut) := goodIn_app (goodIn_of _ (by decide +kernel)) ggX7_valueAt_X7_lastPut
theorem dX7_valueAt_0 : decode cX7_valueAt 0 = .ok (.aload_n 0, 1) := by decide +kernel
theorem dX7_valueAt_1 : decode cX7_valueAt 1 = .ok (.iload_n 1, 1) := by decide +kernel
theorem dX7_valueAt_2 : decode cX7_valueAt 2 = .ok (.iload_n 2, 1) := by decide +kernel
theorem dX7_valueAt_3 : decode cX7_valueAt 3 = .ok (.invokevirtual 66, 3) := by decide +kernel
theorem dX7_valueAt_6 : decode cX7_valueAt 6 = .ok (.istore_n 3, 1) := by decide +kernel
theorem dX7_valueAt_7 : decode cX7_valueAt 7 = .ok (.iload_n 3, 1) := by decide +kernel
theorem dX7_valueAt_8 : decode cX7_valueAt 8 = .ok (.ifCond .ne 7, 3) := by decide +kernel
theorem dX7_valueAt_11 : decode cX7_valueAt 11 = .ok (.iconst 0, 1) := by decide +kernel
theorem dX7_valueAt_12 : decode cX7_valueAt 12 = .ok (.goto 19, 3) := by decide +kernel
theorem dX7_valueAt_15 : decode cX7_valueAt 15 = .ok (.aload_n 0, 1) := by decide +kernel
theorem dX7_valueAt_16 : decode cX7_valueAt 16 = .ok (.aload_n 0, 1) := by decide +kernel
theorem dX7_valueAt_17 : decode cX7_valueAt 17 = .ok (.aload_n 0, 1) := by decide +kernel
theorem dX7_valueAt_18 : decode cX7_valueAt 18 = .ok (.iload_n 3, 1) := by decide +kernel
theorem dX7_valueAt_19 : decode cX7_valueAt 19 = .ok (.iconst 1, 1) := by decide +kernel
theorem dX7_valueAt_20 : decode cX7_valueAt 20 = .ok (.invokevirtual 59, 3) := by decide +kernel
theorem dX7_valueAt_23 : decode cX7_valueAt 23 = .ok (.iload_n 2, 1) := by decide +kernel
theorem dX7_valueAt_24 : decode cX7_valueAt 24 = .ok (.invokevirtual 63, 3) := by decide +kernel
theorem dX7_valueAt_27 : decode cX7_valueAt 27 = .ok (.iconst 3, 1) := by decide +kernel
theorem dX7_valueAt_28 : decode cX7_valueAt 28 = .ok (.invokevirtual 59, 3) := by decide +kernel
theorem dX7_valueAt_31 : decode cX7_valueAt 31 = .ok (.ireturn, 1) := by decide +kernel
set_option maxRecDepth 20000 in
theorem ggX7_commits_X7_ofRecord : GoodIn wsX7_commits wsX7_ofRecord := goodIn_r _ [5, 6, 7, 8, 9, 10, 11, 12, 13, 14, 15, 16, 17, 18, 19, 20] (by decide +kernel) (by decide +kernel)
set_option maxRecDepth 20000 in
theorem gX7_commits_X7_ofRecord : GoodIn wsX7_commits (wsV RX7 59 RX7 yX7_ofRecord wsX7_ofRecord) := goodIn_app (goodIn_of _ (by decide +kernel)) ggX7_commits_X7_ofRecord
theorem dX7_commits_0 : decode cX7_commits 0 = .ok (.iconst 0, 1) := by decide +kernel
theorem dX7_commits_1 : decode cX7_commits 1 = .ok (.istore_n 3, 1) := by decide +kernel
theorem dX7_commits_2 : decode cX7_commits 2 = .ok (.iload_n 1, 1) := by decide +kernel
theorem dX7_commits_3 : decode cX7_commits 3 = .ok (.istore 4, 2) := by decide +kernel
theorem dX7_commits_5 : decode cX7_commits 5 = .ok (.iload 4, 2) := by decide +kernel
theorem dX7_commits_7 : decode cX7_commits 7 = .ok (.iload_n 2, 1) := by decide +kernel
theorem dX7_commits_8 : decode cX7_commits 8 = .ok (.if_icmp .gt 28, 3) := by decide +kernel
theorem dX7_commits_11 : decode cX7_commits 11 = .ok (.iload_n 3, 1) := by decide +kernel
theorem dX7_commits_12 : decode cX7_commits 12 = .ok (.aload_n 0, 1) := by decide +kernel
theorem dX7_commits_13 : decode cX7_commits 13 = .ok (.iload 4, 2) := by decide +kernel
theorem dX7_commits_15 : decode cX7_commits 15 = .ok (.iconst 0, 1) := by decide +kernel
theorem dX7_commits_16 : decode cX7_commits 16 = .ok (.invokevirtual 59, 3) := by decide +kernel
theorem dX7_commits_19 : decode cX7_commits 19 = .ok (.iconst 1, 1) := by decide +kernel
theorem dX7_commits_20 : decode cX7_commits 20 = .ok (.if_icmp .ne 7, 3) := by decide +kernel
theorem dX7_commits_23 : decode cX7_commits 23 = .ok (.iconst 1, 1) := by decide +kernel
theorem dX7_commits_24 : decode cX7_commits 24 = .ok (.goto 4, 3) := by decide +kernel
theorem dX7_commits_27 : decode cX7_commits 27 = .ok (.iconst 0, 1) := by decide +kernel
theorem dX7_commits_28 : decode cX7_commits 28 = .ok (.iadd, 1) := by decide +kernel
theorem dX7_commits_29 : decode cX7_commits 29 = .ok (.istore_n 3, 1) := by decide +kernel
theorem dX7_commits_30 : decode cX7_commits 30 = .ok (.iinc 4 1, 3) := by decide +kernel
theorem dX7_commits_33 : decode cX7_commits 33 = .ok (.goto (-28), 3) := by decide +kernel
theorem dX7_commits_36 : decode cX7_commits 36 = .ok (.iload_n 3, 1) := by decide +kernel
theorem dX7_commits_37 : decode cX7_commits 37 = .ok (.ireturn, 1) := by decide +kernel
set_option maxRecDepth 20000 in
theorem ggX7_ship_X7_isStandby : GoodIn wsX7_ship wsX7_isStandby := goodIn_r _ [7, 8, 9, 6, 10] (by decide +kernel) (by decide +kernel)
set_option maxRecDepth 20000 in
theorem gX7_ship_X7_isStandby : GoodIn wsX7_ship (va_wsS RX7 69 yX7_isStandby wsX7_isStandby) := goodIn_app (goodIn_of _ (by decide +kernel)) ggX7_ship_X7_isStandby
set_option maxRecDepth 20000 in
theorem ggX7_ship_X7_in : GoodIn wsX7_ship wsX7_in := goodIn_r _ [10] (by decide +kernel) (by decide +kernel)
set_option maxRecDepth 20000 in
theorem gX7_ship_X7_in : GoodIn wsX7_ship (va_wsS RX7 33 yX7_in wsX7_in) := goodIn_app (goodIn_of _ (by decide +kernel)) ggX7_ship_X7_in
set_option maxRecDepth 20000 in
theorem ggX7_ship_X7_ofStandby : GoodIn wsX7_ship wsX7_ofStandby := goodIn_r _ [14, 3, 22, 23, 24, 25, 26, 27, 28, 29, 30, 31, 32, 33, 34, 35] (by decide +kernel) (by decide +kernel)
set_option maxRecDepth 20000 in
theorem gX7_ship_X7_ofStandby : GoodIn wsX7_ship (wsV RX7 72 RX7 yX7_ofStandby wsX7_ofStandby) := goodIn_app (goodIn_of _ (by decide +kernel)) ggX7_ship_X7_ofStandby
set_option maxRecDepth 20000 in
theorem ggX7_ship_X7_changes : GoodIn wsX7_ship wsX7_changes := goodIn_r _ [18, 19, 20, 21, 3, 22, 23, 24, 25, 26, 27, 28, 29, 30, 31, 32, 33, 34, 35] (by decide +kernel) (by decide +kernel)
set_option maxRecDepth 20000 in
theorem gX7_ship_X7_changes : GoodIn wsX7_ship (wsV RX7 43 RX7 yX7_changes wsX7_changes) := goodIn_app (goodIn_of _ (by decide +kernel)) ggX7_ship_X7_changes
theorem dX7_ship_0 : decode cX7_ship 0 = .ok (.iload_n 1, 1) := by decide +kernel
theorem dX7_ship_1 : decode cX7_ship 1 = .ok (.invokestatic 69, 3) := by decide +kernel
theorem dX7_ship_4 : decode cX7_ship 4 = .ok (.ifCond .eq 13, 3) := by decide +kernel
theorem dX7_ship_7 : decode cX7_ship 7 = .ok (.iload_n 2, 1) := by decide +kernel
theorem dX7_ship_8 : decode cX7_ship 8 = .ok (.iconst 1, 1) := by decide +kernel
theorem dX7_ship_9 : decode cX7_ship 9 = .ok (.bipush 20, 2) := by decide +kernel
theorem dX7_ship_11 : decode cX7_ship 11 = .ok (.invokestatic 33, 3) := by decide +kernel
theorem dX7_ship_14 : decode cX7_ship 14 = .ok (.ifCond .ne 6, 3) := by decide +kernel
theorem dX7_ship_17 : decode cX7_ship 17 = .ok (.ldc 41, 2) := by decide +kernel
theorem dX7_ship_19 : decode cX7_ship 19 = .ok (.ireturn, 1) := by decide +kernel
theorem dX7_ship_20 : decode cX7_ship 20 = .ok (.aload_n 0, 1) := by decide +kernel
theorem dX7_ship_21 : decode cX7_ship 21 = .ok (.iload_n 1, 1) := by decide +kernel
theorem dX7_ship_22 : decode cX7_ship 22 = .ok (.iconst 2, 1) := by decide +kernel
theorem dX7_ship_23 : decode cX7_ship 23 = .ok (.invokevirtual 72, 3) := by decide +kernel
theorem dX7_ship_26 : decode cX7_ship 26 = .ok (.iconst 1, 1) := by decide +kernel
theorem dX7_ship_27 : decode cX7_ship 27 = .ok (.if_icmp .ne 6, 3) := by decide +kernel
theorem dX7_ship_30 : decode cX7_ship 30 = .ok (.ldc 42, 2) := by decide +kernel
theorem dX7_ship_32 : decode cX7_ship 32 = .ok (.ireturn, 1) := by decide +kernel
theorem dX7_ship_33 : decode cX7_ship 33 = .ok (.aload_n 0, 1) := by decide +kernel
theorem dX7_ship_34 : decode cX7_ship 34 = .ok (.invokevirtual 43, 3) := by decide +kernel
theorem dX7_ship_37 : decode cX7_ship 37 = .ok (.aload_n 0, 1) := by decide +kernel
theorem dX7_ship_38 : decode cX7_ship 38 = .ok (.getfield 7, 3) := by decide +kernel
theorem dX7_ship_41 : decode cX7_ship 41 = .ok (.iconst 0, 1) := by decide +kernel
theorem dX7_ship_42 : decode cX7_ship 42 = .ok (.iaload, 1) := by decide +kernel
theorem dX7_ship_43 : decode cX7_ship 43 = .ok (.aload_n 0, 1) := by decide +kernel
theorem dX7_ship_44 : decode cX7_ship 44 = .ok (.iload_n 1, 1) := by decide +kernel
theorem dX7_ship_45 : decode cX7_ship 45 = .ok (.iconst 0, 1) := by decide +kernel
theorem dX7_ship_46 : decode cX7_ship 46 = .ok (.invokevirtual 72, 3) := by decide +kernel
theorem dX7_ship_49 : decode cX7_ship 49 = .ok (.isub, 1) := by decide +kernel
theorem dX7_ship_50 : decode cX7_ship 50 = .ok (.istore_n 3, 1) := by decide +kernel
theorem dX7_ship_51 : decode cX7_ship 51 = .ok (.iload_n 3, 1) := by decide +kernel
theorem dX7_ship_52 : decode cX7_ship 52 = .ok (.iload_n 2, 1) := by decide +kernel
theorem dX7_ship_53 : decode cX7_ship 53 = .ok (.if_icmp .ge 7, 3) := by decide +kernel
theorem dX7_ship_56 : decode cX7_ship 56 = .ok (.iload_n 3, 1) := by decide +kernel
theorem dX7_ship_57 : decode cX7_ship 57 = .ok (.goto 4, 3) := by decide +kernel
theorem dX7_ship_60 : decode cX7_ship 60 = .ok (.iload_n 2, 1) := by decide +kernel
theorem dX7_ship_61 : decode cX7_ship 61 = .ok (.istore 4, 2) := by decide +kernel
theorem dX7_ship_63 : decode cX7_ship 63 = .ok (.aload_n 0, 1) := by decide +kernel
theorem dX7_ship_64 : decode cX7_ship 64 = .ok (.getfield 7, 3) := by decide +kernel
theorem dX7_ship_67 : decode cX7_ship 67 = .ok (.bipush 12, 2) := by decide +kernel
theorem dX7_ship_69 : decode cX7_ship 69 = .ok (.iconst 3, 1) := by decide +kernel
theorem dX7_ship_70 : decode cX7_ship 70 = .ok (.iload_n 1, 1) := by decide +kernel
theorem dX7_ship_71 : decode cX7_ship 71 = .ok (.imul, 1) := by decide +kernel
theorem dX7_ship_72 : decode cX7_ship 72 = .ok (.iadd, 1) := by decide +kernel
theorem dX7_ship_73 : decode cX7_ship 73 = .ok (.iconst 0, 1) := by decide +kernel
theorem dX7_ship_74 : decode cX7_ship 74 = .ok (.iadd, 1) := by decide +kernel
theorem dX7_ship_75 : decode cX7_ship 75 = .ok (.dup2, 1) := by decide +kernel
theorem dX7_ship_76 : decode cX7_ship 76 = .ok (.iaload, 1) := by decide +kernel
theorem dX7_ship_77 : decode cX7_ship 77 = .ok (.iload 4, 2) := by decide +kernel
theorem dX7_ship_79 : decode cX7_ship 79 = .ok (.iadd, 1) := by decide +kernel
theorem dX7_ship_80 : decode cX7_ship 80 = .ok (.iastore, 1) := by decide +kernel
theorem dX7_ship_81 : decode cX7_ship 81 = .ok (.iload 4, 2) := by decide +kernel
theorem dX7_ship_83 : decode cX7_ship 83 = .ok (.ireturn, 1) := by decide +kernel
set_option maxRecDepth 20000 in
theorem ggX7_gaps_X7_isGap : GoodIn wsX7_gaps wsX7_isGap := goodIn_r _ [5, 6, 7, 8, 9, 10, 11, 12, 13, 14, 15, 16, 17, 18, 19, 20] (by decide +kernel) (by decide +kernel)
set_option maxRecDepth 20000 in
theorem gX7_gaps_X7_isGap : GoodIn wsX7_gaps (wsV RX7 75 RX7 yX7_isGap wsX7_isGap) := goodIn_app (goodIn_of _ (by decide +kernel)) ggX7_gaps_X7_isGap
theorem dX7_gaps_0 : decode cX7_gaps 0 = .ok (.iconst 0, 1) := by decide +kernel
theorem dX7_gaps_1 : decode cX7_gaps 1 = .ok (.istore_n 2, 1) := by decide +kernel
theorem dX7_gaps_2 : decode cX7_gaps 2 = .ok (.iconst 1, 1) := by decide +kernel
theorem dX7_gaps_3 : decode cX7_gaps 3 = .ok (.istore_n 3, 1) := by decide +kernel
theorem dX7_gaps_4 : decode cX7_gaps 4 = .ok (.iload_n 3, 1) := by decide +kernel
theorem dX7_gaps_5 : decode cX7_gaps 5 = .ok (.bipush 100, 2) := by decide +kernel
theorem dX7_gaps_7 : decode cX7_gaps 7 = .ok (.if_icmp .gt 26, 3) := by decide +kernel
theorem dX7_gaps_10 : decode cX7_gaps 10 = .ok (.iload_n 2, 1) := by decide +kernel
theorem dX7_gaps_11 : decode cX7_gaps 11 = .ok (.aload_n 0, 1) := by decide +kernel
theorem dX7_gaps_12 : decode cX7_gaps 12 = .ok (.iload_n 1, 1) := by decide +kernel
theorem dX7_gaps_13 : decode cX7_gaps 13 = .ok (.iload_n 3, 1) := by decide +kernel
theorem dX7_gaps_14 : decode cX7_gaps 14 = .ok (.invokevirtual 75, 3) := by decide +kernel
theorem dX7_gaps_17 : decode cX7_gaps 17 = .ok (.ifCond .eq 7, 3) := by decide +kernel
theorem dX7_gaps_20 : decode cX7_gaps 20 = .ok (.iconst 1, 1) := by decide +kernel
theorem dX7_gaps_21 : decode cX7_gaps 21 = .ok (.goto 4, 3) := by decide +kernel
theorem dX7_gaps_24 : decode cX7_gaps 24 = .ok (.iconst 0, 1) := by decide +kernel
theorem dX7_gaps_25 : decode cX7_gaps 25 = .ok (.iadd, 1) := by decide +kernel
theorem dX7_gaps_26 : decode cX7_gaps 26 = .ok (.istore_n 2, 1) := by decide +kernel
theorem dX7_gaps_27 : decode cX7_gaps 27 = .ok (.iinc 3 1, 3) := by decide +kernel
theorem dX7_gaps_30 : decode cX7_gaps 30 = .ok (.goto (-26), 3) := by decide +kernel
theorem dX7_gaps_33 : decode cX7_gaps 33 = .ok (.iload_n 2, 1) := by decide +kernel
theorem dX7_gaps_34 : decode cX7_gaps 34 = .ok (.ireturn, 1) := by decide +kernel
set_option maxRecDepth 20000 in
theorem ggX7_lowestGap_X7_isGap : GoodIn wsX7_lowestGap wsX7_isGap := goodIn_r _ [6, 7, 8, 9, 10, 11, 12, 13, 14, 15, 16, 17, 18, 19, 20, 21] (by decide +kernel) (by decide +kernel)
set_option maxRecDepth 20000 in
theorem gX7_lowestGap_X7_isGap : GoodIn wsX7_lowestGap (wsV RX7 75 RX7 yX7_isGap wsX7_isGap) := goodIn_app (goodIn_of _ (by decide +kernel)) ggX7_lowestGap_X7_isGap
theorem dX7_lowestGap_0 : decode cX7_lowestGap 0 = .ok (.iconst 1, 1) := by decide +kernel
theorem dX7_lowestGap_1 : decode cX7_lowestGap 1 = .ok (.istore_n 2, 1) := by decide +kernel
theorem dX7_lowestGap_2 : decode cX7_lowestGap 2 = .ok (.iload_n 2, 1) := by decide +kernel
theorem dX7_lowestGap_3 : decode cX7_lowestGap 3 = .ok (.bipush 100, 2) := by decide +kernel
theorem dX7_lowestGap_5 : decode cX7_lowestGap 5 = .ok (.if_icmp .gt 20, 3) := by decide +kernel
theorem dX7_lowestGap_8 : decode cX7_lowestGap 8 = .ok (.aload_n 0, 1) := by decide +kernel
theorem dX7_lowestGap_9 : decode cX7_lowestGap 9 = .ok (.iload_n 1, 1) := by decide +kernel
theorem dX7_lowestGap_10 : decode cX7_lowestGap 10 = .ok (.iload_n 2, 1) := by decide +kernel
theorem dX7_lowestGap_11 : decode cX7_lowestGap 11 = .ok (.invokevirtual 75, 3) := by decide +kernel
theorem dX7_lowestGap_14 : decode cX7_lowestGap 14 = .ok (.ifCond .eq 5, 3) := by decide +kernel
theorem dX7_lowestGap_17 : decode cX7_lowestGap 17 = .ok (.iload_n 2, 1) := by decide +kernel
theorem dX7_lowestGap_18 : decode cX7_lowestGap 18 = .ok (.ireturn, 1) := by decide +kernel
theorem dX7_lowestGap_19 : decode cX7_lowestGap 19 = .ok (.iinc 2 1, 3) := by decide +kernel
theorem dX7_lowestGap_22 : decode cX7_lowestGap 22 = .ok (.goto (-20), 3) := by decide +kernel
theorem dX7_lowestGap_25 : decode cX7_lowestGap 25 = .ok (.ldc 58, 2) := by decide +kernel
theorem dX7_lowestGap_27 : decode cX7_lowestGap 27 = .ok (.ireturn, 1) := by decide +kernel
theorem dX7_fillsGaps_0 : decode cX7_fillsGaps 0 = .ok (.iload_n 2, 1) := by decide +kernel
theorem dX7_fillsGaps_1 : decode cX7_fillsGaps 1 = .ok (.iconst 1, 1) := by decide +kernel
theorem dX7_fillsGaps_2 : decode cX7_fillsGaps 2 = .ok (.iadd, 1) := by decide +kernel
theorem dX7_fillsGaps_3 : decode cX7_fillsGaps 3 = .ok (.istore_n 3, 1) := by decide +kernel
theorem dX7_fillsGaps_4 : decode cX7_fillsGaps 4 = .ok (.iload_n 3, 1) := by decide +kernel
theorem dX7_fillsGaps_5 : decode cX7_fillsGaps 5 = .ok (.bipush 100, 2) := by decide +kernel
theorem dX7_fillsGaps_7 : decode cX7_fillsGaps 7 = .ok (.if_icmp .gt 26, 3) := by decide +kernel
theorem dX7_fillsGaps_10 : decode cX7_fillsGaps 10 = .ok (.aload_n 0, 1) := by decide +kernel
theorem dX7_fillsGaps_11 : decode cX7_fillsGaps 11 = .ok (.getfield 7, 3) := by decide +kernel
theorem dX7_fillsGaps_14 : decode cX7_fillsGaps 14 = .ok (.bipush 18, 2) := by decide +kernel
theorem dX7_fillsGaps_16 : decode cX7_fillsGaps 16 = .ok (.bipush 100, 2) := by decide +kernel
theorem dX7_fillsGaps_18 : decode cX7_fillsGaps 18 = .ok (.iload_n 1, 1) := by decide +kernel
theorem dX7_fillsGaps_19 : decode cX7_fillsGaps 19 = .ok (.imul, 1) := by decide +kernel
theorem dX7_fillsGaps_20 : decode cX7_fillsGaps 20 = .ok (.iadd, 1) := by decide +kernel
theorem dX7_fillsGaps_21 : decode cX7_fillsGaps 21 = .ok (.iload_n 3, 1) := by decide +kernel
theorem dX7_fillsGaps_22 : decode cX7_fillsGaps 22 = .ok (.iadd, 1) := by decide +kernel
theorem dX7_fillsGaps_23 : decode cX7_fillsGaps 23 = .ok (.iconst 1, 1) := by decide +kernel
theorem dX7_fillsGaps_24 : decode cX7_fillsGaps 24 = .ok (.isub, 1) := by decide +kernel
theorem dX7_fillsGaps_25 : decode cX7_fillsGaps 25 = .ok (.iconst 0, 1) := by decide +kernel
theorem dX7_fillsGaps_26 : decode cX7_fillsGaps 26 = .ok (.iastore, 1) := by decide +kernel
theorem dX7_fillsGaps_27 : decode cX7_fillsGaps 27 = .ok (.iinc 3 1, 3) := by decide +kernel
theorem dX7_fillsGaps_30 : decode cX7_fillsGaps 30 = .ok (.goto (-26), 3) := by decide +kernel
theorem dX7_fillsGaps_33 : decode cX7_fillsGaps 33 = .ok (.return_, 1) := by decide +kernel
set_option maxRecDepth 20000 in
theorem ggX7_lose_X7_isStandby : GoodIn wsX7_lose wsX7_isStandby := goodIn_r _ [7, 8, 9, 6, 10] (by decide +kernel) (by decide +kernel)
set_option maxRecDepth 20000 in
theorem gX7_lose_X7_isStandby : GoodIn wsX7_lose (va_wsS RX7 69 yX7_isStandby wsX7_isStandby) := goodIn_app (goodIn_of _ (by decide +kernel)) ggX7_lose_X7_isStandby
set_option maxRecDepth 20000 in
theorem ggX7_lose_X7_ofStandby : GoodIn wsX7_lose wsX7_ofStandby := goodIn_r _ [14, 3, 30, 31, 32, 33, 34, 35, 36, 37, 38, 39, 40, 41, 42, 43] (by decide +kernel) (by decide +kernel)
set_option maxRecDepth 20000 in
theorem gX7_lose_X7_ofStandby : GoodIn wsX7_lose (wsV RX7 72 RX7 yX7_ofStandby wsX7_ofStandby) := goodIn_app (goodIn_of _ (by decide +kernel)) ggX7_lose_X7_ofStandby
set_option maxRecDepth 20000 in
theorem ggX7_lose_X7_isGap : GoodIn wsX7_lose wsX7_isGap := goodIn_r _ [18, 3, 30, 31, 32, 33, 34, 35, 36, 37, 38, 39, 40, 41, 42, 43] (by decide +kernel) (by decide +kernel)
set_option maxRecDepth 20000 in
theorem gX7_lose_X7_isGap : GoodIn wsX7_lose (wsV RX7 75 RX7 yX7_isGap wsX7_isGap) := goodIn_app (goodIn_of _ (by decide +kernel)) ggX7_lose_X7_isGap
set_option maxRecDepth 20000 in
theorem ggX7_lose_X7_changes : GoodIn wsX7_lose wsX7_changes := goodIn_r _ [22, 23, 24, 25, 3, 30, 31, 32, 33, 34, 35, 36, 37, 38, 39, 40, 41, 42, 43] (by decide +kernel) (by decide +kernel)
set_option maxRecDepth 20000 in
theorem gX7_lose_X7_changes : GoodIn wsX7_lose (wsV RX7 43 RX7 yX7_changes wsX7_changes) := goodIn_app (goodIn_of _ (by decide +kernel)) ggX7_lose_X7_changes
set_option maxRecDepth 20000 in
theorem ggX7_lose_X7_gaps : GoodIn wsX7_lose wsX7_gaps := goodIn_r _ [29, 15, 16, 17, 6, 18, 3, 30, 31, 32, 33, 34, 35, 36, 37, 38, 39, 40, 41, 42, 43] (by decide +kernel) (by decide +kernel)
set_option maxRecDepth 20000 in
theorem gX7_lose_X7_gaps : GoodIn wsX7_lose (wsV RX7 79 RX7 yX7_gaps wsX7_gaps) := goodIn_app (goodIn_of _ (by decide +kernel)) ggX7_lose_X7_gaps
theorem dX7_lose_0 : decode cX7_lose 0 = .ok (.iload_n 1, 1) := by decide +kernel
theorem dX7_lose_1 : decode cX7_lose 1 = .ok (.invokestatic 69, 3) := by decide +kernel
theorem dX7_lose_4 : decode cX7_lose 4 = .ok (.ifCond .eq 8, 3) := by decide +kernel
theorem dX7_lose_7 : decode cX7_lose 7 = .ok (.iload_n 2, 1) := by decide +kernel
theorem dX7_lose_8 : decode cX7_lose 8 = .ok (.iconst 1, 1) := by decide +kernel
theorem dX7_lose_9 : decode cX7_lose 9 = .ok (.if_icmp .ge 6, 3) := by decide +kernel
theorem dX7_lose_12 : decode cX7_lose 12 = .ok (.ldc 41, 2) := by decide +kernel
theorem dX7_lose_14 : decode cX7_lose 14 = .ok (.ireturn, 1) := by decide +kernel
theorem dX7_lose_15 : decode cX7_lose 15 = .ok (.aload_n 0, 1) := by decide +kernel
theorem dX7_lose_16 : decode cX7_lose 16 = .ok (.iload_n 1, 1) := by decide +kernel
theorem dX7_lose_17 : decode cX7_lose 17 = .ok (.iconst 2, 1) := by decide +kernel
theorem dX7_lose_18 : decode cX7_lose 18 = .ok (.invokevirtual 72, 3) := by decide +kernel
theorem dX7_lose_21 : decode cX7_lose 21 = .ok (.iconst 1, 1) := by decide +kernel
theorem dX7_lose_22 : decode cX7_lose 22 = .ok (.if_icmp .eq 32, 3) := by decide +kernel
theorem dX7_lose_25 : decode cX7_lose 25 = .ok (.iload_n 2, 1) := by decide +kernel
theorem dX7_lose_26 : decode cX7_lose 26 = .ok (.aload_n 0, 1) := by decide +kernel
theorem dX7_lose_27 : decode cX7_lose 27 = .ok (.iload_n 1, 1) := by decide +kernel
theorem dX7_lose_28 : decode cX7_lose 28 = .ok (.iconst 0, 1) := by decide +kernel
theorem dX7_lose_29 : decode cX7_lose 29 = .ok (.invokevirtual 72, 3) := by decide +kernel
theorem dX7_lose_32 : decode cX7_lose 32 = .ok (.if_icmp .gt 22, 3) := by decide +kernel
theorem dX7_lose_35 : decode cX7_lose 35 = .ok (.iload_n 2, 1) := by decide +kernel
theorem dX7_lose_36 : decode cX7_lose 36 = .ok (.aload_n 0, 1) := by decide +kernel
theorem dX7_lose_37 : decode cX7_lose 37 = .ok (.iload_n 1, 1) := by decide +kernel
theorem dX7_lose_38 : decode cX7_lose 38 = .ok (.iconst 1, 1) := by decide +kernel
theorem dX7_lose_39 : decode cX7_lose 39 = .ok (.invokevirtual 72, 3) := by decide +kernel
theorem dX7_lose_42 : decode cX7_lose 42 = .ok (.if_icmp .le 12, 3) := by decide +kernel
theorem dX7_lose_45 : decode cX7_lose 45 = .ok (.aload_n 0, 1) := by decide +kernel
theorem dX7_lose_46 : decode cX7_lose 46 = .ok (.iload_n 1, 1) := by decide +kernel
theorem dX7_lose_47 : decode cX7_lose 47 = .ok (.iload_n 2, 1) := by decide +kernel
theorem dX7_lose_48 : decode cX7_lose 48 = .ok (.invokevirtual 75, 3) := by decide +kernel
theorem dX7_lose_51 : decode cX7_lose 51 = .ok (.ifCond .eq 6, 3) := by decide +kernel
theorem dX7_lose_54 : decode cX7_lose 54 = .ok (.ldc 42, 2) := by decide +kernel
theorem dX7_lose_56 : decode cX7_lose 56 = .ok (.ireturn, 1) := by decide +kernel
theorem dX7_lose_57 : decode cX7_lose 57 = .ok (.aload_n 0, 1) := by decide +kernel
theorem dX7_lose_58 : decode cX7_lose 58 = .ok (.invokevirtual 43, 3) := by decide +kernel
theorem dX7_lose_61 : decode cX7_lose 61 = .ok (.aload_n 0, 1) := by decide +kernel
theorem dX7_lose_62 : decode cX7_lose 62 = .ok (.getfield 7, 3) := by decide +kernel
theorem dX7_lose_65 : decode cX7_lose 65 = .ok (.bipush 18, 2) := by decide +kernel
theorem dX7_lose_67 : decode cX7_lose 67 = .ok (.bipush 100, 2) := by decide +kernel
theorem dX7_lose_69 : decode cX7_lose 69 = .ok (.iload_n 1, 1) := by decide +kernel
theorem dX7_lose_70 : decode cX7_lose 70 = .ok (.imul, 1) := by decide +kernel
theorem dX7_lose_71 : decode cX7_lose 71 = .ok (.iadd, 1) := by decide +kernel
theorem dX7_lose_72 : decode cX7_lose 72 = .ok (.iload_n 2, 1) := by decide +kernel
theorem dX7_lose_73 : decode cX7_lose 73 = .ok (.iadd, 1) := by decide +kernel
theorem dX7_lose_74 : decode cX7_lose 74 = .ok (.iconst 1, 1) := by decide +kernel
theorem dX7_lose_75 : decode cX7_lose 75 = .ok (.isub, 1) := by decide +kernel
theorem dX7_lose_76 : decode cX7_lose 76 = .ok (.iconst 1, 1) := by decide +kernel
theorem dX7_lose_77 : decode cX7_lose 77 = .ok (.iastore, 1) := by decide +kernel
theorem dX7_lose_78 : decode cX7_lose 78 = .ok (.aload_n 0, 1) := by decide +kernel
theorem dX7_lose_79 : decode cX7_lose 79 = .ok (.getfield 7, 3) := by decide +kernel
theorem dX7_lose_82 : decode cX7_lose 82 = .ok (.iconst 5, 1) := by decide +kernel
theorem dX7_lose_83 : decode cX7_lose 83 = .ok (.dup2, 1) := by decide +kernel
theorem dX7_lose_84 : decode cX7_lose 84 = .ok (.iaload, 1) := by decide +kernel
theorem dX7_lose_85 : decode cX7_lose 85 = .ok (.iconst 1, 1) := by decide +kernel
theorem dX7_lose_86 : decode cX7_lose 86 = .ok (.iadd, 1) := by decide +kernel
theorem dX7_lose_87 : decode cX7_lose 87 = .ok (.iastore, 1) := by decide +kernel
theorem dX7_lose_88 : decode cX7_lose 88 = .ok (.aload_n 0, 1) := by decide +kernel
theorem dX7_lose_89 : decode cX7_lose 89 = .ok (.iload_n 1, 1) := by decide +kernel
theorem dX7_lose_90 : decode cX7_lose 90 = .ok (.invokevirtual 79, 3) := by decide +kernel
theorem dX7_lose_93 : decode cX7_lose 93 = .ok (.ireturn, 1) := by decide +kernel
set_option maxRecDepth 20000 in
theorem ggX7_resend_X7_isStandby : GoodIn wsX7_resend wsX7_isStandby := goodIn_r _ [6, 7, 8, 5, 9] (by decide +kernel) (by decide +kernel)
set_option maxRecDepth 20000 in
theorem gX7_resend_X7_isStandby : GoodIn wsX7_resend (va_wsS RX7 69 yX7_isStandby wsX7_isStandby) := goodIn_app (goodIn_of _ (by decide +kernel)) ggX7_resend_X7_isStandby
set_option maxRecDepth 20000 in
theorem ggX7_resend_X7_ofStandby : GoodIn wsX7_resend wsX7_ofStandby := goodIn_r _ [13, 14, 34, 35, 36, 37, 38, 39, 40, 41, 42, 43, 44, 45, 46, 47] (by decide +kernel) (by decide +kernel)
set_option maxRecDepth 20000 in
theorem gX7_resend_X7_ofStandby : GoodIn wsX7_resend (wsV RX7 72 RX7 yX7_ofStandby wsX7_ofStandby) := goodIn_app (goodIn_of _ (by decide +kernel)) ggX7_resend_X7_ofStandby
set_option maxRecDepth 20000 in
theorem ggX7_resend_X7_changes : GoodIn wsX7_resend wsX7_changes := goodIn_r _ [18, 19, 20, 21, 14, 34, 35, 36, 37, 38, 39, 40, 41, 42, 43, 44, 45, 46, 47] (by decide +kernel) (by decide +kernel)
set_option maxRecDepth 20000 in
theorem gX7_resend_X7_changes : GoodIn wsX7_resend (wsV RX7 43 RX7 yX7_changes wsX7_changes) := goodIn_app (goodIn_of _ (by decide +kernel)) ggX7_resend_X7_changes
set_option maxRecDepth 20000 in
theorem ggX7_resend_X7_gaps : GoodIn wsX7_resend wsX7_gaps := goodIn_r _ [25, 26, 27, 28, 5, 29, 14, 34, 35, 36, 37, 38, 39, 40, 41, 42, 43, 44, 45, 46, 47] (by decide +kernel) (by decide +kernel)
set_option maxRecDepth 20000 in
theorem gX7_resend_X7_gaps : GoodIn wsX7_resend (wsV RX7 79 RX7 yX7_gaps wsX7_gaps) := goodIn_app (goodIn_of _ (by decide +kernel)) ggX7_resend_X7_gaps
set_option maxRecDepth 20000 in
theorem ggX7_resend_X7_fillsGaps : GoodIn wsX7_resend wsX7_fillsGaps := goodIn_r _ [33, 14, 34, 35, 36, 37, 38, 39, 40, 41, 42, 43, 44, 45, 46, 47] (by decide +kernel) (by decide +kernel)
set_option maxRecDepth 20000 in
theorem gX7_resend_X7_fillsGaps : GoodIn wsX7_resend (wsV RX7 82 RX7 yX7_fillsGaps wsX7_fillsGaps) := goodIn_app (goodIn_of _ (by decide +kernel)) ggX7_resend_X7_fillsGaps
theorem dX7_resend_0 : decode cX7_resend 0 = .ok (.iload_n 1, 1) := by decide +kernel
theorem dX7_resend_1 : decode cX7_resend 1 = .ok (.invokestatic 69, 3) := by decide +kernel
theorem dX7_resend_4 : decode cX7_resend 4 = .ok (.ifCond .ne 6, 3) := by decide +kernel
theorem dX7_resend_7 : decode cX7_resend 7 = .ok (.ldc 41, 2) := by decide +kernel
theorem dX7_resend_9 : decode cX7_resend 9 = .ok (.ireturn, 1) := by decide +kernel
theorem dX7_resend_10 : decode cX7_resend 10 = .ok (.aload_n 0, 1) := by decide +kernel
theorem dX7_resend_11 : decode cX7_resend 11 = .ok (.iload_n 1, 1) := by decide +kernel
theorem dX7_resend_12 : decode cX7_resend 12 = .ok (.iconst 2, 1) := by decide +kernel
theorem dX7_resend_13 : decode cX7_resend 13 = .ok (.invokevirtual 72, 3) := by decide +kernel
theorem dX7_resend_16 : decode cX7_resend 16 = .ok (.iconst 1, 1) := by decide +kernel
theorem dX7_resend_17 : decode cX7_resend 17 = .ok (.if_icmp .ne 6, 3) := by decide +kernel
theorem dX7_resend_20 : decode cX7_resend 20 = .ok (.ldc 42, 2) := by decide +kernel
theorem dX7_resend_22 : decode cX7_resend 22 = .ok (.ireturn, 1) := by decide +kernel
theorem dX7_resend_23 : decode cX7_resend 23 = .ok (.aload_n 0, 1) := by decide +kernel
theorem dX7_resend_24 : decode cX7_resend 24 = .ok (.invokevirtual 43, 3) := by decide +kernel
theorem dX7_resend_27 : decode cX7_resend 27 = .ok (.aload_n 0, 1) := by decide +kernel
theorem dX7_resend_28 : decode cX7_resend 28 = .ok (.iload_n 1, 1) := by decide +kernel
theorem dX7_resend_29 : decode cX7_resend 29 = .ok (.invokevirtual 79, 3) := by decide +kernel
theorem dX7_resend_32 : decode cX7_resend 32 = .ok (.istore_n 2, 1) := by decide +kernel
theorem dX7_resend_33 : decode cX7_resend 33 = .ok (.aload_n 0, 1) := by decide +kernel
theorem dX7_resend_34 : decode cX7_resend 34 = .ok (.iload_n 1, 1) := by decide +kernel
theorem dX7_resend_35 : decode cX7_resend 35 = .ok (.iconst 0, 1) := by decide +kernel
theorem dX7_resend_36 : decode cX7_resend 36 = .ok (.invokevirtual 82, 3) := by decide +kernel
theorem dX7_resend_39 : decode cX7_resend 39 = .ok (.iload_n 2, 1) := by decide +kernel
theorem dX7_resend_40 : decode cX7_resend 40 = .ok (.ireturn, 1) := by decide +kernel
set_option maxRecDepth 20000 in
theorem ggX7_goes_X7_ofStandby : GoodIn wsX7_goes wsX7_ofStandby := goodIn_r _ [6, 1, 15, 16, 17, 18, 19, 20, 21, 22, 23, 24, 25, 26, 27, 28] (by decide +kernel) (by decide +kernel)
set_option maxRecDepth 20000 in
theorem gX7_goes_X7_ofStandby : GoodIn wsX7_goes (wsV RX7 72 RX7 yX7_ofStandby wsX7_ofStandby) := goodIn_app (goodIn_of _ (by decide +kernel)) ggX7_goes_X7_ofStandby
set_option maxRecDepth 20000 in
theorem ggX7_goes_X7_isGap : GoodIn wsX7_goes wsX7_isGap := goodIn_r _ [10, 1, 15, 16, 17, 18, 19, 20, 21, 22, 23, 24, 25, 26, 27, 28] (by decide +kernel) (by decide +kernel)
set_option maxRecDepth 20000 in
theorem gX7_goes_X7_isGap : GoodIn wsX7_goes (wsV RX7 75 RX7 yX7_isGap wsX7_isGap) := goodIn_app (goodIn_of _ (by decide +kernel)) ggX7_goes_X7_isGap
set_option maxRecDepth 20000 in
theorem ggX7_goes_X7_ofRecord : GoodIn wsX7_goes wsX7_ofRecord := goodIn_r _ [14, 1, 15, 16, 17, 18, 19, 20, 21, 22, 23, 24, 25, 26, 27, 28] (by decide +kernel) (by decide +kernel)
set_option maxRecDepth 20000 in
theorem gX7_goes_X7_ofRecord : GoodIn wsX7_goes (wsV RX7 59 RX7 yX7_ofRecord wsX7_ofRecord) := goodIn_app (goodIn_of _ (by decide +kernel)) ggX7_goes_X7_ofRecord
theorem dX7_goes_0 : decode cX7_goes 0 = .ok (.iconst 0, 1) := by decide +kernel
theorem dX7_goes_1 : decode cX7_goes 1 = .ok (.istore 5, 2) := by decide +kernel
theorem dX7_goes_3 : decode cX7_goes 3 = .ok (.aload_n 0, 1) := by decide +kernel
theorem dX7_goes_4 : decode cX7_goes 4 = .ok (.iload_n 1, 1) := by decide +kernel
theorem dX7_goes_5 : decode cX7_goes 5 = .ok (.iconst 2, 1) := by decide +kernel
theorem dX7_goes_6 : decode cX7_goes 6 = .ok (.invokevirtual 72, 3) := by decide +kernel
theorem dX7_goes_9 : decode cX7_goes 9 = .ok (.ifCond .ne 7, 3) := by decide +kernel
theorem dX7_goes_12 : decode cX7_goes 12 = .ok (.iconst 1, 1) := by decide +kernel
theorem dX7_goes_13 : decode cX7_goes 13 = .ok (.goto 4, 3) := by decide +kernel
theorem dX7_goes_16 : decode cX7_goes 16 = .ok (.iconst 0, 1) := by decide +kernel
theorem dX7_goes_17 : decode cX7_goes 17 = .ok (.istore 6, 2) := by decide +kernel
theorem dX7_goes_19 : decode cX7_goes 19 = .ok (.iload 6, 2) := by decide +kernel
theorem dX7_goes_21 : decode cX7_goes 21 = .ok (.ifCond .eq 83, 3) := by decide +kernel
theorem dX7_goes_24 : decode cX7_goes 24 = .ok (.iload 5, 2) := by decide +kernel
theorem dX7_goes_26 : decode cX7_goes 26 = .ok (.iload 4, 2) := by decide +kernel
theorem dX7_goes_28 : decode cX7_goes 28 = .ok (.if_icmp .ge 76, 3) := by decide +kernel
theorem dX7_goes_31 : decode cX7_goes 31 = .ok (.iload_n 2, 1) := by decide +kernel
theorem dX7_goes_32 : decode cX7_goes 32 = .ok (.iload 5, 2) := by decide +kernel
theorem dX7_goes_34 : decode cX7_goes 34 = .ok (.iadd, 1) := by decide +kernel
theorem dX7_goes_35 : decode cX7_goes 35 = .ok (.iconst 1, 1) := by decide +kernel
theorem dX7_goes_36 : decode cX7_goes 36 = .ok (.iadd, 1) := by decide +kernel
theorem dX7_goes_37 : decode cX7_goes 37 = .ok (.istore 7, 2) := by decide +kernel
theorem dX7_goes_39 : decode cX7_goes 39 = .ok (.iload 7, 2) := by decide +kernel
theorem dX7_goes_41 : decode cX7_goes 41 = .ok (.aload_n 0, 1) := by decide +kernel
theorem dX7_goes_42 : decode cX7_goes 42 = .ok (.iload_n 1, 1) := by decide +kernel
theorem dX7_goes_43 : decode cX7_goes 43 = .ok (.iconst 0, 1) := by decide +kernel
theorem dX7_goes_44 : decode cX7_goes 44 = .ok (.invokevirtual 72, 3) := by decide +kernel
theorem dX7_goes_47 : decode cX7_goes 47 = .ok (.if_icmp .gt 36, 3) := by decide +kernel
theorem dX7_goes_50 : decode cX7_goes 50 = .ok (.aload_n 0, 1) := by decide +kernel
theorem dX7_goes_51 : decode cX7_goes 51 = .ok (.iload_n 1, 1) := by decide +kernel
theorem dX7_goes_52 : decode cX7_goes 52 = .ok (.iload 7, 2) := by decide +kernel
theorem dX7_goes_54 : decode cX7_goes 54 = .ok (.invokevirtual 75, 3) := by decide +kernel
theorem dX7_goes_57 : decode cX7_goes 57 = .ok (.ifCond .ne 26, 3) := by decide +kernel
theorem dX7_goes_60 : decode cX7_goes 60 = .ok (.iload_n 3, 1) := by decide +kernel
theorem dX7_goes_61 : decode cX7_goes 61 = .ok (.aload_n 0, 1) := by decide +kernel
theorem dX7_goes_62 : decode cX7_goes 62 = .ok (.iload 7, 2) := by decide +kernel
theorem dX7_goes_64 : decode cX7_goes 64 = .ok (.iconst 4, 1) := by decide +kernel
theorem dX7_goes_65 : decode cX7_goes 65 = .ok (.invokevirtual 59, 3) := by decide +kernel
theorem dX7_goes_68 : decode cX7_goes 68 = .ok (.isub, 1) := by decide +kernel
theorem dX7_goes_69 : decode cX7_goes 69 = .ok (.aload_n 0, 1) := by decide +kernel
theorem dX7_goes_70 : decode cX7_goes 70 = .ok (.getfield 7, 3) := by decide +kernel
theorem dX7_goes_73 : decode cX7_goes 73 = .ok (.bipush 8, 2) := by decide +kernel
theorem dX7_goes_75 : decode cX7_goes 75 = .ok (.iaload, 1) := by decide +kernel
theorem dX7_goes_76 : decode cX7_goes 76 = .ok (.if_icmp .lt 7, 3) := by decide +kernel
theorem dX7_goes_79 : decode cX7_goes 79 = .ok (.iconst 1, 1) := by decide +kernel
theorem dX7_goes_80 : decode cX7_goes 80 = .ok (.goto 4, 3) := by decide +kernel
theorem dX7_goes_83 : decode cX7_goes 83 = .ok (.iconst 0, 1) := by decide +kernel
theorem dX7_goes_84 : decode cX7_goes 84 = .ok (.istore 6, 2) := by decide +kernel
theorem dX7_goes_86 : decode cX7_goes 86 = .ok (.iload 5, 2) := by decide +kernel
theorem dX7_goes_88 : decode cX7_goes 88 = .ok (.iload 6, 2) := by decide +kernel
theorem dX7_goes_90 : decode cX7_goes 90 = .ok (.ifCond .eq 7, 3) := by decide +kernel
theorem dX7_goes_93 : decode cX7_goes 93 = .ok (.iconst 1, 1) := by decide +kernel
theorem dX7_goes_94 : decode cX7_goes 94 = .ok (.goto 4, 3) := by decide +kernel
theorem dX7_goes_97 : decode cX7_goes 97 = .ok (.iconst 0, 1) := by decide +kernel
theorem dX7_goes_98 : decode cX7_goes 98 = .ok (.iadd, 1) := by decide +kernel
theorem dX7_goes_99 : decode cX7_goes 99 = .ok (.istore 5, 2) := by decide +kernel
theorem dX7_goes_101 : decode cX7_goes 101 = .ok (.goto (-82), 3) := by decide +kernel
theorem dX7_goes_104 : decode cX7_goes 104 = .ok (.iload 5, 2) := by decide +kernel
theorem dX7_goes_106 : decode cX7_goes 106 = .ok (.ireturn, 1) := by decide +kernel
set_option maxRecDepth 20000 in
theorem ggX7_tick_X7_in : GoodIn wsX7_tick wsX7_in := goodIn_r _ [6] (by decide +kernel) (by decide +kernel)
set_option maxRecDepth 20000 in
theorem gX7_tick_X7_in : GoodIn wsX7_tick (va_wsS RX7 33 yX7_in wsX7_in) := goodIn_app (goodIn_of _ (by decide +kernel)) ggX7_tick_X7_in
set_option maxRecDepth 20000 in
theorem ggX7_tick_X7_changes : GoodIn wsX7_tick wsX7_changes := goodIn_r _ [10, 11, 12, 13, 2, 30, 31, 32, 33, 34, 35, 36, 37, 38, 39, 40, 41, 42, 43] (by decide +kernel) (by decide +kernel)
set_option maxRecDepth 20000 in
theorem gX7_tick_X7_changes : GoodIn wsX7_tick (wsV RX7 43 RX7 yX7_changes wsX7_changes) := goodIn_app (goodIn_of _ (by decide +kernel)) ggX7_tick_X7_changes
set_option maxRecDepth 20000 in
theorem ggX7_tick_X7_ofStandby : GoodIn wsX7_tick wsX7_ofStandby := goodIn_r _ [17, 2, 30, 31, 32, 33, 34, 35, 36, 37, 38, 39, 40, 41, 42, 43] (by decide +kernel) (by decide +kernel)
set_option maxRecDepth 20000 in
theorem gX7_tick_X7_ofStandby : GoodIn wsX7_tick (wsV RX7 72 RX7 yX7_ofStandby wsX7_ofStandby) := goodIn_app (goodIn_of _ (by decide +kernel)) ggX7_tick_X7_ofStandby
set_option maxRecDepth 20000 in
theorem ggX7_tick_X7_goes : GoodIn wsX7_tick wsX7_goes := goodIn_r _ [21, 2, 14, 15, 16, 5, 17, 22, 23, 24, 25, 26, 27, 28, 29, 30, 31, 32, 33, 34, 35, 36, 37, 38, 39, 40, 41, 42, 43] (by decide +kernel) (by decide +kernel)
set_option maxRecDepth 20000 in
theorem gX7_tick_X7_goes : GoodIn wsX7_tick (wsV RX7 86 RX7 yX7_goes wsX7_goes) := goodIn_app (goodIn_of _ (by decide +kernel)) ggX7_tick_X7_goes
theorem dX7_tick_0 : decode cX7_tick 0 = .ok (.iload_n 1, 1) := by decide +kernel
theorem dX7_tick_1 : decode cX7_tick 1 = .ok (.iconst 1, 1) := by decide +kernel
theorem dX7_tick_2 : decode cX7_tick 2 = .ok (.bipush 99, 2) := by decide +kernel
theorem dX7_tick_4 : decode cX7_tick 4 = .ok (.invokestatic 33, 3) := by decide +kernel
theorem dX7_tick_7 : decode cX7_tick 7 = .ok (.ifCond .ne 6, 3) := by decide +kernel
theorem dX7_tick_10 : decode cX7_tick 10 = .ok (.ldc 41, 2) := by decide +kernel
end
section
theorem dX7_tick_12 : decode cX7_tick 12 = .ok (.ireturn, 1) := by decide +kernel
theorem dX7_tick_13 : decode cX7_tick 13 = .ok (.aload_n 0, 1) := by decide +kernel
theorem dX7_tick_14 : decode cX7_tick 14 = .ok (.invokevirtual 43, 3) := by decide +kernel
theorem dX7_tick_17 : decode cX7_tick 17 = .ok (.iconst 0, 1) := by decide +kernel
theorem dX7_tick_18 : decode cX7_tick 18 = .ok (.istore_n 2, 1) := by decide +kernel
theorem dX7_tick_19 : decode cX7_tick 19 = .ok (.iconst 0, 1) := by decide +kernel
theorem dX7_tick_20 : decode cX7_tick 20 = .ok (.istore_n 3, 1) := by decide +kernel
theorem dX7_tick_21 : decode cX7_tick 21 = .ok (.iload_n 3, 1) := by decide +kernel
theorem dX7_tick_22 : decode cX7_tick 22 = .ok (.iload_n 1, 1) := by decide +kernel
theorem dX7_tick_23 : decode cX7_tick 23 = .ok (.if_icmp .ge 86, 3) := by decide +kernel
theorem dX7_tick_26 : decode cX7_tick 26 = .ok (.aload_n 0, 1) := by decide +kernel
theorem dX7_tick_27 : decode cX7_tick 27 = .ok (.getfield 7, 3) := by decide +kernel
theorem dX7_tick_30 : decode cX7_tick 30 = .ok (.iconst 1, 1) := by decide +kernel
theorem dX7_tick_31 : decode cX7_tick 31 = .ok (.dup2, 1) := by decide +kernel
theorem dX7_tick_32 : decode cX7_tick 32 = .ok (.iaload, 1) := by decide +kernel
theorem dX7_tick_33 : decode cX7_tick 33 = .ok (.iconst 1, 1) := by decide +kernel
theorem dX7_tick_34 : decode cX7_tick 34 = .ok (.iadd, 1) := by decide +kernel
theorem dX7_tick_35 : decode cX7_tick 35 = .ok (.iastore, 1) := by decide +kernel
theorem dX7_tick_36 : decode cX7_tick 36 = .ok (.iconst 0, 1) := by decide +kernel
theorem dX7_tick_37 : decode cX7_tick 37 = .ok (.istore 4, 2) := by decide +kernel
theorem dX7_tick_39 : decode cX7_tick 39 = .ok (.iload 4, 2) := by decide +kernel
theorem dX7_tick_41 : decode cX7_tick 41 = .ok (.iconst 2, 1) := by decide +kernel
theorem dX7_tick_42 : decode cX7_tick 42 = .ok (.if_icmp .ge 61, 3) := by decide +kernel
theorem dX7_tick_45 : decode cX7_tick 45 = .ok (.aload_n 0, 1) := by decide +kernel
theorem dX7_tick_46 : decode cX7_tick 46 = .ok (.iload 4, 2) := by decide +kernel
theorem dX7_tick_48 : decode cX7_tick 48 = .ok (.aload_n 0, 1) := by decide +kernel
theorem dX7_tick_49 : decode cX7_tick 49 = .ok (.iload 4, 2) := by decide +kernel
theorem dX7_tick_51 : decode cX7_tick 51 = .ok (.iconst 1, 1) := by decide +kernel
theorem dX7_tick_52 : decode cX7_tick 52 = .ok (.invokevirtual 72, 3) := by decide +kernel
theorem dX7_tick_55 : decode cX7_tick 55 = .ok (.aload_n 0, 1) := by decide +kernel
theorem dX7_tick_56 : decode cX7_tick 56 = .ok (.getfield 7, 3) := by decide +kernel
theorem dX7_tick_59 : decode cX7_tick 59 = .ok (.iconst 1, 1) := by decide +kernel
theorem dX7_tick_60 : decode cX7_tick 60 = .ok (.iaload, 1) := by decide +kernel
theorem dX7_tick_61 : decode cX7_tick 61 = .ok (.aload_n 0, 1) := by decide +kernel
theorem dX7_tick_62 : decode cX7_tick 62 = .ok (.getfield 7, 3) := by decide +kernel
theorem dX7_tick_65 : decode cX7_tick 65 = .ok (.bipush 7, 2) := by decide +kernel
theorem dX7_tick_67 : decode cX7_tick 67 = .ok (.iaload, 1) := by decide +kernel
theorem dX7_tick_68 : decode cX7_tick 68 = .ok (.invokevirtual 86, 3) := by decide +kernel
theorem dX7_tick_71 : decode cX7_tick 71 = .ok (.istore 5, 2) := by decide +kernel
theorem dX7_tick_73 : decode cX7_tick 73 = .ok (.aload_n 0, 1) := by decide +kernel
theorem dX7_tick_74 : decode cX7_tick 74 = .ok (.getfield 7, 3) := by decide +kernel
theorem dX7_tick_77 : decode cX7_tick 77 = .ok (.bipush 12, 2) := by decide +kernel
theorem dX7_tick_79 : decode cX7_tick 79 = .ok (.iconst 3, 1) := by decide +kernel
theorem dX7_tick_80 : decode cX7_tick 80 = .ok (.iload 4, 2) := by decide +kernel
theorem dX7_tick_82 : decode cX7_tick 82 = .ok (.imul, 1) := by decide +kernel
theorem dX7_tick_83 : decode cX7_tick 83 = .ok (.iadd, 1) := by decide +kernel
theorem dX7_tick_84 : decode cX7_tick 84 = .ok (.iconst 1, 1) := by decide +kernel
theorem dX7_tick_85 : decode cX7_tick 85 = .ok (.iadd, 1) := by decide +kernel
theorem dX7_tick_86 : decode cX7_tick 86 = .ok (.dup2, 1) := by decide +kernel
theorem dX7_tick_87 : decode cX7_tick 87 = .ok (.iaload, 1) := by decide +kernel
theorem dX7_tick_88 : decode cX7_tick 88 = .ok (.iload 5, 2) := by decide +kernel
theorem dX7_tick_90 : decode cX7_tick 90 = .ok (.iadd, 1) := by decide +kernel
theorem dX7_tick_91 : decode cX7_tick 91 = .ok (.iastore, 1) := by decide +kernel
theorem dX7_tick_92 : decode cX7_tick 92 = .ok (.iload_n 2, 1) := by decide +kernel
theorem dX7_tick_93 : decode cX7_tick 93 = .ok (.iload 5, 2) := by decide +kernel
theorem dX7_tick_95 : decode cX7_tick 95 = .ok (.iadd, 1) := by decide +kernel
theorem dX7_tick_96 : decode cX7_tick 96 = .ok (.istore_n 2, 1) := by decide +kernel
theorem dX7_tick_97 : decode cX7_tick 97 = .ok (.iinc 4 1, 3) := by decide +kernel
theorem dX7_tick_100 : decode cX7_tick 100 = .ok (.goto (-61), 3) := by decide +kernel
theorem dX7_tick_103 : decode cX7_tick 103 = .ok (.iinc 3 1, 3) := by decide +kernel
theorem dX7_tick_106 : decode cX7_tick 106 = .ok (.goto (-85), 3) := by decide +kernel
theorem dX7_tick_109 : decode cX7_tick 109 = .ok (.aload_n 0, 1) := by decide +kernel
theorem dX7_tick_110 : decode cX7_tick 110 = .ok (.getfield 7, 3) := by decide +kernel
theorem dX7_tick_113 : decode cX7_tick 113 = .ok (.bipush 6, 2) := by decide +kernel
theorem dX7_tick_115 : decode cX7_tick 115 = .ok (.dup2, 1) := by decide +kernel
theorem dX7_tick_116 : decode cX7_tick 116 = .ok (.iaload, 1) := by decide +kernel
theorem dX7_tick_117 : decode cX7_tick 117 = .ok (.iload_n 2, 1) := by decide +kernel
theorem dX7_tick_118 : decode cX7_tick 118 = .ok (.iadd, 1) := by decide +kernel
theorem dX7_tick_119 : decode cX7_tick 119 = .ok (.iastore, 1) := by decide +kernel
theorem dX7_tick_120 : decode cX7_tick 120 = .ok (.iload_n 2, 1) := by decide +kernel
theorem dX7_tick_121 : decode cX7_tick 121 = .ok (.ireturn, 1) := by decide +kernel
set_option maxRecDepth 20000 in
theorem ggX7_lays_X7_fillsGaps : GoodIn wsX7_lays wsX7_fillsGaps := goodIn_r _ [6, 1, 7, 8, 9, 10, 11, 12, 13, 14, 15, 16, 17, 18, 19, 20] (by decide +kernel) (by decide +kernel)
set_option maxRecDepth 20000 in
theorem gX7_lays_X7_fillsGaps : GoodIn wsX7_lays (wsV RX7 82 RX7 yX7_fillsGaps wsX7_fillsGaps) := goodIn_app (goodIn_of _ (by decide +kernel)) ggX7_lays_X7_fillsGaps
theorem dX7_lays_0 : decode cX7_lays 0 = .ok (.aload_n 0, 1) := by decide +kernel
theorem dX7_lays_1 : decode cX7_lays 1 = .ok (.getfield 7, 3) := by decide +kernel
theorem dX7_lays_4 : decode cX7_lays 4 = .ok (.bipush 12, 2) := by decide +kernel
theorem dX7_lays_6 : decode cX7_lays 6 = .ok (.iconst 3, 1) := by decide +kernel
theorem dX7_lays_7 : decode cX7_lays 7 = .ok (.iload_n 1, 1) := by decide +kernel
theorem dX7_lays_8 : decode cX7_lays 8 = .ok (.imul, 1) := by decide +kernel
theorem dX7_lays_9 : decode cX7_lays 9 = .ok (.iadd, 1) := by decide +kernel
theorem dX7_lays_10 : decode cX7_lays 10 = .ok (.iconst 0, 1) := by decide +kernel
theorem dX7_lays_11 : decode cX7_lays 11 = .ok (.iadd, 1) := by decide +kernel
theorem dX7_lays_12 : decode cX7_lays 12 = .ok (.iload_n 2, 1) := by decide +kernel
theorem dX7_lays_13 : decode cX7_lays 13 = .ok (.iastore, 1) := by decide +kernel
theorem dX7_lays_14 : decode cX7_lays 14 = .ok (.aload_n 0, 1) := by decide +kernel
theorem dX7_lays_15 : decode cX7_lays 15 = .ok (.getfield 7, 3) := by decide +kernel
theorem dX7_lays_18 : decode cX7_lays 18 = .ok (.bipush 12, 2) := by decide +kernel
theorem dX7_lays_20 : decode cX7_lays 20 = .ok (.iconst 3, 1) := by decide +kernel
theorem dX7_lays_21 : decode cX7_lays 21 = .ok (.iload_n 1, 1) := by decide +kernel
theorem dX7_lays_22 : decode cX7_lays 22 = .ok (.imul, 1) := by decide +kernel
theorem dX7_lays_23 : decode cX7_lays 23 = .ok (.iadd, 1) := by decide +kernel
theorem dX7_lays_24 : decode cX7_lays 24 = .ok (.iconst 1, 1) := by decide +kernel
theorem dX7_lays_25 : decode cX7_lays 25 = .ok (.iadd, 1) := by decide +kernel
theorem dX7_lays_26 : decode cX7_lays 26 = .ok (.iload_n 2, 1) := by decide +kernel
theorem dX7_lays_27 : decode cX7_lays 27 = .ok (.iastore, 1) := by decide +kernel
theorem dX7_lays_28 : decode cX7_lays 28 = .ok (.aload_n 0, 1) := by decide +kernel
theorem dX7_lays_29 : decode cX7_lays 29 = .ok (.getfield 7, 3) := by decide +kernel
theorem dX7_lays_32 : decode cX7_lays 32 = .ok (.bipush 12, 2) := by decide +kernel
theorem dX7_lays_34 : decode cX7_lays 34 = .ok (.iconst 3, 1) := by decide +kernel
theorem dX7_lays_35 : decode cX7_lays 35 = .ok (.iload_n 1, 1) := by decide +kernel
theorem dX7_lays_36 : decode cX7_lays 36 = .ok (.imul, 1) := by decide +kernel
theorem dX7_lays_37 : decode cX7_lays 37 = .ok (.iadd, 1) := by decide +kernel
theorem dX7_lays_38 : decode cX7_lays 38 = .ok (.iconst 2, 1) := by decide +kernel
theorem dX7_lays_39 : decode cX7_lays 39 = .ok (.iadd, 1) := by decide +kernel
theorem dX7_lays_40 : decode cX7_lays 40 = .ok (.iload_n 3, 1) := by decide +kernel
theorem dX7_lays_41 : decode cX7_lays 41 = .ok (.iastore, 1) := by decide +kernel
theorem dX7_lays_42 : decode cX7_lays 42 = .ok (.aload_n 0, 1) := by decide +kernel
theorem dX7_lays_43 : decode cX7_lays 43 = .ok (.iload_n 1, 1) := by decide +kernel
theorem dX7_lays_44 : decode cX7_lays 44 = .ok (.iconst 0, 1) := by decide +kernel
theorem dX7_lays_45 : decode cX7_lays 45 = .ok (.invokevirtual 82, 3) := by decide +kernel
theorem dX7_lays_48 : decode cX7_lays 48 = .ok (.return_, 1) := by decide +kernel
set_option maxRecDepth 20000 in
theorem ggX7_wouldBeLost_X7_ofStandby : GoodIn wsX7_wouldBeLost wsX7_ofStandby := goodIn_r _ [6, 1, 15, 16, 17, 18, 19, 20, 21, 22, 23, 24, 25, 26, 27, 28] (by decide +kernel) (by decide +kernel)
set_option maxRecDepth 20000 in
theorem gX7_wouldBeLost_X7_ofStandby : GoodIn wsX7_wouldBeLost (wsV RX7 72 RX7 yX7_ofStandby wsX7_ofStandby) := goodIn_app (goodIn_of _ (by decide +kernel)) ggX7_wouldBeLost_X7_ofStandby
set_option maxRecDepth 20000 in
theorem ggX7_wouldBeLost_X7_commits : GoodIn wsX7_wouldBeLost wsX7_commits := goodIn_r _ [10, 11, 12, 13, 5, 14, 1, 15, 16, 17, 18, 19, 20, 21, 22, 23, 24, 25, 26, 27, 28] (by decide +kernel) (by decide +kernel)
set_option maxRecDepth 20000 in
theorem gX7_wouldBeLost_X7_commits : GoodIn wsX7_wouldBeLost (wsV RX7 89 RX7 yX7_commits wsX7_commits) := goodIn_app (goodIn_of _ (by decide +kernel)) ggX7_wouldBeLost_X7_commits
theorem dX7_wouldBeLost_0 : decode cX7_wouldBeLost 0 = .ok (.aload_n 0, 1) := by decide +kernel
theorem dX7_wouldBeLost_1 : decode cX7_wouldBeLost 1 = .ok (.aload_n 0, 1) := by decide +kernel
theorem dX7_wouldBeLost_2 : decode cX7_wouldBeLost 2 = .ok (.iload_n 1, 1) := by decide +kernel
theorem dX7_wouldBeLost_3 : decode cX7_wouldBeLost 3 = .ok (.iconst 1, 1) := by decide +kernel
theorem dX7_wouldBeLost_4 : decode cX7_wouldBeLost 4 = .ok (.invokevirtual 72, 3) := by decide +kernel
theorem dX7_wouldBeLost_7 : decode cX7_wouldBeLost 7 = .ok (.iconst 1, 1) := by decide +kernel
theorem dX7_wouldBeLost_8 : decode cX7_wouldBeLost 8 = .ok (.iadd, 1) := by decide +kernel
theorem dX7_wouldBeLost_9 : decode cX7_wouldBeLost 9 = .ok (.aload_n 0, 1) := by decide +kernel
theorem dX7_wouldBeLost_10 : decode cX7_wouldBeLost 10 = .ok (.getfield 7, 3) := by decide +kernel
theorem dX7_wouldBeLost_13 : decode cX7_wouldBeLost 13 = .ok (.iconst 0, 1) := by decide +kernel
theorem dX7_wouldBeLost_14 : decode cX7_wouldBeLost 14 = .ok (.iaload, 1) := by decide +kernel
theorem dX7_wouldBeLost_15 : decode cX7_wouldBeLost 15 = .ok (.invokevirtual 89, 3) := by decide +kernel
theorem dX7_wouldBeLost_18 : decode cX7_wouldBeLost 18 = .ok (.ireturn, 1) := by decide +kernel
set_option maxRecDepth 20000 in
theorem ggX7_promote_X7_isStandby : GoodIn wsX7_promote wsX7_isStandby := goodIn_r _ [7, 8, 9, 6, 10] (by decide +kernel) (by decide +kernel)
set_option maxRecDepth 20000 in
theorem gX7_promote_X7_isStandby : GoodIn wsX7_promote (va_wsS RX7 69 yX7_isStandby wsX7_isStandby) := goodIn_app (goodIn_of _ (by decide +kernel)) ggX7_promote_X7_isStandby
set_option maxRecDepth 20000 in
theorem ggX7_promote_X7_ofStandby : GoodIn wsX7_promote wsX7_ofStandby := goodIn_r _ [14, 3, 42, 43, 44, 45, 46, 47, 48, 49, 50, 51, 52, 53, 54, 55] (by decide +kernel) (by decide +kernel)
set_option maxRecDepth 20000 in
theorem gX7_promote_X7_ofStandby : GoodIn wsX7_promote (wsV RX7 72 RX7 yX7_ofStandby wsX7_ofStandby) := goodIn_app (goodIn_of _ (by decide +kernel)) ggX7_promote_X7_ofStandby
set_option maxRecDepth 20000 in
theorem ggX7_promote_X7_changes : GoodIn wsX7_promote wsX7_changes := goodIn_r _ [18, 19, 20, 21, 3, 42, 43, 44, 45, 46, 47, 48, 49, 50, 51, 52, 53, 54, 55] (by decide +kernel) (by decide +kernel)
set_option maxRecDepth 20000 in
theorem gX7_promote_X7_changes : GoodIn wsX7_promote (wsV RX7 43 RX7 yX7_changes wsX7_changes) := goodIn_app (goodIn_of _ (by decide +kernel)) ggX7_promote_X7_changes
set_option maxRecDepth 20000 in
theorem ggX7_promote_X7_wouldBeLost : GoodIn wsX7_promote wsX7_wouldBeLost := goodIn_r _ [25, 3, 11, 12, 13, 6, 14, 26, 27, 28, 29, 30, 31, 32, 33, 42, 43, 44, 45, 46, 47, 48, 49, 50, 51, 52, 53, 54, 55] (by decide +kernel) (by decide +kernel)
set_option maxRecDepth 20000 in
theorem gX7_promote_X7_wouldBeLost : GoodIn wsX7_promote (wsV RX7 92 RX7 yX7_wouldBeLost wsX7_wouldBeLost) := goodIn_app (goodIn_of _ (by decide +kernel)) ggX7_promote_X7_wouldBeLost
set_option maxRecDepth 20000 in
theorem ggX7_promote_X7_lays : GoodIn wsX7_promote wsX7_lays := goodIn_r _ [37, 3, 38, 39, 40, 6, 41, 42, 43, 44, 45, 46, 47, 48, 49, 50, 51, 52, 53, 54, 55] (by decide +kernel) (by decide +kernel)
set_option maxRecDepth 20000 in
theorem gX7_promote_X7_lays : GoodIn wsX7_promote (wsV RX7 95 RX7 yX7_lays wsX7_lays) := goodIn_app (goodIn_of _ (by decide +kernel)) ggX7_promote_X7_lays
set_option maxRecDepth 20000 in
theorem ggX7_promote_X7_fillsGaps : GoodIn wsX7_promote wsX7_fillsGaps := goodIn_r _ [41, 3, 42, 43, 44, 45, 46, 47, 48, 49, 50, 51, 52, 53, 54, 55] (by decide +kernel) (by decide +kernel)
set_option maxRecDepth 20000 in
theorem gX7_promote_X7_fillsGaps : GoodIn wsX7_promote (wsV RX7 82 RX7 yX7_fillsGaps wsX7_fillsGaps) := goodIn_app (goodIn_of _ (by decide +kernel)) ggX7_promote_X7_fillsGaps
theorem dX7_promote_0 : decode cX7_promote 0 = .ok (.iload_n 1, 1) := by decide +kernel
theorem dX7_promote_1 : decode cX7_promote 1 = .ok (.invokestatic 69, 3) := by decide +kernel
theorem dX7_promote_4 : decode cX7_promote 4 = .ok (.ifCond .ne 6, 3) := by decide +kernel
theorem dX7_promote_7 : decode cX7_promote 7 = .ok (.ldc 41, 2) := by decide +kernel
theorem dX7_promote_9 : decode cX7_promote 9 = .ok (.ireturn, 1) := by decide +kernel
theorem dX7_promote_10 : decode cX7_promote 10 = .ok (.aload_n 0, 1) := by decide +kernel
theorem dX7_promote_11 : decode cX7_promote 11 = .ok (.iload_n 1, 1) := by decide +kernel
theorem dX7_promote_12 : decode cX7_promote 12 = .ok (.iconst 2, 1) := by decide +kernel
theorem dX7_promote_13 : decode cX7_promote 13 = .ok (.invokevirtual 72, 3) := by decide +kernel
theorem dX7_promote_16 : decode cX7_promote 16 = .ok (.iconst 1, 1) := by decide +kernel
theorem dX7_promote_17 : decode cX7_promote 17 = .ok (.if_icmp .ne 6, 3) := by decide +kernel
theorem dX7_promote_20 : decode cX7_promote 20 = .ok (.ldc 42, 2) := by decide +kernel
theorem dX7_promote_22 : decode cX7_promote 22 = .ok (.ireturn, 1) := by decide +kernel
theorem dX7_promote_23 : decode cX7_promote 23 = .ok (.aload_n 0, 1) := by decide +kernel
theorem dX7_promote_24 : decode cX7_promote 24 = .ok (.invokevirtual 43, 3) := by decide +kernel
theorem dX7_promote_27 : decode cX7_promote 27 = .ok (.aload_n 0, 1) := by decide +kernel
theorem dX7_promote_28 : decode cX7_promote 28 = .ok (.iload_n 1, 1) := by decide +kernel
theorem dX7_promote_29 : decode cX7_promote 29 = .ok (.invokevirtual 92, 3) := by decide +kernel
theorem dX7_promote_32 : decode cX7_promote 32 = .ok (.istore_n 2, 1) := by decide +kernel
theorem dX7_promote_33 : decode cX7_promote 33 = .ok (.aload_n 0, 1) := by decide +kernel
theorem dX7_promote_34 : decode cX7_promote 34 = .ok (.iload_n 1, 1) := by decide +kernel
theorem dX7_promote_35 : decode cX7_promote 35 = .ok (.iconst 1, 1) := by decide +kernel
theorem dX7_promote_36 : decode cX7_promote 36 = .ok (.invokevirtual 72, 3) := by decide +kernel
theorem dX7_promote_39 : decode cX7_promote 39 = .ok (.istore_n 3, 1) := by decide +kernel
theorem dX7_promote_40 : decode cX7_promote 40 = .ok (.iload_n 3, 1) := by decide +kernel
theorem dX7_promote_41 : decode cX7_promote 41 = .ok (.aload_n 0, 1) := by decide +kernel
theorem dX7_promote_42 : decode cX7_promote 42 = .ok (.getfield 7, 3) := by decide +kernel
theorem dX7_promote_45 : decode cX7_promote 45 = .ok (.iconst 0, 1) := by decide +kernel
theorem dX7_promote_46 : decode cX7_promote 46 = .ok (.iaload, 1) := by decide +kernel
theorem dX7_promote_47 : decode cX7_promote 47 = .ok (.if_icmp .ge 7, 3) := by decide +kernel
theorem dX7_promote_50 : decode cX7_promote 50 = .ok (.iconst 1, 1) := by decide +kernel
theorem dX7_promote_51 : decode cX7_promote 51 = .ok (.goto 4, 3) := by decide +kernel
theorem dX7_promote_54 : decode cX7_promote 54 = .ok (.iconst 0, 1) := by decide +kernel
theorem dX7_promote_55 : decode cX7_promote 55 = .ok (.istore 4, 2) := by decide +kernel
theorem dX7_promote_57 : decode cX7_promote 57 = .ok (.aload_n 0, 1) := by decide +kernel
theorem dX7_promote_58 : decode cX7_promote 58 = .ok (.getfield 7, 3) := by decide +kernel
theorem dX7_promote_61 : decode cX7_promote 61 = .ok (.iconst 0, 1) := by decide +kernel
theorem dX7_promote_62 : decode cX7_promote 62 = .ok (.iload_n 3, 1) := by decide +kernel
theorem dX7_promote_63 : decode cX7_promote 63 = .ok (.iastore, 1) := by decide +kernel
theorem dX7_promote_64 : decode cX7_promote 64 = .ok (.aload_n 0, 1) := by decide +kernel
theorem dX7_promote_65 : decode cX7_promote 65 = .ok (.getfield 7, 3) := by decide +kernel
theorem dX7_promote_68 : decode cX7_promote 68 = .ok (.iconst 4, 1) := by decide +kernel
theorem dX7_promote_69 : decode cX7_promote 69 = .ok (.dup2, 1) := by decide +kernel
theorem dX7_promote_70 : decode cX7_promote 70 = .ok (.iaload, 1) := by decide +kernel
theorem dX7_promote_71 : decode cX7_promote 71 = .ok (.iload_n 2, 1) := by decide +kernel
theorem dX7_promote_72 : decode cX7_promote 72 = .ok (.iadd, 1) := by decide +kernel
theorem dX7_promote_73 : decode cX7_promote 73 = .ok (.iastore, 1) := by decide +kernel
theorem dX7_promote_74 : decode cX7_promote 74 = .ok (.aload_n 0, 1) := by decide +kernel
theorem dX7_promote_75 : decode cX7_promote 75 = .ok (.getfield 7, 3) := by decide +kernel
theorem dX7_promote_78 : decode cX7_promote 78 = .ok (.iconst 2, 1) := by decide +kernel
theorem dX7_promote_79 : decode cX7_promote 79 = .ok (.dup2, 1) := by decide +kernel
theorem dX7_promote_80 : decode cX7_promote 80 = .ok (.iaload, 1) := by decide +kernel
theorem dX7_promote_81 : decode cX7_promote 81 = .ok (.iconst 1, 1) := by decide +kernel
theorem dX7_promote_82 : decode cX7_promote 82 = .ok (.iadd, 1) := by decide +kernel
theorem dX7_promote_83 : decode cX7_promote 83 = .ok (.iastore, 1) := by decide +kernel
theorem dX7_promote_84 : decode cX7_promote 84 = .ok (.iconst 0, 1) := by decide +kernel
theorem dX7_promote_85 : decode cX7_promote 85 = .ok (.istore 5, 2) := by decide +kernel
theorem dX7_promote_87 : decode cX7_promote 87 = .ok (.iload 5, 2) := by decide +kernel
theorem dX7_promote_89 : decode cX7_promote 89 = .ok (.iconst 3, 1) := by decide +kernel
theorem dX7_promote_90 : decode cX7_promote 90 = .ok (.if_icmp .ge 20, 3) := by decide +kernel
theorem dX7_promote_93 : decode cX7_promote 93 = .ok (.aload_n 0, 1) := by decide +kernel
theorem dX7_promote_94 : decode cX7_promote 94 = .ok (.getfield 7, 3) := by decide +kernel
theorem dX7_promote_97 : decode cX7_promote 97 = .ok (.bipush 9, 2) := by decide +kernel
theorem dX7_promote_99 : decode cX7_promote 99 = .ok (.iload 5, 2) := by decide +kernel
theorem dX7_promote_101 : decode cX7_promote 101 = .ok (.iadd, 1) := by decide +kernel
theorem dX7_promote_102 : decode cX7_promote 102 = .ok (.iconst 0, 1) := by decide +kernel
theorem dX7_promote_103 : decode cX7_promote 103 = .ok (.iastore, 1) := by decide +kernel
theorem dX7_promote_104 : decode cX7_promote 104 = .ok (.iinc 5 1, 3) := by decide +kernel
theorem dX7_promote_107 : decode cX7_promote 107 = .ok (.goto (-20), 3) := by decide +kernel
theorem dX7_promote_110 : decode cX7_promote 110 = .ok (.aload_n 0, 1) := by decide +kernel
theorem dX7_promote_111 : decode cX7_promote 111 = .ok (.iload_n 1, 1) := by decide +kernel
theorem dX7_promote_112 : decode cX7_promote 112 = .ok (.iload_n 3, 1) := by decide +kernel
theorem dX7_promote_113 : decode cX7_promote 113 = .ok (.iload 4, 2) := by decide +kernel
theorem dX7_promote_115 : decode cX7_promote 115 = .ok (.ifCond .eq 7, 3) := by decide +kernel
theorem dX7_promote_118 : decode cX7_promote 118 = .ok (.iconst 1, 1) := by decide +kernel
theorem dX7_promote_119 : decode cX7_promote 119 = .ok (.goto 4, 3) := by decide +kernel
theorem dX7_promote_122 : decode cX7_promote 122 = .ok (.iconst 0, 1) := by decide +kernel
theorem dX7_promote_123 : decode cX7_promote 123 = .ok (.invokevirtual 95, 3) := by decide +kernel
theorem dX7_promote_126 : decode cX7_promote 126 = .ok (.bipush 15, 2) := by decide +kernel
theorem dX7_promote_128 : decode cX7_promote 128 = .ok (.iconst 3, 1) := by decide +kernel
theorem dX7_promote_129 : decode cX7_promote 129 = .ok (.iload_n 1, 1) := by decide +kernel
theorem dX7_promote_130 : decode cX7_promote 130 = .ok (.imul, 1) := by decide +kernel
theorem dX7_promote_131 : decode cX7_promote 131 = .ok (.isub, 1) := by decide +kernel
theorem dX7_promote_132 : decode cX7_promote 132 = .ok (.istore 5, 2) := by decide +kernel
theorem dX7_promote_134 : decode cX7_promote 134 = .ok (.aload_n 0, 1) := by decide +kernel
theorem dX7_promote_135 : decode cX7_promote 135 = .ok (.getfield 7, 3) := by decide +kernel
theorem dX7_promote_138 : decode cX7_promote 138 = .ok (.iload 5, 2) := by decide +kernel
theorem dX7_promote_140 : decode cX7_promote 140 = .ok (.iconst 0, 1) := by decide +kernel
theorem dX7_promote_141 : decode cX7_promote 141 = .ok (.iadd, 1) := by decide +kernel
theorem dX7_promote_142 : decode cX7_promote 142 = .ok (.aload_n 0, 1) := by decide +kernel
theorem dX7_promote_143 : decode cX7_promote 143 = .ok (.getfield 7, 3) := by decide +kernel
theorem dX7_promote_146 : decode cX7_promote 146 = .ok (.iload 5, 2) := by decide +kernel
theorem dX7_promote_148 : decode cX7_promote 148 = .ok (.iconst 0, 1) := by decide +kernel
theorem dX7_promote_149 : decode cX7_promote 149 = .ok (.iadd, 1) := by decide +kernel
theorem dX7_promote_150 : decode cX7_promote 150 = .ok (.iaload, 1) := by decide +kernel
theorem dX7_promote_151 : decode cX7_promote 151 = .ok (.iload_n 3, 1) := by decide +kernel
theorem dX7_promote_152 : decode cX7_promote 152 = .ok (.if_icmp .le 7, 3) := by decide +kernel
theorem dX7_promote_155 : decode cX7_promote 155 = .ok (.iload_n 3, 1) := by decide +kernel
theorem dX7_promote_156 : decode cX7_promote 156 = .ok (.goto 12, 3) := by decide +kernel
theorem dX7_promote_159 : decode cX7_promote 159 = .ok (.aload_n 0, 1) := by decide +kernel
theorem dX7_promote_160 : decode cX7_promote 160 = .ok (.getfield 7, 3) := by decide +kernel
theorem dX7_promote_163 : decode cX7_promote 163 = .ok (.iload 5, 2) := by decide +kernel
theorem dX7_promote_165 : decode cX7_promote 165 = .ok (.iconst 0, 1) := by decide +kernel
theorem dX7_promote_166 : decode cX7_promote 166 = .ok (.iadd, 1) := by decide +kernel
theorem dX7_promote_167 : decode cX7_promote 167 = .ok (.iaload, 1) := by decide +kernel
theorem dX7_promote_168 : decode cX7_promote 168 = .ok (.iastore, 1) := by decide +kernel
theorem dX7_promote_169 : decode cX7_promote 169 = .ok (.aload_n 0, 1) := by decide +kernel
theorem dX7_promote_170 : decode cX7_promote 170 = .ok (.iconst 1, 1) := by decide +kernel
theorem dX7_promote_171 : decode cX7_promote 171 = .ok (.iload_n 1, 1) := by decide +kernel
theorem dX7_promote_172 : decode cX7_promote 172 = .ok (.isub, 1) := by decide +kernel
theorem dX7_promote_173 : decode cX7_promote 173 = .ok (.iload_n 3, 1) := by decide +kernel
theorem dX7_promote_174 : decode cX7_promote 174 = .ok (.invokevirtual 82, 3) := by decide +kernel
theorem dX7_promote_177 : decode cX7_promote 177 = .ok (.aload_n 0, 1) := by decide +kernel
theorem dX7_promote_178 : decode cX7_promote 178 = .ok (.getfield 7, 3) := by decide +kernel
theorem dX7_promote_181 : decode cX7_promote 181 = .ok (.iload 5, 2) := by decide +kernel
theorem dX7_promote_183 : decode cX7_promote 183 = .ok (.iconst 1, 1) := by decide +kernel
theorem dX7_promote_184 : decode cX7_promote 184 = .ok (.iadd, 1) := by decide +kernel
theorem dX7_promote_185 : decode cX7_promote 185 = .ok (.iaload, 1) := by decide +kernel
theorem dX7_promote_186 : decode cX7_promote 186 = .ok (.iload_n 3, 1) := by decide +kernel
theorem dX7_promote_187 : decode cX7_promote 187 = .ok (.if_icmp .le 23, 3) := by decide +kernel
theorem dX7_promote_190 : decode cX7_promote 190 = .ok (.aload_n 0, 1) := by decide +kernel
theorem dX7_promote_191 : decode cX7_promote 191 = .ok (.getfield 7, 3) := by decide +kernel
theorem dX7_promote_194 : decode cX7_promote 194 = .ok (.iload 5, 2) := by decide +kernel
theorem dX7_promote_196 : decode cX7_promote 196 = .ok (.iconst 1, 1) := by decide +kernel
theorem dX7_promote_197 : decode cX7_promote 197 = .ok (.iadd, 1) := by decide +kernel
theorem dX7_promote_198 : decode cX7_promote 198 = .ok (.iload_n 3, 1) := by decide +kernel
theorem dX7_promote_199 : decode cX7_promote 199 = .ok (.iastore, 1) := by decide +kernel
theorem dX7_promote_200 : decode cX7_promote 200 = .ok (.aload_n 0, 1) := by decide +kernel
theorem dX7_promote_201 : decode cX7_promote 201 = .ok (.getfield 7, 3) := by decide +kernel
theorem dX7_promote_204 : decode cX7_promote 204 = .ok (.iload 5, 2) := by decide +kernel
theorem dX7_promote_206 : decode cX7_promote 206 = .ok (.iconst 2, 1) := by decide +kernel
theorem dX7_promote_207 : decode cX7_promote 207 = .ok (.iadd, 1) := by decide +kernel
theorem dX7_promote_208 : decode cX7_promote 208 = .ok (.iconst 1, 1) := by decide +kernel
theorem dX7_promote_209 : decode cX7_promote 209 = .ok (.iastore, 1) := by decide +kernel
theorem dX7_promote_210 : decode cX7_promote 210 = .ok (.iload_n 2, 1) := by decide +kernel
theorem dX7_promote_211 : decode cX7_promote 211 = .ok (.ireturn, 1) := by decide +kernel
set_option maxRecDepth 20000 in
theorem ggX7_rebuild_X7_isStandby : GoodIn wsX7_rebuild wsX7_isStandby := goodIn_r _ [6, 7, 8, 5, 9] (by decide +kernel) (by decide +kernel)
set_option maxRecDepth 20000 in
theorem gX7_rebuild_X7_isStandby : GoodIn wsX7_rebuild (va_wsS RX7 69 yX7_isStandby wsX7_isStandby) := goodIn_app (goodIn_of _ (by decide +kernel)) ggX7_rebuild_X7_isStandby
set_option maxRecDepth 20000 in
theorem ggX7_rebuild_X7_changes : GoodIn wsX7_rebuild wsX7_changes := goodIn_r _ [13, 14, 15, 16, 2, 25, 26, 27, 28, 29, 30, 31, 32, 33, 34, 35, 36, 37, 38] (by decide +kernel) (by decide +kernel)
set_option maxRecDepth 20000 in
theorem gX7_rebuild_X7_changes : GoodIn wsX7_rebuild (wsV RX7 43 RX7 yX7_changes wsX7_changes) := goodIn_app (goodIn_of _ (by decide +kernel)) ggX7_rebuild_X7_changes
set_option maxRecDepth 20000 in
theorem ggX7_rebuild_X7_lays : GoodIn wsX7_rebuild wsX7_lays := goodIn_r _ [20, 2, 21, 22, 23, 5, 24, 25, 26, 27, 28, 29, 30, 31, 32, 33, 34, 35, 36, 37, 38] (by decide +kernel) (by decide +kernel)
set_option maxRecDepth 20000 in
theorem gX7_rebuild_X7_lays : GoodIn wsX7_rebuild (wsV RX7 95 RX7 yX7_lays wsX7_lays) := goodIn_app (goodIn_of _ (by decide +kernel)) ggX7_rebuild_X7_lays
theorem dX7_rebuild_0 : decode cX7_rebuild 0 = .ok (.iload_n 1, 1) := by decide +kernel
theorem dX7_rebuild_1 : decode cX7_rebuild 1 = .ok (.invokestatic 69, 3) := by decide +kernel
theorem dX7_rebuild_4 : decode cX7_rebuild 4 = .ok (.ifCond .ne 6, 3) := by decide +kernel
theorem dX7_rebuild_7 : decode cX7_rebuild 7 = .ok (.ldc 41, 2) := by decide +kernel
theorem dX7_rebuild_9 : decode cX7_rebuild 9 = .ok (.ireturn, 1) := by decide +kernel
theorem dX7_rebuild_10 : decode cX7_rebuild 10 = .ok (.aload_n 0, 1) := by decide +kernel
theorem dX7_rebuild_11 : decode cX7_rebuild 11 = .ok (.invokevirtual 43, 3) := by decide +kernel
theorem dX7_rebuild_14 : decode cX7_rebuild 14 = .ok (.aload_n 0, 1) := by decide +kernel
theorem dX7_rebuild_15 : decode cX7_rebuild 15 = .ok (.iload_n 1, 1) := by decide +kernel
theorem dX7_rebuild_16 : decode cX7_rebuild 16 = .ok (.aload_n 0, 1) := by decide +kernel
theorem dX7_rebuild_17 : decode cX7_rebuild 17 = .ok (.getfield 7, 3) := by decide +kernel
theorem dX7_rebuild_20 : decode cX7_rebuild 20 = .ok (.iconst 0, 1) := by decide +kernel
theorem dX7_rebuild_21 : decode cX7_rebuild 21 = .ok (.iaload, 1) := by decide +kernel
theorem dX7_rebuild_22 : decode cX7_rebuild 22 = .ok (.iconst 0, 1) := by decide +kernel
theorem dX7_rebuild_23 : decode cX7_rebuild 23 = .ok (.invokevirtual 95, 3) := by decide +kernel
theorem dX7_rebuild_26 : decode cX7_rebuild 26 = .ok (.aload_n 0, 1) := by decide +kernel
theorem dX7_rebuild_27 : decode cX7_rebuild 27 = .ok (.getfield 7, 3) := by decide +kernel
theorem dX7_rebuild_30 : decode cX7_rebuild 30 = .ok (.iconst 0, 1) := by decide +kernel
theorem dX7_rebuild_31 : decode cX7_rebuild 31 = .ok (.iaload, 1) := by decide +kernel
theorem dX7_rebuild_32 : decode cX7_rebuild 32 = .ok (.ireturn, 1) := by decide +kernel
set_option maxRecDepth 20000 in
theorem ggX7_set_X7_in : GoodIn wsX7_set wsX7_in := goodIn_r _ [6] (by decide +kernel) (by decide +kernel)
set_option maxRecDepth 20000 in
theorem gX7_set_X7_in : GoodIn wsX7_set (va_wsS RX7 33 yX7_in wsX7_in) := goodIn_app (goodIn_of _ (by decide +kernel)) ggX7_set_X7_in
set_option maxRecDepth 20000 in
theorem ggX7_set_X7_changes : GoodIn wsX7_set wsX7_changes := goodIn_r _ [10, 11, 12, 13, 2, 14, 15, 16, 17, 18, 19, 20, 21, 22, 23, 24, 25, 26, 27] (by decide +kernel) (by decide +kernel)
set_option maxRecDepth 20000 in
theorem gX7_set_X7_changes : GoodIn wsX7_set (wsV RX7 43 RX7 yX7_changes wsX7_changes) := goodIn_app (goodIn_of _ (by decide +kernel)) ggX7_set_X7_changes
theorem dX7_set_0 : decode cX7_set 0 = .ok (.iload_n 1, 1) := by decide +kernel
theorem dX7_set_1 : decode cX7_set 1 = .ok (.iconst 0, 1) := by decide +kernel
theorem dX7_set_2 : decode cX7_set 2 = .ok (.iconst 1, 1) := by decide +kernel
theorem dX7_set_3 : decode cX7_set 3 = .ok (.invokestatic 33, 3) := by decide +kernel
theorem dX7_set_6 : decode cX7_set 6 = .ok (.ifCond .eq 15, 3) := by decide +kernel
theorem dX7_set_9 : decode cX7_set 9 = .ok (.iload_n 2, 1) := by decide +kernel
theorem dX7_set_10 : decode cX7_set 10 = .ok (.iconst 1, 1) := by decide +kernel
theorem dX7_set_11 : decode cX7_set 11 = .ok (.iload_n 1, 1) := by decide +kernel
theorem dX7_set_12 : decode cX7_set 12 = .ok (.isub, 1) := by decide +kernel
theorem dX7_set_13 : decode cX7_set 13 = .ok (.bipush 20, 2) := by decide +kernel
theorem dX7_set_15 : decode cX7_set 15 = .ok (.invokestatic 33, 3) := by decide +kernel
theorem dX7_set_18 : decode cX7_set 18 = .ok (.ifCond .ne 6, 3) := by decide +kernel
theorem dX7_set_21 : decode cX7_set 21 = .ok (.ldc 41, 2) := by decide +kernel
theorem dX7_set_23 : decode cX7_set 23 = .ok (.ireturn, 1) := by decide +kernel
theorem dX7_set_24 : decode cX7_set 24 = .ok (.aload_n 0, 1) := by decide +kernel
theorem dX7_set_25 : decode cX7_set 25 = .ok (.invokevirtual 43, 3) := by decide +kernel
theorem dX7_set_28 : decode cX7_set 28 = .ok (.aload_n 0, 1) := by decide +kernel
theorem dX7_set_29 : decode cX7_set 29 = .ok (.getfield 7, 3) := by decide +kernel
theorem dX7_set_32 : decode cX7_set 32 = .ok (.bipush 7, 2) := by decide +kernel
theorem dX7_set_34 : decode cX7_set 34 = .ok (.iload_n 1, 1) := by decide +kernel
theorem dX7_set_35 : decode cX7_set 35 = .ok (.iadd, 1) := by decide +kernel
theorem dX7_set_36 : decode cX7_set 36 = .ok (.iaload, 1) := by decide +kernel
theorem dX7_set_37 : decode cX7_set 37 = .ok (.istore_n 3, 1) := by decide +kernel
theorem dX7_set_38 : decode cX7_set 38 = .ok (.aload_n 0, 1) := by decide +kernel
theorem dX7_set_39 : decode cX7_set 39 = .ok (.getfield 7, 3) := by decide +kernel
theorem dX7_set_42 : decode cX7_set 42 = .ok (.bipush 7, 2) := by decide +kernel
theorem dX7_set_44 : decode cX7_set 44 = .ok (.iload_n 1, 1) := by decide +kernel
theorem dX7_set_45 : decode cX7_set 45 = .ok (.iadd, 1) := by decide +kernel
theorem dX7_set_46 : decode cX7_set 46 = .ok (.iload_n 2, 1) := by decide +kernel
theorem dX7_set_47 : decode cX7_set 47 = .ok (.iastore, 1) := by decide +kernel
theorem dX7_set_48 : decode cX7_set 48 = .ok (.iload_n 3, 1) := by decide +kernel
theorem dX7_set_49 : decode cX7_set 49 = .ok (.ireturn, 1) := by decide +kernel
set_option maxRecDepth 20000 in
theorem ggX7_isFence_X7_in : GoodIn wsX7_isFence wsX7_in := goodIn_r _ [5] (by decide +kernel) (by decide +kernel)
set_option maxRecDepth 20000 in
theorem gX7_isFence_X7_in : GoodIn wsX7_isFence (va_wsS RX7 33 yX7_in wsX7_in) := goodIn_app (goodIn_of _ (by decide +kernel)) ggX7_isFence_X7_in
theorem dX7_isFence_0 : decode cX7_isFence 0 = .ok (.iload_n 1, 1) := by decide +kernel
theorem dX7_isFence_1 : decode cX7_isFence 1 = .ok (.iconst 0, 1) := by decide +kernel
theorem dX7_isFence_2 : decode cX7_isFence 2 = .ok (.aload_n 0, 1) := by decide +kernel
theorem dX7_isFence_3 : decode cX7_isFence 3 = .ok (.getfield 7, 3) := by decide +kernel
theorem dX7_isFence_6 : decode cX7_isFence 6 = .ok (.iconst 0, 1) := by decide +kernel
theorem dX7_isFence_7 : decode cX7_isFence 7 = .ok (.iaload, 1) := by decide +kernel
theorem dX7_isFence_8 : decode cX7_isFence 8 = .ok (.invokestatic 33, 3) := by decide +kernel
theorem dX7_isFence_11 : decode cX7_isFence 11 = .ok (.ireturn, 1) := by decide +kernel
set_option maxRecDepth 20000 in
theorem ggX7_canServe_X7_ofStandby : GoodIn wsX7_canServe wsX7_ofStandby := goodIn_r _ [5, 6, 7, 8, 9, 10, 11, 12, 13, 14, 15, 16, 17, 18, 19, 20] (by decide +kernel) (by decide +kernel)
set_option maxRecDepth 20000 in
theorem gX7_canServe_X7_ofStandby : GoodIn wsX7_canServe (wsV RX7 72 RX7 yX7_ofStandby wsX7_ofStandby) := goodIn_app (goodIn_of _ (by decide +kernel)) ggX7_canServe_X7_ofStandby
theorem dX7_canServe_0 : decode cX7_canServe 0 = .ok (.aload_n 0, 1) := by decide +kernel
theorem dX7_canServe_1 : decode cX7_canServe 1 = .ok (.iload_n 1, 1) := by decide +kernel
theorem dX7_canServe_2 : decode cX7_canServe 2 = .ok (.iconst 2, 1) := by decide +kernel
theorem dX7_canServe_3 : decode cX7_canServe 3 = .ok (.invokevirtual 72, 3) := by decide +kernel
theorem dX7_canServe_6 : decode cX7_canServe 6 = .ok (.ifCond .ne 17, 3) := by decide +kernel
theorem dX7_canServe_9 : decode cX7_canServe 9 = .ok (.aload_n 0, 1) := by decide +kernel
theorem dX7_canServe_10 : decode cX7_canServe 10 = .ok (.iload_n 1, 1) := by decide +kernel
theorem dX7_canServe_11 : decode cX7_canServe 11 = .ok (.iconst 1, 1) := by decide +kernel
theorem dX7_canServe_12 : decode cX7_canServe 12 = .ok (.invokevirtual 72, 3) := by decide +kernel
theorem dX7_canServe_15 : decode cX7_canServe 15 = .ok (.iload_n 2, 1) := by decide +kernel
theorem dX7_canServe_16 : decode cX7_canServe 16 = .ok (.if_icmp .lt 7, 3) := by decide +kernel
theorem dX7_canServe_19 : decode cX7_canServe 19 = .ok (.iconst 1, 1) := by decide +kernel
theorem dX7_canServe_20 : decode cX7_canServe 20 = .ok (.goto 4, 3) := by decide +kernel
theorem dX7_canServe_23 : decode cX7_canServe 23 = .ok (.iconst 0, 1) := by decide +kernel
theorem dX7_canServe_24 : decode cX7_canServe 24 = .ok (.ireturn, 1) := by decide +kernel
set_option maxRecDepth 20000 in
theorem ggX7_read_X7_isStandby : GoodIn wsX7_read wsX7_isStandby := goodIn_r _ [6, 7, 8, 5, 9] (by decide +kernel) (by decide +kernel)
set_option maxRecDepth 20000 in
theorem gX7_read_X7_isStandby : GoodIn wsX7_read (va_wsS RX7 69 yX7_isStandby wsX7_isStandby) := goodIn_app (goodIn_of _ (by decide +kernel)) ggX7_read_X7_isStandby
set_option maxRecDepth 20000 in
theorem ggX7_read_X7_isKey : GoodIn wsX7_read wsX7_isKey := goodIn_r _ [12, 7, 8, 5, 9] (by decide +kernel) (by decide +kernel)
set_option maxRecDepth 20000 in
theorem gX7_read_X7_isKey : GoodIn wsX7_read (va_wsS RX7 47 yX7_isKey wsX7_isKey) := goodIn_app (goodIn_of _ (by decide +kernel)) ggX7_read_X7_isKey
set_option maxRecDepth 20000 in
theorem ggX7_read_X7_isFence : GoodIn wsX7_read wsX7_isFence := goodIn_r _ [16, 17, 7, 8, 5, 9, 42, 43, 44, 45, 46, 47, 48, 49, 50, 51, 52, 53, 54, 55] (by decide +kernel) (by decide +kernel)
set_option maxRecDepth 20000 in
theorem gX7_read_X7_isFence : GoodIn wsX7_read (wsV RX7 99 RX7 yX7_isFence wsX7_isFence) := goodIn_app (goodIn_of _ (by decide +kernel)) ggX7_read_X7_isFence
set_option maxRecDepth 20000 in
theorem ggX7_read_X7_canServe : GoodIn wsX7_read wsX7_canServe := goodIn_r _ [21, 22, 23, 24, 5, 25, 17, 42, 43, 44, 45, 46, 47, 48, 49, 50, 51, 52, 53, 54, 55] (by decide +kernel) (by decide +kernel)
set_option maxRecDepth 20000 in
theorem gX7_read_X7_canServe : GoodIn wsX7_read (wsV RX7 102 RX7 yX7_canServe wsX7_canServe) := goodIn_app (goodIn_of _ (by decide +kernel)) ggX7_read_X7_canServe
set_option maxRecDepth 20000 in
theorem ggX7_read_X7_ofStandby : GoodIn wsX7_read wsX7_ofStandby := goodIn_r _ [25, 17, 42, 43, 44, 45, 46, 47, 48, 49, 50, 51, 52, 53, 54, 55] (by decide +kernel) (by decide +kernel)
set_option maxRecDepth 20000 in
theorem gX7_read_X7_ofStandby : GoodIn wsX7_read (wsV RX7 72 RX7 yX7_ofStandby wsX7_ofStandby) := goodIn_app (goodIn_of _ (by decide +kernel)) ggX7_read_X7_ofStandby
set_option maxRecDepth 20000 in
theorem ggX7_read_X7_valueAt : GoodIn wsX7_read wsX7_valueAt := goodIn_r _ [29, 30, 31, 32, 5, 33, 34, 35, 36, 37, 17, 38, 39, 40, 41, 42, 43, 44, 45, 46, 47, 48, 49, 50, 51, 52, 53, 54, 55] (by decide +kernel) (by decide +kernel)
set_option maxRecDepth 20000 in
theorem gX7_read_X7_valueAt : GoodIn wsX7_read (wsV RX7 105 RX7 yX7_valueAt wsX7_valueAt) := goodIn_app (goodIn_of _ (by decide +kernel)) ggX7_read_X7_valueAt
theorem dX7_read_0 : decode cX7_read 0 = .ok (.iload_n 1, 1) := by decide +kernel
theorem dX7_read_1 : decode cX7_read 1 = .ok (.invokestatic 69, 3) := by decide +kernel
theorem dX7_read_4 : decode cX7_read 4 = .ok (.ifCond .eq 18, 3) := by decide +kernel
theorem dX7_read_7 : decode cX7_read 7 = .ok (.iload_n 2, 1) := by decide +kernel
theorem dX7_read_8 : decode cX7_read 8 = .ok (.invokestatic 47, 3) := by decide +kernel
theorem dX7_read_11 : decode cX7_read 11 = .ok (.ifCond .eq 11, 3) := by decide +kernel
theorem dX7_read_14 : decode cX7_read 14 = .ok (.aload_n 0, 1) := by decide +kernel
theorem dX7_read_15 : decode cX7_read 15 = .ok (.iload_n 3, 1) := by decide +kernel
theorem dX7_read_16 : decode cX7_read 16 = .ok (.invokevirtual 99, 3) := by decide +kernel
theorem dX7_read_19 : decode cX7_read 19 = .ok (.ifCond .ne 6, 3) := by decide +kernel
theorem dX7_read_22 : decode cX7_read 22 = .ok (.ldc 41, 2) := by decide +kernel
theorem dX7_read_24 : decode cX7_read 24 = .ok (.ireturn, 1) := by decide +kernel
theorem dX7_read_25 : decode cX7_read 25 = .ok (.aload_n 0, 1) := by decide +kernel
theorem dX7_read_26 : decode cX7_read 26 = .ok (.iload_n 1, 1) := by decide +kernel
theorem dX7_read_27 : decode cX7_read 27 = .ok (.iload_n 3, 1) := by decide +kernel
theorem dX7_read_28 : decode cX7_read 28 = .ok (.invokevirtual 102, 3) := by decide +kernel
theorem dX7_read_31 : decode cX7_read 31 = .ok (.ifCond .eq 17, 3) := by decide +kernel
theorem dX7_read_34 : decode cX7_read 34 = .ok (.aload_n 0, 1) := by decide +kernel
theorem dX7_read_35 : decode cX7_read 35 = .ok (.aload_n 0, 1) := by decide +kernel
theorem dX7_read_36 : decode cX7_read 36 = .ok (.iload_n 1, 1) := by decide +kernel
theorem dX7_read_37 : decode cX7_read 37 = .ok (.iconst 1, 1) := by decide +kernel
theorem dX7_read_38 : decode cX7_read 38 = .ok (.invokevirtual 72, 3) := by decide +kernel
theorem dX7_read_41 : decode cX7_read 41 = .ok (.iload_n 2, 1) := by decide +kernel
theorem dX7_read_42 : decode cX7_read 42 = .ok (.invokevirtual 105, 3) := by decide +kernel
theorem dX7_read_45 : decode cX7_read 45 = .ok (.goto 5, 3) := by decide +kernel
theorem dX7_read_48 : decode cX7_read 48 = .ok (.ldc 42, 2) := by decide +kernel
theorem dX7_read_50 : decode cX7_read 50 = .ok (.ireturn, 1) := by decide +kernel
set_option maxRecDepth 20000 in
theorem ggX7_primary_X7_in : GoodIn wsX7_primary wsX7_in := goodIn_r _ [7] (by decide +kernel) (by decide +kernel)
set_option maxRecDepth 20000 in
theorem gX7_primary_X7_in : GoodIn wsX7_primary (va_wsS RX7 33 yX7_in wsX7_in) := goodIn_app (goodIn_of _ (by decide +kernel)) ggX7_primary_X7_in
set_option maxRecDepth 20000 in
theorem ggX7_primary_X7_isKey : GoodIn wsX7_primary wsX7_isKey := goodIn_r _ [10, 4, 5, 6, 7] (by decide +kernel) (by decide +kernel)
set_option maxRecDepth 20000 in
theorem gX7_primary_X7_isKey : GoodIn wsX7_primary (va_wsS RX7 47 yX7_isKey wsX7_isKey) := goodIn_app (goodIn_of _ (by decide +kernel)) ggX7_primary_X7_isKey
set_option maxRecDepth 20000 in
theorem ggX7_primary_X7_lastPut : GoodIn wsX7_primary wsX7_lastPut := goodIn_r _ [14, 2, 15, 16, 17, 6, 18, 27, 28, 29, 30, 31, 32, 33, 34, 35, 36, 37, 38, 39, 40] (by decide +kernel) (by decide +kernel)
set_option maxRecDepth 20000 in
theorem gX7_primary_X7_lastPut : GoodIn wsX7_primary (wsV RX7 63 RX7 yX7_lastPut wsX7_lastPut) := goodIn_app (goodIn_of _ (by decide +kernel)) ggX7_primary_X7_lastPut
set_option maxRecDepth 20000 in
theorem ggX7_primary_X7_ofRecord : GoodIn wsX7_primary wsX7_ofRecord := goodIn_r _ [18, 2, 27, 28, 29, 30, 31, 32, 33, 34, 35, 36, 37, 38, 39, 40] (by decide +kernel) (by decide +kernel)
set_option maxRecDepth 20000 in
theorem gX7_primary_X7_ofRecord : GoodIn wsX7_primary (wsV RX7 59 RX7 yX7_ofRecord wsX7_ofRecord) := goodIn_app (goodIn_of _ (by decide +kernel)) ggX7_primary_X7_ofRecord
set_option maxRecDepth 20000 in
theorem ggX7_primary_X7_valueAt : GoodIn wsX7_primary wsX7_valueAt := goodIn_r _ [22, 23, 24, 25, 6, 26, 15, 16, 17, 18, 2, 11, 12, 13, 14, 27, 28, 29, 30, 31, 32, 33, 34, 35, 36, 37, 38, 39, 40] (by decide +kernel) (by decide +kernel)
set_option maxRecDepth 20000 in
theorem gX7_primary_X7_valueAt : GoodIn wsX7_primary (wsV RX7 105 RX7 yX7_valueAt wsX7_valueAt) := goodIn_app (goodIn_of _ (by decide +kernel)) ggX7_primary_X7_valueAt
theorem dX7_primary_0 : decode cX7_primary 0 = .ok (.iload_n 1, 1) := by decide +kernel
theorem dX7_primary_1 : decode cX7_primary 1 = .ok (.iconst (-1), 1) := by decide +kernel
theorem dX7_primary_2 : decode cX7_primary 2 = .ok (.iconst 2, 1) := by decide +kernel
theorem dX7_primary_3 : decode cX7_primary 3 = .ok (.invokestatic 33, 3) := by decide +kernel
theorem dX7_primary_6 : decode cX7_primary 6 = .ok (.ifCond .eq 10, 3) := by decide +kernel
theorem dX7_primary_9 : decode cX7_primary 9 = .ok (.iload_n 2, 1) := by decide +kernel
theorem dX7_primary_10 : decode cX7_primary 10 = .ok (.invokestatic 47, 3) := by decide +kernel
theorem dX7_primary_13 : decode cX7_primary 13 = .ok (.ifCond .ne 6, 3) := by decide +kernel
theorem dX7_primary_16 : decode cX7_primary 16 = .ok (.ldc 41, 2) := by decide +kernel
theorem dX7_primary_18 : decode cX7_primary 18 = .ok (.ireturn, 1) := by decide +kernel
theorem dX7_primary_19 : decode cX7_primary 19 = .ok (.iload_n 1, 1) := by decide +kernel
theorem dX7_primary_20 : decode cX7_primary 20 = .ok (.ifCond .lt 18, 3) := by decide +kernel
theorem dX7_primary_23 : decode cX7_primary 23 = .ok (.aload_n 0, 1) := by decide +kernel
theorem dX7_primary_24 : decode cX7_primary 24 = .ok (.getfield 7, 3) := by decide +kernel
theorem dX7_primary_27 : decode cX7_primary 27 = .ok (.bipush 9, 2) := by decide +kernel
theorem dX7_primary_29 : decode cX7_primary 29 = .ok (.iload_n 1, 1) := by decide +kernel
theorem dX7_primary_30 : decode cX7_primary 30 = .ok (.iadd, 1) := by decide +kernel
theorem dX7_primary_31 : decode cX7_primary 31 = .ok (.iaload, 1) := by decide +kernel
theorem dX7_primary_32 : decode cX7_primary 32 = .ok (.ifCond .ne 6, 3) := by decide +kernel
theorem dX7_primary_35 : decode cX7_primary 35 = .ok (.ldc 42, 2) := by decide +kernel
theorem dX7_primary_37 : decode cX7_primary 37 = .ok (.ireturn, 1) := by decide +kernel
theorem dX7_primary_38 : decode cX7_primary 38 = .ok (.iload_n 1, 1) := by decide +kernel
theorem dX7_primary_39 : decode cX7_primary 39 = .ok (.ifCond .ge 7, 3) := by decide +kernel
theorem dX7_primary_42 : decode cX7_primary 42 = .ok (.iconst 0, 1) := by decide +kernel
theorem dX7_primary_43 : decode cX7_primary 43 = .ok (.goto 17, 3) := by decide +kernel
theorem dX7_primary_46 : decode cX7_primary 46 = .ok (.aload_n 0, 1) := by decide +kernel
theorem dX7_primary_47 : decode cX7_primary 47 = .ok (.aload_n 0, 1) := by decide +kernel
theorem dX7_primary_48 : decode cX7_primary 48 = .ok (.getfield 7, 3) := by decide +kernel
theorem dX7_primary_51 : decode cX7_primary 51 = .ok (.bipush 9, 2) := by decide +kernel
theorem dX7_primary_53 : decode cX7_primary 53 = .ok (.iload_n 1, 1) := by decide +kernel
theorem dX7_primary_54 : decode cX7_primary 54 = .ok (.iadd, 1) := by decide +kernel
theorem dX7_primary_55 : decode cX7_primary 55 = .ok (.iaload, 1) := by decide +kernel
theorem dX7_primary_56 : decode cX7_primary 56 = .ok (.iload_n 2, 1) := by decide +kernel
theorem dX7_primary_57 : decode cX7_primary 57 = .ok (.invokevirtual 63, 3) := by decide +kernel
theorem dX7_primary_60 : decode cX7_primary 60 = .ok (.istore_n 3, 1) := by decide +kernel
theorem dX7_primary_61 : decode cX7_primary 61 = .ok (.iload_n 3, 1) := by decide +kernel
theorem dX7_primary_62 : decode cX7_primary 62 = .ok (.ifCond .le 12, 3) := by decide +kernel
theorem dX7_primary_65 : decode cX7_primary 65 = .ok (.aload_n 0, 1) := by decide +kernel
theorem dX7_primary_66 : decode cX7_primary 66 = .ok (.iload_n 3, 1) := by decide +kernel
theorem dX7_primary_67 : decode cX7_primary 67 = .ok (.iconst 3, 1) := by decide +kernel
theorem dX7_primary_68 : decode cX7_primary 68 = .ok (.invokevirtual 59, 3) := by decide +kernel
theorem dX7_primary_71 : decode cX7_primary 71 = .ok (.goto 14, 3) := by decide +kernel
theorem dX7_primary_74 : decode cX7_primary 74 = .ok (.aload_n 0, 1) := by decide +kernel
theorem dX7_primary_75 : decode cX7_primary 75 = .ok (.aload_n 0, 1) := by decide +kernel
theorem dX7_primary_76 : decode cX7_primary 76 = .ok (.getfield 7, 3) := by decide +kernel
theorem dX7_primary_79 : decode cX7_primary 79 = .ok (.iconst 0, 1) := by decide +kernel
theorem dX7_primary_80 : decode cX7_primary 80 = .ok (.iaload, 1) := by decide +kernel
theorem dX7_primary_81 : decode cX7_primary 81 = .ok (.iload_n 2, 1) := by decide +kernel
theorem dX7_primary_82 : decode cX7_primary 82 = .ok (.invokevirtual 105, 3) := by decide +kernel
theorem dX7_primary_85 : decode cX7_primary 85 = .ok (.ireturn, 1) := by decide +kernel
set_option maxRecDepth 20000 in
theorem ggX7_serves_X7_isFence : GoodIn wsX7_serves wsX7_isFence := goodIn_r _ [7, 8, 9, 10, 6, 11, 20, 21, 22, 23, 24, 25, 26, 27, 28, 29, 30, 31, 32, 33] (by decide +kernel) (by decide +kernel)
set_option maxRecDepth 20000 in
theorem gX7_serves_X7_isFence : GoodIn wsX7_serves (wsV RX7 99 RX7 yX7_isFence wsX7_isFence) := goodIn_app (goodIn_of _ (by decide +kernel)) ggX7_serves_X7_isFence
set_option maxRecDepth 20000 in
theorem ggX7_serves_X7_canServe : GoodIn wsX7_serves wsX7_canServe := goodIn_r _ [15, 16, 17, 18, 6, 19, 8, 20, 21, 22, 23, 24, 25, 26, 27, 28, 29, 30, 31, 32, 33] (by decide +kernel) (by decide +kernel)
set_option maxRecDepth 20000 in
theorem gX7_serves_X7_canServe : GoodIn wsX7_serves (wsV RX7 102 RX7 yX7_canServe wsX7_canServe) := goodIn_app (goodIn_of _ (by decide +kernel)) ggX7_serves_X7_canServe
set_option maxRecDepth 20000 in
theorem ggX7_serves_X7_ofStandby : GoodIn wsX7_serves wsX7_ofStandby := goodIn_r _ [19, 8, 20, 21, 22, 23, 24, 25, 26, 27, 28, 29, 30, 31, 32, 33] (by decide +kernel) (by decide +kernel)
set_option maxRecDepth 20000 in
theorem gX7_serves_X7_ofStandby : GoodIn wsX7_serves (wsV RX7 72 RX7 yX7_ofStandby wsX7_ofStandby) := goodIn_app (goodIn_of _ (by decide +kernel)) ggX7_serves_X7_ofStandby
theorem dX7_serves_0 : decode cX7_serves 0 = .ok (.aload_n 0, 1) := by decide +kernel
theorem dX7_serves_1 : decode cX7_serves 1 = .ok (.iload_n 1, 1) := by decide +kernel
theorem dX7_serves_2 : decode cX7_serves 2 = .ok (.invokevirtual 99, 3) := by decide +kernel
theorem dX7_serves_5 : decode cX7_serves 5 = .ok (.ifCond .ne 6, 3) := by decide +kernel
theorem dX7_serves_8 : decode cX7_serves 8 = .ok (.ldc 41, 2) := by decide +kernel
theorem dX7_serves_10 : decode cX7_serves 10 = .ok (.ireturn, 1) := by decide +kernel
theorem dX7_serves_11 : decode cX7_serves 11 = .ok (.aload_n 0, 1) := by decide +kernel
theorem dX7_serves_12 : decode cX7_serves 12 = .ok (.iconst 0, 1) := by decide +kernel
theorem dX7_serves_13 : decode cX7_serves 13 = .ok (.iload_n 1, 1) := by decide +kernel
theorem dX7_serves_14 : decode cX7_serves 14 = .ok (.invokevirtual 102, 3) := by decide +kernel
theorem dX7_serves_17 : decode cX7_serves 17 = .ok (.istore_n 2, 1) := by decide +kernel
theorem dX7_serves_18 : decode cX7_serves 18 = .ok (.aload_n 0, 1) := by decide +kernel
theorem dX7_serves_19 : decode cX7_serves 19 = .ok (.iconst 1, 1) := by decide +kernel
theorem dX7_serves_20 : decode cX7_serves 20 = .ok (.iload_n 1, 1) := by decide +kernel
theorem dX7_serves_21 : decode cX7_serves 21 = .ok (.invokevirtual 102, 3) := by decide +kernel
theorem dX7_serves_24 : decode cX7_serves 24 = .ok (.istore_n 3, 1) := by decide +kernel
theorem dX7_serves_25 : decode cX7_serves 25 = .ok (.iload_n 2, 1) := by decide +kernel
theorem dX7_serves_26 : decode cX7_serves 26 = .ok (.ifCond .eq 30, 3) := by decide +kernel
theorem dX7_serves_29 : decode cX7_serves 29 = .ok (.iload_n 3, 1) := by decide +kernel
theorem dX7_serves_30 : decode cX7_serves 30 = .ok (.ifCond .eq 26, 3) := by decide +kernel
theorem dX7_serves_33 : decode cX7_serves 33 = .ok (.aload_n 0, 1) := by decide +kernel
theorem dX7_serves_34 : decode cX7_serves 34 = .ok (.iconst 1, 1) := by decide +kernel
theorem dX7_serves_35 : decode cX7_serves 35 = .ok (.iconst 1, 1) := by decide +kernel
theorem dX7_serves_36 : decode cX7_serves 36 = .ok (.invokevirtual 72, 3) := by decide +kernel
theorem dX7_serves_39 : decode cX7_serves 39 = .ok (.aload_n 0, 1) := by decide +kernel
theorem dX7_serves_40 : decode cX7_serves 40 = .ok (.iconst 0, 1) := by decide +kernel
theorem dX7_serves_41 : decode cX7_serves 41 = .ok (.iconst 1, 1) := by decide +kernel
theorem dX7_serves_42 : decode cX7_serves 42 = .ok (.invokevirtual 72, 3) := by decide +kernel
theorem dX7_serves_45 : decode cX7_serves 45 = .ok (.if_icmp .le 7, 3) := by decide +kernel
theorem dX7_serves_48 : decode cX7_serves 48 = .ok (.iconst 1, 1) := by decide +kernel
theorem dX7_serves_49 : decode cX7_serves 49 = .ok (.goto 25, 3) := by decide +kernel
theorem dX7_serves_52 : decode cX7_serves 52 = .ok (.iconst 0, 1) := by decide +kernel
theorem dX7_serves_53 : decode cX7_serves 53 = .ok (.goto 21, 3) := by decide +kernel
theorem dX7_serves_56 : decode cX7_serves 56 = .ok (.iload_n 2, 1) := by decide +kernel
theorem dX7_serves_57 : decode cX7_serves 57 = .ok (.ifCond .eq 7, 3) := by decide +kernel
theorem dX7_serves_60 : decode cX7_serves 60 = .ok (.iconst 0, 1) := by decide +kernel
theorem dX7_serves_61 : decode cX7_serves 61 = .ok (.goto 13, 3) := by decide +kernel
theorem dX7_serves_64 : decode cX7_serves 64 = .ok (.iload_n 3, 1) := by decide +kernel
theorem dX7_serves_65 : decode cX7_serves 65 = .ok (.ifCond .eq 7, 3) := by decide +kernel
theorem dX7_serves_68 : decode cX7_serves 68 = .ok (.iconst 1, 1) := by decide +kernel
theorem dX7_serves_69 : decode cX7_serves 69 = .ok (.goto 5, 3) := by decide +kernel
theorem dX7_serves_72 : decode cX7_serves 72 = .ok (.ldc 58, 2) := by decide +kernel
theorem dX7_serves_74 : decode cX7_serves 74 = .ok (.ireturn, 1) := by decide +kernel
set_option maxRecDepth 20000 in
theorem ggX7_fence_X7_isKey : GoodIn wsX7_fence wsX7_isKey := goodIn_r _ [7, 8, 9, 6, 10] (by decide +kernel) (by decide +kernel)
set_option maxRecDepth 20000 in
theorem gX7_fence_X7_isKey : GoodIn wsX7_fence (va_wsS RX7 47 yX7_isKey wsX7_isKey) := goodIn_app (goodIn_of _ (by decide +kernel)) ggX7_fence_X7_isKey
set_option maxRecDepth 20000 in
theorem ggX7_fence_X7_lastCommit : GoodIn wsX7_fence wsX7_lastCommit := goodIn_r _ [14, 15, 16, 17, 6, 18, 2, 19, 20, 21, 22, 23, 24, 25, 26, 27, 28, 29, 30, 31, 32, 33, 34, 35, 36] (by decide +kernel) (by decide +kernel)
set_option maxRecDepth 20000 in
theorem gX7_fence_X7_lastCommit : GoodIn wsX7_fence (wsV RX7 66 RX7 yX7_lastCommit wsX7_lastCommit) := goodIn_app (goodIn_of _ (by decide +kernel)) ggX7_fence_X7_lastCommit
theorem dX7_fence_0 : decode cX7_fence 0 = .ok (.iload_n 1, 1) := by decide +kernel
theorem dX7_fence_1 : decode cX7_fence 1 = .ok (.invokestatic 47, 3) := by decide +kernel
theorem dX7_fence_4 : decode cX7_fence 4 = .ok (.ifCond .ne 6, 3) := by decide +kernel
theorem dX7_fence_7 : decode cX7_fence 7 = .ok (.ldc 41, 2) := by decide +kernel
theorem dX7_fence_9 : decode cX7_fence 9 = .ok (.ireturn, 1) := by decide +kernel
theorem dX7_fence_10 : decode cX7_fence 10 = .ok (.aload_n 0, 1) := by decide +kernel
theorem dX7_fence_11 : decode cX7_fence 11 = .ok (.aload_n 0, 1) := by decide +kernel
theorem dX7_fence_12 : decode cX7_fence 12 = .ok (.getfield 7, 3) := by decide +kernel
theorem dX7_fence_15 : decode cX7_fence 15 = .ok (.iconst 0, 1) := by decide +kernel
theorem dX7_fence_16 : decode cX7_fence 16 = .ok (.iaload, 1) := by decide +kernel
theorem dX7_fence_17 : decode cX7_fence 17 = .ok (.iload_n 1, 1) := by decide +kernel
theorem dX7_fence_18 : decode cX7_fence 18 = .ok (.invokevirtual 66, 3) := by decide +kernel
theorem dX7_fence_21 : decode cX7_fence 21 = .ok (.istore_n 2, 1) := by decide +kernel
theorem dX7_fence_22 : decode cX7_fence 22 = .ok (.iload_n 2, 1) := by decide +kernel
theorem dX7_fence_23 : decode cX7_fence 23 = .ok (.ifCond .ne 8, 3) := by decide +kernel
theorem dX7_fence_26 : decode cX7_fence 26 = .ok (.ldc 58, 2) := by decide +kernel
theorem dX7_fence_28 : decode cX7_fence 28 = .ok (.goto 4, 3) := by decide +kernel
theorem dX7_fence_31 : decode cX7_fence 31 = .ok (.iload_n 2, 1) := by decide +kernel
theorem dX7_fence_32 : decode cX7_fence 32 = .ok (.ireturn, 1) := by decide +kernel
set_option maxRecDepth 20000 in
theorem ggX7_recordOf_X7_in : GoodIn wsX7_recordOf wsX7_in := goodIn_r _ [7] (by decide +kernel) (by decide +kernel)
set_option maxRecDepth 20000 in
theorem gX7_recordOf_X7_in : GoodIn wsX7_recordOf (va_wsS RX7 33 yX7_in wsX7_in) := goodIn_app (goodIn_of _ (by decide +kernel)) ggX7_recordOf_X7_in
set_option maxRecDepth 20000 in
theorem ggX7_recordOf_X7_ofRecord : GoodIn wsX7_recordOf wsX7_ofRecord := goodIn_r _ [11, 2, 12, 13, 14, 15, 16, 17, 18, 19, 20, 21, 22, 23, 24, 25] (by decide +kernel) (by decide +kernel)
set_option maxRecDepth 20000 in
theorem gX7_recordOf_X7_ofRecord : GoodIn wsX7_recordOf (wsV RX7 59 RX7 yX7_ofRecord wsX7_ofRecord) := goodIn_app (goodIn_of _ (by decide +kernel)) ggX7_recordOf_X7_ofRecord
theorem dX7_recordOf_0 : decode cX7_recordOf 0 = .ok (.iload_n 1, 1) := by decide +kernel
theorem dX7_recordOf_1 : decode cX7_recordOf 1 = .ok (.iconst 1, 1) := by decide +kernel
theorem dX7_recordOf_2 : decode cX7_recordOf 2 = .ok (.if_icmp .lt 12, 3) := by decide +kernel
theorem dX7_recordOf_5 : decode cX7_recordOf 5 = .ok (.iload_n 2, 1) := by decide +kernel
theorem dX7_recordOf_6 : decode cX7_recordOf 6 = .ok (.iconst 0, 1) := by decide +kernel
theorem dX7_recordOf_7 : decode cX7_recordOf 7 = .ok (.iconst 4, 1) := by decide +kernel
theorem dX7_recordOf_8 : decode cX7_recordOf 8 = .ok (.invokestatic 33, 3) := by decide +kernel
theorem dX7_recordOf_11 : decode cX7_recordOf 11 = .ok (.ifCond .ne 6, 3) := by decide +kernel
theorem dX7_recordOf_14 : decode cX7_recordOf 14 = .ok (.ldc 41, 2) := by decide +kernel
theorem dX7_recordOf_16 : decode cX7_recordOf 16 = .ok (.ireturn, 1) := by decide +kernel
theorem dX7_recordOf_17 : decode cX7_recordOf 17 = .ok (.iload_n 1, 1) := by decide +kernel
theorem dX7_recordOf_18 : decode cX7_recordOf 18 = .ok (.aload_n 0, 1) := by decide +kernel
theorem dX7_recordOf_19 : decode cX7_recordOf 19 = .ok (.getfield 7, 3) := by decide +kernel
theorem dX7_recordOf_22 : decode cX7_recordOf 22 = .ok (.iconst 0, 1) := by decide +kernel
theorem dX7_recordOf_23 : decode cX7_recordOf 23 = .ok (.iaload, 1) := by decide +kernel
theorem dX7_recordOf_24 : decode cX7_recordOf 24 = .ok (.if_icmp .le 8, 3) := by decide +kernel
theorem dX7_recordOf_27 : decode cX7_recordOf 27 = .ok (.ldc 58, 2) := by decide +kernel
theorem dX7_recordOf_29 : decode cX7_recordOf 29 = .ok (.goto 9, 3) := by decide +kernel
theorem dX7_recordOf_32 : decode cX7_recordOf 32 = .ok (.aload_n 0, 1) := by decide +kernel
theorem dX7_recordOf_33 : decode cX7_recordOf 33 = .ok (.iload_n 1, 1) := by decide +kernel
theorem dX7_recordOf_34 : decode cX7_recordOf 34 = .ok (.iload_n 2, 1) := by decide +kernel
theorem dX7_recordOf_35 : decode cX7_recordOf 35 = .ok (.invokevirtual 59, 3) := by decide +kernel
theorem dX7_recordOf_38 : decode cX7_recordOf 38 = .ok (.ireturn, 1) := by decide +kernel
set_option maxRecDepth 20000 in
theorem ggX7_unlike_X7_ofStandby : GoodIn wsX7_unlike wsX7_ofStandby := goodIn_r _ [6, 1, 23, 24, 25, 26, 27, 28, 29, 30, 31, 32, 33, 34, 35, 36] (by decide +kernel) (by decide +kernel)
set_option maxRecDepth 20000 in
theorem gX7_unlike_X7_ofStandby : GoodIn wsX7_unlike (wsV RX7 72 RX7 yX7_ofStandby wsX7_ofStandby) := goodIn_app (goodIn_of _ (by decide +kernel)) ggX7_unlike_X7_ofStandby
set_option maxRecDepth 20000 in
theorem ggX7_unlike_X7_valueAt : GoodIn wsX7_unlike wsX7_valueAt := goodIn_r _ [10, 11, 12, 13, 5, 14, 15, 16, 17, 18, 1, 19, 20, 21, 22, 23, 24, 25, 26, 27, 28, 29, 30, 31, 32, 33, 34, 35, 36] (by decide +kernel) (by decide +kernel)
set_option maxRecDepth 20000 in
theorem gX7_unlike_X7_valueAt : GoodIn wsX7_unlike (wsV RX7 105 RX7 yX7_valueAt wsX7_valueAt) := goodIn_app (goodIn_of _ (by decide +kernel)) ggX7_unlike_X7_valueAt
theorem dX7_unlike_0 : decode cX7_unlike 0 = .ok (.iconst 0, 1) := by decide +kernel
theorem dX7_unlike_1 : decode cX7_unlike 1 = .ok (.istore_n 2, 1) := by decide +kernel
theorem dX7_unlike_2 : decode cX7_unlike 2 = .ok (.iconst 0, 1) := by decide +kernel
theorem dX7_unlike_3 : decode cX7_unlike 3 = .ok (.istore_n 3, 1) := by decide +kernel
theorem dX7_unlike_4 : decode cX7_unlike 4 = .ok (.iload_n 3, 1) := by decide +kernel
theorem dX7_unlike_5 : decode cX7_unlike 5 = .ok (.bipush 24, 2) := by decide +kernel
theorem dX7_unlike_7 : decode cX7_unlike 7 = .ok (.if_icmp .ge 42, 3) := by decide +kernel
theorem dX7_unlike_10 : decode cX7_unlike 10 = .ok (.iload_n 2, 1) := by decide +kernel
theorem dX7_unlike_11 : decode cX7_unlike 11 = .ok (.aload_n 0, 1) := by decide +kernel
theorem dX7_unlike_12 : decode cX7_unlike 12 = .ok (.aload_n 0, 1) := by decide +kernel
theorem dX7_unlike_13 : decode cX7_unlike 13 = .ok (.iload_n 1, 1) := by decide +kernel
theorem dX7_unlike_14 : decode cX7_unlike 14 = .ok (.iconst 1, 1) := by decide +kernel
theorem dX7_unlike_15 : decode cX7_unlike 15 = .ok (.invokevirtual 72, 3) := by decide +kernel
theorem dX7_unlike_18 : decode cX7_unlike 18 = .ok (.iload_n 3, 1) := by decide +kernel
theorem dX7_unlike_19 : decode cX7_unlike 19 = .ok (.invokevirtual 105, 3) := by decide +kernel
theorem dX7_unlike_22 : decode cX7_unlike 22 = .ok (.aload_n 0, 1) := by decide +kernel
theorem dX7_unlike_23 : decode cX7_unlike 23 = .ok (.aload_n 0, 1) := by decide +kernel
theorem dX7_unlike_24 : decode cX7_unlike 24 = .ok (.getfield 7, 3) := by decide +kernel
theorem dX7_unlike_27 : decode cX7_unlike 27 = .ok (.iconst 0, 1) := by decide +kernel
theorem dX7_unlike_28 : decode cX7_unlike 28 = .ok (.iaload, 1) := by decide +kernel
theorem dX7_unlike_29 : decode cX7_unlike 29 = .ok (.iload_n 3, 1) := by decide +kernel
theorem dX7_unlike_30 : decode cX7_unlike 30 = .ok (.invokevirtual 105, 3) := by decide +kernel
theorem dX7_unlike_33 : decode cX7_unlike 33 = .ok (.if_icmp .eq 7, 3) := by decide +kernel
theorem dX7_unlike_36 : decode cX7_unlike 36 = .ok (.iconst 1, 1) := by decide +kernel
theorem dX7_unlike_37 : decode cX7_unlike 37 = .ok (.goto 4, 3) := by decide +kernel
theorem dX7_unlike_40 : decode cX7_unlike 40 = .ok (.iconst 0, 1) := by decide +kernel
theorem dX7_unlike_41 : decode cX7_unlike 41 = .ok (.iadd, 1) := by decide +kernel
theorem dX7_unlike_42 : decode cX7_unlike 42 = .ok (.istore_n 2, 1) := by decide +kernel
theorem dX7_unlike_43 : decode cX7_unlike 43 = .ok (.iinc 3 1, 3) := by decide +kernel
theorem dX7_unlike_46 : decode cX7_unlike 46 = .ok (.goto (-42), 3) := by decide +kernel
theorem dX7_unlike_49 : decode cX7_unlike 49 = .ok (.iload_n 2, 1) := by decide +kernel
theorem dX7_unlike_50 : decode cX7_unlike 50 = .ok (.ireturn, 1) := by decide +kernel
set_option maxRecDepth 20000 in
theorem ggX7_standbyOf_X7_isStandby : GoodIn wsX7_standbyOf wsX7_isStandby := goodIn_r _ [7, 8, 9, 6, 10] (by decide +kernel) (by decide +kernel)
set_option maxRecDepth 20000 in
theorem gX7_standbyOf_X7_isStandby : GoodIn wsX7_standbyOf (va_wsS RX7 69 yX7_isStandby wsX7_isStandby) := goodIn_app (goodIn_of _ (by decide +kernel)) ggX7_standbyOf_X7_isStandby
set_option maxRecDepth 20000 in
theorem ggX7_standbyOf_X7_in : GoodIn wsX7_standbyOf wsX7_in := goodIn_r _ [10] (by decide +kernel) (by decide +kernel)
set_option maxRecDepth 20000 in
theorem gX7_standbyOf_X7_in : GoodIn wsX7_standbyOf (va_wsS RX7 33 yX7_in wsX7_in) := goodIn_app (goodIn_of _ (by decide +kernel)) ggX7_standbyOf_X7_in
set_option maxRecDepth 20000 in
theorem ggX7_standbyOf_X7_ofStandby : GoodIn wsX7_standbyOf wsX7_ofStandby := goodIn_r _ [14, 2, 55, 56, 57, 58, 59, 60, 61, 62, 63, 64, 65, 66, 67, 68] (by decide +kernel) (by decide +kernel)
set_option maxRecDepth 20000 in
theorem gX7_standbyOf_X7_ofStandby : GoodIn wsX7_standbyOf (wsV RX7 72 RX7 yX7_ofStandby wsX7_ofStandby) := goodIn_app (goodIn_of _ (by decide +kernel)) ggX7_standbyOf_X7_ofStandby
set_option maxRecDepth 20000 in
theorem ggX7_standbyOf_X7_gaps : GoodIn wsX7_standbyOf wsX7_gaps := goodIn_r _ [18, 19, 20, 21, 6, 22, 2, 55, 56, 57, 58, 59, 60, 61, 62, 63, 64, 65, 66, 67, 68] (by decide +kernel) (by decide +kernel)
set_option maxRecDepth 20000 in
theorem gX7_standbyOf_X7_gaps : GoodIn wsX7_standbyOf (wsV RX7 79 RX7 yX7_gaps wsX7_gaps) := goodIn_app (goodIn_of _ (by decide +kernel)) ggX7_standbyOf_X7_gaps
set_option maxRecDepth 20000 in
theorem ggX7_standbyOf_X7_lowestGap : GoodIn wsX7_standbyOf wsX7_lowestGap := goodIn_r _ [26, 3, 19, 20, 21, 6, 22, 2, 55, 56, 57, 58, 59, 60, 61, 62, 63, 64, 65, 66, 67, 68] (by decide +kernel) (by decide +kernel)
set_option maxRecDepth 20000 in
theorem gX7_standbyOf_X7_lowestGap : GoodIn wsX7_standbyOf (wsV RX7 108 RX7 yX7_lowestGap wsX7_lowestGap) := goodIn_app (goodIn_of _ (by decide +kernel)) ggX7_standbyOf_X7_lowestGap
set_option maxRecDepth 20000 in
theorem ggX7_standbyOf_X7_wouldBeLost : GoodIn wsX7_standbyOf wsX7_wouldBeLost := goodIn_r _ [30, 2, 11, 12, 13, 6, 14, 31, 32, 33, 34, 35, 36, 37, 38, 55, 56, 57, 58, 59, 60, 61, 62, 63, 64, 65, 66, 67, 68] (by decide +kernel) (by decide +kernel)
set_option maxRecDepth 20000 in
theorem gX7_standbyOf_X7_wouldBeLost : GoodIn wsX7_standbyOf (wsV RX7 92 RX7 yX7_wouldBeLost wsX7_wouldBeLost) := goodIn_app (goodIn_of _ (by decide +kernel)) ggX7_standbyOf_X7_wouldBeLost
set_option maxRecDepth 20000 in
theorem ggX7_standbyOf_X7_ofRecord : GoodIn wsX7_standbyOf wsX7_ofRecord := goodIn_r _ [38, 2, 55, 56, 57, 58, 59, 60, 61, 62, 63, 64, 65, 66, 67, 68] (by decide +kernel) (by decide +kernel)
set_option maxRecDepth 20000 in
theorem gX7_standbyOf_X7_ofRecord : GoodIn wsX7_standbyOf (wsV RX7 59 RX7 yX7_ofRecord wsX7_ofRecord) := goodIn_app (goodIn_of _ (by decide +kernel)) ggX7_standbyOf_X7_ofRecord
set_option maxRecDepth 20000 in
theorem ggX7_standbyOf_X7_unlike : GoodIn wsX7_standbyOf wsX7_unlike := goodIn_r _ [42, 2, 11, 12, 13, 6, 14, 43, 44, 45, 46, 47, 48, 49, 50, 35, 36, 37, 38, 51, 52, 53, 54, 55, 56, 57, 58, 59, 60, 61, 62, 63, 64, 65, 66, 67, 68] (by decide +kernel) (by decide +kernel)
set_option maxRecDepth 20000 in
theorem gX7_standbyOf_X7_unlike : GoodIn wsX7_standbyOf (wsV RX7 111 RX7 yX7_unlike wsX7_unlike) := goodIn_app (goodIn_of _ (by decide +kernel)) ggX7_standbyOf_X7_unlike
theorem dX7_standbyOf_0 : decode cX7_standbyOf 0 = .ok (.iload_n 1, 1) := by decide +kernel
theorem dX7_standbyOf_1 : decode cX7_standbyOf 1 = .ok (.invokestatic 69, 3) := by decide +kernel
theorem dX7_standbyOf_4 : decode cX7_standbyOf 4 = .ok (.ifCond .eq 13, 3) := by decide +kernel
theorem dX7_standbyOf_7 : decode cX7_standbyOf 7 = .ok (.iload_n 2, 1) := by decide +kernel
theorem dX7_standbyOf_8 : decode cX7_standbyOf 8 = .ok (.iconst 0, 1) := by decide +kernel
theorem dX7_standbyOf_9 : decode cX7_standbyOf 9 = .ok (.bipush 8, 2) := by decide +kernel
theorem dX7_standbyOf_11 : decode cX7_standbyOf 11 = .ok (.invokestatic 33, 3) := by decide +kernel
theorem dX7_standbyOf_14 : decode cX7_standbyOf 14 = .ok (.ifCond .ne 6, 3) := by decide +kernel
theorem dX7_standbyOf_17 : decode cX7_standbyOf 17 = .ok (.ldc 41, 2) := by decide +kernel
theorem dX7_standbyOf_19 : decode cX7_standbyOf 19 = .ok (.ireturn, 1) := by decide +kernel
theorem dX7_standbyOf_20 : decode cX7_standbyOf 20 = .ok (.aload_n 0, 1) := by decide +kernel
theorem dX7_standbyOf_21 : decode cX7_standbyOf 21 = .ok (.iload_n 1, 1) := by decide +kernel
theorem dX7_standbyOf_22 : decode cX7_standbyOf 22 = .ok (.iconst 1, 1) := by decide +kernel
theorem dX7_standbyOf_23 : decode cX7_standbyOf 23 = .ok (.invokevirtual 72, 3) := by decide +kernel
theorem dX7_standbyOf_26 : decode cX7_standbyOf 26 = .ok (.istore_n 3, 1) := by decide +kernel
theorem dX7_standbyOf_27 : decode cX7_standbyOf 27 = .ok (.iload_n 2, 1) := by decide +kernel
theorem dX7_standbyOf_28 : decode cX7_standbyOf 28 = .ok (.tableswitch 120 0 7 #[48, 48, 55, 61, 67, 74, 83, 89], 48) := by decide +kernel
theorem dX7_standbyOf_76 : decode cX7_standbyOf 76 = .ok (.aload_n 0, 1) := by decide +kernel
theorem dX7_standbyOf_77 : decode cX7_standbyOf 77 = .ok (.iload_n 1, 1) := by decide +kernel
theorem dX7_standbyOf_78 : decode cX7_standbyOf 78 = .ok (.iload_n 2, 1) := by decide +kernel
theorem dX7_standbyOf_79 : decode cX7_standbyOf 79 = .ok (.invokevirtual 72, 3) := by decide +kernel
theorem dX7_standbyOf_82 : decode cX7_standbyOf 82 = .ok (.ireturn, 1) := by decide +kernel
theorem dX7_standbyOf_83 : decode cX7_standbyOf 83 = .ok (.aload_n 0, 1) := by decide +kernel
theorem dX7_standbyOf_84 : decode cX7_standbyOf 84 = .ok (.iload_n 1, 1) := by decide +kernel
theorem dX7_standbyOf_85 : decode cX7_standbyOf 85 = .ok (.invokevirtual 79, 3) := by decide +kernel
theorem dX7_standbyOf_88 : decode cX7_standbyOf 88 = .ok (.ireturn, 1) := by decide +kernel
theorem dX7_standbyOf_89 : decode cX7_standbyOf 89 = .ok (.aload_n 0, 1) := by decide +kernel
theorem dX7_standbyOf_90 : decode cX7_standbyOf 90 = .ok (.iload_n 1, 1) := by decide +kernel
theorem dX7_standbyOf_91 : decode cX7_standbyOf 91 = .ok (.invokevirtual 108, 3) := by decide +kernel
theorem dX7_standbyOf_94 : decode cX7_standbyOf 94 = .ok (.ireturn, 1) := by decide +kernel
theorem dX7_standbyOf_95 : decode cX7_standbyOf 95 = .ok (.aload_n 0, 1) := by decide +kernel
theorem dX7_standbyOf_96 : decode cX7_standbyOf 96 = .ok (.iload_n 1, 1) := by decide +kernel
theorem dX7_standbyOf_97 : decode cX7_standbyOf 97 = .ok (.iconst 2, 1) := by decide +kernel
theorem dX7_standbyOf_98 : decode cX7_standbyOf 98 = .ok (.invokevirtual 72, 3) := by decide +kernel
theorem dX7_standbyOf_101 : decode cX7_standbyOf 101 = .ok (.ireturn, 1) := by decide +kernel
theorem dX7_standbyOf_102 : decode cX7_standbyOf 102 = .ok (.aload_n 0, 1) := by decide +kernel
theorem dX7_standbyOf_103 : decode cX7_standbyOf 103 = .ok (.getfield 7, 3) := by decide +kernel
theorem dX7_standbyOf_106 : decode cX7_standbyOf 106 = .ok (.iconst 0, 1) := by decide +kernel
theorem dX7_standbyOf_107 : decode cX7_standbyOf 107 = .ok (.iaload, 1) := by decide +kernel
theorem dX7_standbyOf_108 : decode cX7_standbyOf 108 = .ok (.iload_n 3, 1) := by decide +kernel
theorem dX7_standbyOf_109 : decode cX7_standbyOf 109 = .ok (.isub, 1) := by decide +kernel
theorem dX7_standbyOf_110 : decode cX7_standbyOf 110 = .ok (.ireturn, 1) := by decide +kernel
theorem dX7_standbyOf_111 : decode cX7_standbyOf 111 = .ok (.aload_n 0, 1) := by decide +kernel
theorem dX7_standbyOf_112 : decode cX7_standbyOf 112 = .ok (.iload_n 1, 1) := by decide +kernel
theorem dX7_standbyOf_113 : decode cX7_standbyOf 113 = .ok (.invokevirtual 92, 3) := by decide +kernel
theorem dX7_standbyOf_116 : decode cX7_standbyOf 116 = .ok (.ireturn, 1) := by decide +kernel
theorem dX7_standbyOf_117 : decode cX7_standbyOf 117 = .ok (.iload_n 3, 1) := by decide +kernel
theorem dX7_standbyOf_118 : decode cX7_standbyOf 118 = .ok (.aload_n 0, 1) := by decide +kernel
theorem dX7_standbyOf_119 : decode cX7_standbyOf 119 = .ok (.getfield 7, 3) := by decide +kernel
theorem dX7_standbyOf_122 : decode cX7_standbyOf 122 = .ok (.iconst 0, 1) := by decide +kernel
theorem dX7_standbyOf_123 : decode cX7_standbyOf 123 = .ok (.iaload, 1) := by decide +kernel
theorem dX7_standbyOf_124 : decode cX7_standbyOf 124 = .ok (.if_icmp .ne 8, 3) := by decide +kernel
theorem dX7_standbyOf_127 : decode cX7_standbyOf 127 = .ok (.ldc 58, 2) := by decide +kernel
theorem dX7_standbyOf_129 : decode cX7_standbyOf 129 = .ok (.goto 18, 3) := by decide +kernel
theorem dX7_standbyOf_132 : decode cX7_standbyOf 132 = .ok (.aload_n 0, 1) := by decide +kernel
theorem dX7_standbyOf_133 : decode cX7_standbyOf 133 = .ok (.getfield 7, 3) := by decide +kernel
theorem dX7_standbyOf_136 : decode cX7_standbyOf 136 = .ok (.iconst 1, 1) := by decide +kernel
theorem dX7_standbyOf_137 : decode cX7_standbyOf 137 = .ok (.iaload, 1) := by decide +kernel
theorem dX7_standbyOf_138 : decode cX7_standbyOf 138 = .ok (.aload_n 0, 1) := by decide +kernel
theorem dX7_standbyOf_139 : decode cX7_standbyOf 139 = .ok (.iload_n 3, 1) := by decide +kernel
theorem dX7_standbyOf_140 : decode cX7_standbyOf 140 = .ok (.iconst 1, 1) := by decide +kernel
theorem dX7_standbyOf_141 : decode cX7_standbyOf 141 = .ok (.iadd, 1) := by decide +kernel
theorem dX7_standbyOf_142 : decode cX7_standbyOf 142 = .ok (.iconst 4, 1) := by decide +kernel
theorem dX7_standbyOf_143 : decode cX7_standbyOf 143 = .ok (.invokevirtual 59, 3) := by decide +kernel
theorem dX7_standbyOf_146 : decode cX7_standbyOf 146 = .ok (.isub, 1) := by decide +kernel
theorem dX7_standbyOf_147 : decode cX7_standbyOf 147 = .ok (.ireturn, 1) := by decide +kernel
theorem dX7_standbyOf_148 : decode cX7_standbyOf 148 = .ok (.aload_n 0, 1) := by decide +kernel
theorem dX7_standbyOf_149 : decode cX7_standbyOf 149 = .ok (.iload_n 1, 1) := by decide +kernel
theorem dX7_standbyOf_150 : decode cX7_standbyOf 150 = .ok (.invokevirtual 111, 3) := by decide +kernel
theorem dX7_standbyOf_153 : decode cX7_standbyOf 153 = .ok (.ireturn, 1) := by decide +kernel
set_option maxRecDepth 20000 in
theorem ggX7_slotOf_X7_isSlot : GoodIn wsX7_slotOf wsX7_isSlot := goodIn_r _ [7, 8, 9, 6, 10] (by decide +kernel) (by decide +kernel)
set_option maxRecDepth 20000 in
theorem gX7_slotOf_X7_isSlot : GoodIn wsX7_slotOf (va_wsS RX7 37 yX7_isSlot wsX7_isSlot) := goodIn_app (goodIn_of _ (by decide +kernel)) ggX7_slotOf_X7_isSlot
set_option maxRecDepth 20000 in
theorem ggX7_slotOf_X7_in : GoodIn wsX7_slotOf wsX7_in := goodIn_r _ [10] (by decide +kernel) (by decide +kernel)
set_option maxRecDepth 20000 in
theorem gX7_slotOf_X7_in : GoodIn wsX7_slotOf (va_wsS RX7 33 yX7_in wsX7_in) := goodIn_app (goodIn_of _ (by decide +kernel)) ggX7_slotOf_X7_in
set_option maxRecDepth 20000 in
theorem ggX7_slotOf_X7_ofRecord : GoodIn wsX7_slotOf wsX7_ofRecord := goodIn_r _ [14, 2, 15, 16, 17, 18, 19, 20, 21, 22, 23, 24, 25, 26, 27, 28] (by decide +kernel) (by decide +kernel)
set_option maxRecDepth 20000 in
theorem gX7_slotOf_X7_ofRecord : GoodIn wsX7_slotOf (wsV RX7 59 RX7 yX7_ofRecord wsX7_ofRecord) := goodIn_app (goodIn_of _ (by decide +kernel)) ggX7_slotOf_X7_ofRecord
theorem dX7_slotOf_0 : decode cX7_slotOf 0 = .ok (.iload_n 1, 1) := by decide +kernel
theorem dX7_slotOf_1 : decode cX7_slotOf 1 = .ok (.invokestatic 37, 3) := by decide +kernel
theorem dX7_slotOf_4 : decode cX7_slotOf 4 = .ok (.ifCond .eq 12, 3) := by decide +kernel
theorem dX7_slotOf_7 : decode cX7_slotOf 7 = .ok (.iload_n 2, 1) := by decide +kernel
theorem dX7_slotOf_8 : decode cX7_slotOf 8 = .ok (.iconst 0, 1) := by decide +kernel
theorem dX7_slotOf_9 : decode cX7_slotOf 9 = .ok (.iconst 1, 1) := by decide +kernel
theorem dX7_slotOf_10 : decode cX7_slotOf 10 = .ok (.invokestatic 33, 3) := by decide +kernel
theorem dX7_slotOf_13 : decode cX7_slotOf 13 = .ok (.ifCond .ne 6, 3) := by decide +kernel
theorem dX7_slotOf_16 : decode cX7_slotOf 16 = .ok (.ldc 41, 2) := by decide +kernel
theorem dX7_slotOf_18 : decode cX7_slotOf 18 = .ok (.ireturn, 1) := by decide +kernel
theorem dX7_slotOf_19 : decode cX7_slotOf 19 = .ok (.aload_n 0, 1) := by decide +kernel
theorem dX7_slotOf_20 : decode cX7_slotOf 20 = .ok (.getfield 7, 3) := by decide +kernel
theorem dX7_slotOf_23 : decode cX7_slotOf 23 = .ok (.bipush 9, 2) := by decide +kernel
theorem dX7_slotOf_25 : decode cX7_slotOf 25 = .ok (.iload_n 1, 1) := by decide +kernel
theorem dX7_slotOf_26 : decode cX7_slotOf 26 = .ok (.iadd, 1) := by decide +kernel
theorem dX7_slotOf_27 : decode cX7_slotOf 27 = .ok (.iaload, 1) := by decide +kernel
theorem dX7_slotOf_28 : decode cX7_slotOf 28 = .ok (.istore_n 3, 1) := by decide +kernel
theorem dX7_slotOf_29 : decode cX7_slotOf 29 = .ok (.iconst 0, 1) := by decide +kernel
theorem dX7_slotOf_30 : decode cX7_slotOf 30 = .ok (.istore 4, 2) := by decide +kernel
theorem dX7_slotOf_32 : decode cX7_slotOf 32 = .ok (.iconst 1, 1) := by decide +kernel
theorem dX7_slotOf_33 : decode cX7_slotOf 33 = .ok (.istore 5, 2) := by decide +kernel
theorem dX7_slotOf_35 : decode cX7_slotOf 35 = .ok (.iload 5, 2) := by decide +kernel
theorem dX7_slotOf_37 : decode cX7_slotOf 37 = .ok (.aload_n 0, 1) := by decide +kernel
theorem dX7_slotOf_38 : decode cX7_slotOf 38 = .ok (.getfield 7, 3) := by decide +kernel
theorem dX7_slotOf_41 : decode cX7_slotOf 41 = .ok (.iconst 0, 1) := by decide +kernel
theorem dX7_slotOf_42 : decode cX7_slotOf 42 = .ok (.iaload, 1) := by decide +kernel
theorem dX7_slotOf_43 : decode cX7_slotOf 43 = .ok (.if_icmp .gt 40, 3) := by decide +kernel
theorem dX7_slotOf_46 : decode cX7_slotOf 46 = .ok (.iload 4, 2) := by decide +kernel
theorem dX7_slotOf_48 : decode cX7_slotOf 48 = .ok (.aload_n 0, 1) := by decide +kernel
theorem dX7_slotOf_49 : decode cX7_slotOf 49 = .ok (.iload 5, 2) := by decide +kernel
theorem dX7_slotOf_51 : decode cX7_slotOf 51 = .ok (.iconst 0, 1) := by decide +kernel
theorem dX7_slotOf_52 : decode cX7_slotOf 52 = .ok (.invokevirtual 59, 3) := by decide +kernel
theorem dX7_slotOf_55 : decode cX7_slotOf 55 = .ok (.ifCond .ne 18, 3) := by decide +kernel
theorem dX7_slotOf_58 : decode cX7_slotOf 58 = .ok (.aload_n 0, 1) := by decide +kernel
theorem dX7_slotOf_59 : decode cX7_slotOf 59 = .ok (.iload 5, 2) := by decide +kernel
theorem dX7_slotOf_61 : decode cX7_slotOf 61 = .ok (.iconst 1, 1) := by decide +kernel
theorem dX7_slotOf_62 : decode cX7_slotOf 62 = .ok (.invokevirtual 59, 3) := by decide +kernel
theorem dX7_slotOf_65 : decode cX7_slotOf 65 = .ok (.iload_n 3, 1) := by decide +kernel
theorem dX7_slotOf_66 : decode cX7_slotOf 66 = .ok (.if_icmp .ne 7, 3) := by decide +kernel
theorem dX7_slotOf_69 : decode cX7_slotOf 69 = .ok (.iconst 1, 1) := by decide +kernel
theorem dX7_slotOf_70 : decode cX7_slotOf 70 = .ok (.goto 4, 3) := by decide +kernel
theorem dX7_slotOf_73 : decode cX7_slotOf 73 = .ok (.iconst 0, 1) := by decide +kernel
theorem dX7_slotOf_74 : decode cX7_slotOf 74 = .ok (.iadd, 1) := by decide +kernel
theorem dX7_slotOf_75 : decode cX7_slotOf 75 = .ok (.istore 4, 2) := by decide +kernel
theorem dX7_slotOf_77 : decode cX7_slotOf 77 = .ok (.iinc 5 1, 3) := by decide +kernel
theorem dX7_slotOf_80 : decode cX7_slotOf 80 = .ok (.goto (-45), 3) := by decide +kernel
theorem dX7_slotOf_83 : decode cX7_slotOf 83 = .ok (.iload_n 3, 1) := by decide +kernel
theorem dX7_slotOf_84 : decode cX7_slotOf 84 = .ok (.ifCond .ne 8, 3) := by decide +kernel
theorem dX7_slotOf_87 : decode cX7_slotOf 87 = .ok (.ldc 58, 2) := by decide +kernel
theorem dX7_slotOf_89 : decode cX7_slotOf 89 = .ok (.goto 13, 3) := by decide +kernel
theorem dX7_slotOf_92 : decode cX7_slotOf 92 = .ok (.iload_n 2, 1) := by decide +kernel
theorem dX7_slotOf_93 : decode cX7_slotOf 93 = .ok (.ifCond .ne 7, 3) := by decide +kernel
theorem dX7_slotOf_96 : decode cX7_slotOf 96 = .ok (.iload_n 3, 1) := by decide +kernel
theorem dX7_slotOf_97 : decode cX7_slotOf 97 = .ok (.goto 5, 3) := by decide +kernel
theorem dX7_slotOf_100 : decode cX7_slotOf 100 = .ok (.iload 4, 2) := by decide +kernel
theorem dX7_slotOf_102 : decode cX7_slotOf 102 = .ok (.ireturn, 1) := by decide +kernel
set_option maxRecDepth 20000 in
theorem ggX7_until_X7_ofStandby : GoodIn wsX7_until wsX7_ofStandby := goodIn_r _ [7, 1, 20, 21, 22, 23, 24, 25, 26, 27, 28, 29, 30, 31, 32, 33] (by decide +kernel) (by decide +kernel)
set_option maxRecDepth 20000 in
theorem gX7_until_X7_ofStandby : GoodIn wsX7_until (wsV RX7 72 RX7 yX7_ofStandby wsX7_ofStandby) := goodIn_app (goodIn_of _ (by decide +kernel)) ggX7_until_X7_ofStandby
set_option maxRecDepth 20000 in
theorem ggX7_until_X7_goes : GoodIn wsX7_until wsX7_goes := goodIn_r _ [11, 1, 3, 4, 5, 6, 7, 12, 13, 14, 15, 16, 17, 18, 19, 20, 21, 22, 23, 24, 25, 26, 27, 28, 29, 30, 31, 32, 33] (by decide +kernel) (by decide +kernel)
set_option maxRecDepth 20000 in
theorem gX7_until_X7_goes : GoodIn wsX7_until (wsV RX7 86 RX7 yX7_goes wsX7_goes) := goodIn_app (goodIn_of _ (by decide +kernel)) ggX7_until_X7_goes
theorem dX7_until_0 : decode cX7_until 0 = .ok (.aload_n 0, 1) := by decide +kernel
theorem dX7_until_1 : decode cX7_until 1 = .ok (.iload_n 1, 1) := by decide +kernel
theorem dX7_until_2 : decode cX7_until 2 = .ok (.iconst 1, 1) := by decide +kernel
theorem dX7_until_3 : decode cX7_until 3 = .ok (.invokevirtual 72, 3) := by decide +kernel
theorem dX7_until_6 : decode cX7_until 6 = .ok (.istore 5, 2) := by decide +kernel
theorem dX7_until_8 : decode cX7_until 8 = .ok (.iconst 0, 1) := by decide +kernel
theorem dX7_until_9 : decode cX7_until 9 = .ok (.istore 6, 2) := by decide +kernel
theorem dX7_until_11 : decode cX7_until 11 = .ok (.iload 6, 2) := by decide +kernel
theorem dX7_until_13 : decode cX7_until 13 = .ok (.iload 4, 2) := by decide +kernel
theorem dX7_until_15 : decode cX7_until 15 = .ok (.if_icmp .gt 42, 3) := by decide +kernel
theorem dX7_until_18 : decode cX7_until 18 = .ok (.iload 5, 2) := by decide +kernel
theorem dX7_until_20 : decode cX7_until 20 = .ok (.iload_n 2, 1) := by decide +kernel
theorem dX7_until_21 : decode cX7_until 21 = .ok (.if_icmp .lt 6, 3) := by decide +kernel
theorem dX7_until_24 : decode cX7_until 24 = .ok (.iload 6, 2) := by decide +kernel
theorem dX7_until_26 : decode cX7_until 26 = .ok (.ireturn, 1) := by decide +kernel
theorem dX7_until_27 : decode cX7_until 27 = .ok (.iload 5, 2) := by decide +kernel
theorem dX7_until_29 : decode cX7_until 29 = .ok (.aload_n 0, 1) := by decide +kernel
theorem dX7_until_30 : decode cX7_until 30 = .ok (.iload_n 1, 1) := by decide +kernel
theorem dX7_until_31 : decode cX7_until 31 = .ok (.iload 5, 2) := by decide +kernel
theorem dX7_until_33 : decode cX7_until 33 = .ok (.aload_n 0, 1) := by decide +kernel
theorem dX7_until_34 : decode cX7_until 34 = .ok (.getfield 7, 3) := by decide +kernel
theorem dX7_until_37 : decode cX7_until 37 = .ok (.iconst 1, 1) := by decide +kernel
theorem dX7_until_38 : decode cX7_until 38 = .ok (.iaload, 1) := by decide +kernel
theorem dX7_until_39 : decode cX7_until 39 = .ok (.iload 6, 2) := by decide +kernel
theorem dX7_until_41 : decode cX7_until 41 = .ok (.iadd, 1) := by decide +kernel
theorem dX7_until_42 : decode cX7_until 42 = .ok (.iconst 1, 1) := by decide +kernel
theorem dX7_until_43 : decode cX7_until 43 = .ok (.iadd, 1) := by decide +kernel
theorem dX7_until_44 : decode cX7_until 44 = .ok (.iload_n 3, 1) := by decide +kernel
theorem dX7_until_45 : decode cX7_until 45 = .ok (.invokevirtual 86, 3) := by decide +kernel
theorem dX7_until_48 : decode cX7_until 48 = .ok (.iadd, 1) := by decide +kernel
theorem dX7_until_49 : decode cX7_until 49 = .ok (.istore 5, 2) := by decide +kernel
theorem dX7_until_51 : decode cX7_until 51 = .ok (.iinc 6 1, 3) := by decide +kernel
theorem dX7_until_54 : decode cX7_until 54 = .ok (.goto (-43), 3) := by decide +kernel
theorem dX7_until_57 : decode cX7_until 57 = .ok (.ldc 58, 2) := by decide +kernel
theorem dX7_until_59 : decode cX7_until 59 = .ok (.ireturn, 1) := by decide +kernel
set_option maxRecDepth 20000 in
theorem ggX7_waits_X7_isStandby : GoodIn wsX7_waits wsX7_isStandby := goodIn_r _ [7, 8, 9, 6, 10] (by decide +kernel) (by decide +kernel)
set_option maxRecDepth 20000 in
theorem gX7_waits_X7_isStandby : GoodIn wsX7_waits (va_wsS RX7 69 yX7_isStandby wsX7_isStandby) := goodIn_app (goodIn_of _ (by decide +kernel)) ggX7_waits_X7_isStandby
set_option maxRecDepth 20000 in
theorem ggX7_waits_X7_isFence : GoodIn wsX7_waits wsX7_isFence := goodIn_r _ [14, 3, 8, 9, 6, 10, 36, 37, 38, 39, 40, 41, 42, 43, 44, 45, 46, 47, 48, 49] (by decide +kernel) (by decide +kernel)
set_option maxRecDepth 20000 in
theorem gX7_waits_X7_isFence : GoodIn wsX7_waits (wsV RX7 99 RX7 yX7_isFence wsX7_isFence) := goodIn_app (goodIn_of _ (by decide +kernel)) ggX7_waits_X7_isFence
set_option maxRecDepth 20000 in
theorem ggX7_waits_X7_ofStandby : GoodIn wsX7_waits wsX7_ofStandby := goodIn_r _ [18, 3, 36, 37, 38, 39, 40, 41, 42, 43, 44, 45, 46, 47, 48, 49] (by decide +kernel) (by decide +kernel)
set_option maxRecDepth 20000 in
theorem gX7_waits_X7_ofStandby : GoodIn wsX7_waits (wsV RX7 72 RX7 yX7_ofStandby wsX7_ofStandby) := goodIn_app (goodIn_of _ (by decide +kernel)) ggX7_waits_X7_ofStandby
set_option maxRecDepth 20000 in
theorem ggX7_waits_X7_until : GoodIn wsX7_waits wsX7_until := goodIn_r _ [22, 3, 23, 15, 16, 17, 6, 18, 24, 25, 26, 27, 28, 29, 30, 31, 32, 33, 34, 35, 36, 37, 38, 39, 40, 41, 42, 43, 44, 45, 46, 47, 48, 49] (by decide +kernel) (by decide +kernel)
set_option maxRecDepth 20000 in
theorem gX7_waits_X7_until : GoodIn wsX7_waits (wsV RX7 114 RX7 yX7_until wsX7_until) := goodIn_app (goodIn_of _ (by decide +kernel)) ggX7_waits_X7_until
theorem dX7_waits_0 : decode cX7_waits 0 = .ok (.iload_n 1, 1) := by decide +kernel
theorem dX7_waits_1 : decode cX7_waits 1 = .ok (.invokestatic 69, 3) := by decide +kernel
theorem dX7_waits_4 : decode cX7_waits 4 = .ok (.ifCond .eq 11, 3) := by decide +kernel
theorem dX7_waits_7 : decode cX7_waits 7 = .ok (.aload_n 0, 1) := by decide +kernel
theorem dX7_waits_8 : decode cX7_waits 8 = .ok (.iload_n 2, 1) := by decide +kernel
theorem dX7_waits_9 : decode cX7_waits 9 = .ok (.invokevirtual 99, 3) := by decide +kernel
theorem dX7_waits_12 : decode cX7_waits 12 = .ok (.ifCond .ne 6, 3) := by decide +kernel
theorem dX7_waits_15 : decode cX7_waits 15 = .ok (.ldc 41, 2) := by decide +kernel
theorem dX7_waits_17 : decode cX7_waits 17 = .ok (.ireturn, 1) := by decide +kernel
theorem dX7_waits_18 : decode cX7_waits 18 = .ok (.aload_n 0, 1) := by decide +kernel
theorem dX7_waits_19 : decode cX7_waits 19 = .ok (.iload_n 1, 1) := by decide +kernel
theorem dX7_waits_20 : decode cX7_waits 20 = .ok (.iconst 2, 1) := by decide +kernel
theorem dX7_waits_21 : decode cX7_waits 21 = .ok (.invokevirtual 72, 3) := by decide +kernel
theorem dX7_waits_24 : decode cX7_waits 24 = .ok (.iconst 1, 1) := by decide +kernel
theorem dX7_waits_25 : decode cX7_waits 25 = .ok (.if_icmp .ne 8, 3) := by decide +kernel
theorem dX7_waits_28 : decode cX7_waits 28 = .ok (.ldc 42, 2) := by decide +kernel
theorem dX7_waits_30 : decode cX7_waits 30 = .ok (.goto 19, 3) := by decide +kernel
theorem dX7_waits_33 : decode cX7_waits 33 = .ok (.aload_n 0, 1) := by decide +kernel
theorem dX7_waits_34 : decode cX7_waits 34 = .ok (.iload_n 1, 1) := by decide +kernel
theorem dX7_waits_35 : decode cX7_waits 35 = .ok (.iload_n 2, 1) := by decide +kernel
theorem dX7_waits_36 : decode cX7_waits 36 = .ok (.aload_n 0, 1) := by decide +kernel
theorem dX7_waits_37 : decode cX7_waits 37 = .ok (.getfield 7, 3) := by decide +kernel
theorem dX7_waits_40 : decode cX7_waits 40 = .ok (.bipush 7, 2) := by decide +kernel
theorem dX7_waits_42 : decode cX7_waits 42 = .ok (.iaload, 1) := by decide +kernel
theorem dX7_waits_43 : decode cX7_waits 43 = .ok (.sipush 200, 3) := by decide +kernel
theorem dX7_waits_46 : decode cX7_waits 46 = .ok (.invokevirtual 114, 3) := by decide +kernel
theorem dX7_waits_49 : decode cX7_waits 49 = .ok (.ireturn, 1) := by decide +kernel
set_option maxRecDepth 20000 in
theorem ggX7_wouldLose_X7_isStandby : GoodIn wsX7_wouldLose wsX7_isStandby := goodIn_r _ [6, 7, 8, 5, 9] (by decide +kernel) (by decide +kernel)
set_option maxRecDepth 20000 in
theorem gX7_wouldLose_X7_isStandby : GoodIn wsX7_wouldLose (va_wsS RX7 69 yX7_isStandby wsX7_isStandby) := goodIn_app (goodIn_of _ (by decide +kernel)) ggX7_wouldLose_X7_isStandby
set_option maxRecDepth 20000 in
theorem ggX7_wouldLose_X7_ofStandby : GoodIn wsX7_wouldLose wsX7_ofStandby := goodIn_r _ [13, 14, 27, 28, 29, 30, 31, 32, 33, 34, 35, 36, 37, 38, 39, 40] (by decide +kernel) (by decide +kernel)
set_option maxRecDepth 20000 in
theorem gX7_wouldLose_X7_ofStandby : GoodIn wsX7_wouldLose (wsV RX7 72 RX7 yX7_ofStandby wsX7_ofStandby) := goodIn_app (goodIn_of _ (by decide +kernel)) ggX7_wouldLose_X7_ofStandby
set_option maxRecDepth 20000 in
theorem ggX7_wouldLose_X7_wouldBeLost : GoodIn wsX7_wouldLose wsX7_wouldBeLost := goodIn_r _ [18, 14, 10, 11, 12, 5, 13, 19, 20, 21, 22, 23, 24, 25, 26, 27, 28, 29, 30, 31, 32, 33, 34, 35, 36, 37, 38, 39, 40] (by decide +kernel) (by decide +kernel)
set_option maxRecDepth 20000 in
theorem gX7_wouldLose_X7_wouldBeLost : GoodIn wsX7_wouldLose (wsV RX7 92 RX7 yX7_wouldBeLost wsX7_wouldBeLost) := goodIn_app (goodIn_of _ (by decide +kernel)) ggX7_wouldLose_X7_wouldBeLost
theorem dX7_wouldLose_0 : decode cX7_wouldLose 0 = .ok (.iload_n 1, 1) := by decide +kernel
theorem dX7_wouldLose_1 : decode cX7_wouldLose 1 = .ok (.invokestatic 69, 3) := by decide +kernel
theorem dX7_wouldLose_4 : decode cX7_wouldLose 4 = .ok (.ifCond .ne 6, 3) := by decide +kernel
theorem dX7_wouldLose_7 : decode cX7_wouldLose 7 = .ok (.ldc 41, 2) := by decide +kernel
theorem dX7_wouldLose_9 : decode cX7_wouldLose 9 = .ok (.ireturn, 1) := by decide +kernel
theorem dX7_wouldLose_10 : decode cX7_wouldLose 10 = .ok (.aload_n 0, 1) := by decide +kernel
theorem dX7_wouldLose_11 : decode cX7_wouldLose 11 = .ok (.iload_n 1, 1) := by decide +kernel
theorem dX7_wouldLose_12 : decode cX7_wouldLose 12 = .ok (.iconst 2, 1) := by decide +kernel
theorem dX7_wouldLose_13 : decode cX7_wouldLose 13 = .ok (.invokevirtual 72, 3) := by decide +kernel
theorem dX7_wouldLose_16 : decode cX7_wouldLose 16 = .ok (.iconst 1, 1) := by decide +kernel
theorem dX7_wouldLose_17 : decode cX7_wouldLose 17 = .ok (.if_icmp .ne 8, 3) := by decide +kernel
theorem dX7_wouldLose_20 : decode cX7_wouldLose 20 = .ok (.ldc 42, 2) := by decide +kernel
theorem dX7_wouldLose_22 : decode cX7_wouldLose 22 = .ok (.goto 8, 3) := by decide +kernel
theorem dX7_wouldLose_25 : decode cX7_wouldLose 25 = .ok (.aload_n 0, 1) := by decide +kernel
theorem dX7_wouldLose_26 : decode cX7_wouldLose 26 = .ok (.iload_n 1, 1) := by decide +kernel
theorem dX7_wouldLose_27 : decode cX7_wouldLose 27 = .ok (.invokevirtual 92, 3) := by decide +kernel
theorem dX7_wouldLose_30 : decode cX7_wouldLose 30 = .ok (.ireturn, 1) := by decide +kernel
set_option maxRecDepth 20000 in
theorem ggX7_rateFor_X7_isStandby : GoodIn wsX7_rateFor wsX7_isStandby := goodIn_r _ [7, 8, 9, 6, 10] (by decide +kernel) (by decide +kernel)
set_option maxRecDepth 20000 in
theorem gX7_rateFor_X7_isStandby : GoodIn wsX7_rateFor (va_wsS RX7 69 yX7_isStandby wsX7_isStandby) := goodIn_app (goodIn_of _ (by decide +kernel)) ggX7_rateFor_X7_isStandby
set_option maxRecDepth 20000 in
theorem ggX7_rateFor_X7_in : GoodIn wsX7_rateFor wsX7_in := goodIn_r _ [10] (by decide +kernel) (by decide +kernel)
set_option maxRecDepth 20000 in
theorem gX7_rateFor_X7_in : GoodIn wsX7_rateFor (va_wsS RX7 33 yX7_in wsX7_in) := goodIn_app (goodIn_of _ (by decide +kernel)) ggX7_rateFor_X7_in
set_option maxRecDepth 20000 in
theorem ggX7_rateFor_X7_ofStandby : GoodIn wsX7_rateFor wsX7_ofStandby := goodIn_r _ [14, 15, 36, 37, 38, 39, 40, 41, 42, 43, 44, 45, 46, 47, 48, 49] (by decide +kernel) (by decide +kernel)
set_option maxRecDepth 20000 in
theorem gX7_rateFor_X7_ofStandby : GoodIn wsX7_rateFor (wsV RX7 72 RX7 yX7_ofStandby wsX7_ofStandby) := goodIn_app (goodIn_of _ (by decide +kernel)) ggX7_rateFor_X7_ofStandby
set_option maxRecDepth 20000 in
theorem ggX7_rateFor_X7_lowestGap : GoodIn wsX7_rateFor wsX7_lowestGap := goodIn_r _ [19, 3, 20, 21, 22, 6, 23, 15, 36, 37, 38, 39, 40, 41, 42, 43, 44, 45, 46, 47, 48, 49] (by decide +kernel) (by decide +kernel)
set_option maxRecDepth 20000 in
theorem gX7_rateFor_X7_lowestGap : GoodIn wsX7_rateFor (wsV RX7 108 RX7 yX7_lowestGap wsX7_lowestGap) := goodIn_app (goodIn_of _ (by decide +kernel)) ggX7_rateFor_X7_lowestGap
set_option maxRecDepth 20000 in
theorem ggX7_rateFor_X7_until : GoodIn wsX7_rateFor wsX7_until := goodIn_r _ [27, 15, 3, 11, 12, 13, 6, 14, 28, 29, 30, 31, 20, 21, 22, 23, 32, 33, 34, 35, 36, 37, 38, 39, 40, 41, 42, 43, 44, 45, 46, 47, 48, 49] (by decide +kernel) (by decide +kernel)
set_option maxRecDepth 20000 in
theorem gX7_rateFor_X7_until : GoodIn wsX7_rateFor (wsV RX7 114 RX7 yX7_until wsX7_until) := goodIn_app (goodIn_of _ (by decide +kernel)) ggX7_rateFor_X7_until
theorem dX7_rateFor_0 : decode cX7_rateFor 0 = .ok (.iload_n 1, 1) := by decide +kernel
theorem dX7_rateFor_1 : decode cX7_rateFor 1 = .ok (.invokestatic 69, 3) := by decide +kernel
theorem dX7_rateFor_4 : decode cX7_rateFor 4 = .ok (.ifCond .eq 13, 3) := by decide +kernel
theorem dX7_rateFor_7 : decode cX7_rateFor 7 = .ok (.iload_n 2, 1) := by decide +kernel
theorem dX7_rateFor_8 : decode cX7_rateFor 8 = .ok (.iconst 1, 1) := by decide +kernel
theorem dX7_rateFor_9 : decode cX7_rateFor 9 = .ok (.bipush 99, 2) := by decide +kernel
theorem dX7_rateFor_11 : decode cX7_rateFor 11 = .ok (.invokestatic 33, 3) := by decide +kernel
theorem dX7_rateFor_14 : decode cX7_rateFor 14 = .ok (.ifCond .ne 6, 3) := by decide +kernel
theorem dX7_rateFor_17 : decode cX7_rateFor 17 = .ok (.ldc 41, 2) := by decide +kernel
theorem dX7_rateFor_19 : decode cX7_rateFor 19 = .ok (.ireturn, 1) := by decide +kernel
theorem dX7_rateFor_20 : decode cX7_rateFor 20 = .ok (.aload_n 0, 1) := by decide +kernel
theorem dX7_rateFor_21 : decode cX7_rateFor 21 = .ok (.iload_n 1, 1) := by decide +kernel
theorem dX7_rateFor_22 : decode cX7_rateFor 22 = .ok (.iconst 2, 1) := by decide +kernel
theorem dX7_rateFor_23 : decode cX7_rateFor 23 = .ok (.invokevirtual 72, 3) := by decide +kernel
theorem dX7_rateFor_26 : decode cX7_rateFor 26 = .ok (.iconst 1, 1) := by decide +kernel
theorem dX7_rateFor_27 : decode cX7_rateFor 27 = .ok (.if_icmp .ne 6, 3) := by decide +kernel
theorem dX7_rateFor_30 : decode cX7_rateFor 30 = .ok (.ldc 42, 2) := by decide +kernel
theorem dX7_rateFor_32 : decode cX7_rateFor 32 = .ok (.ireturn, 1) := by decide +kernel
theorem dX7_rateFor_33 : decode cX7_rateFor 33 = .ok (.aload_n 0, 1) := by decide +kernel
theorem dX7_rateFor_34 : decode cX7_rateFor 34 = .ok (.iload_n 1, 1) := by decide +kernel
theorem dX7_rateFor_35 : decode cX7_rateFor 35 = .ok (.invokevirtual 108, 3) := by decide +kernel
theorem dX7_rateFor_38 : decode cX7_rateFor 38 = .ok (.istore_n 3, 1) := by decide +kernel
theorem dX7_rateFor_39 : decode cX7_rateFor 39 = .ok (.iload_n 3, 1) := by decide +kernel
theorem dX7_rateFor_40 : decode cX7_rateFor 40 = .ok (.ifCond .ge 12, 3) := by decide +kernel
theorem dX7_rateFor_43 : decode cX7_rateFor 43 = .ok (.aload_n 0, 1) := by decide +kernel
theorem dX7_rateFor_44 : decode cX7_rateFor 44 = .ok (.iload_n 1, 1) := by decide +kernel
theorem dX7_rateFor_45 : decode cX7_rateFor 45 = .ok (.iconst 0, 1) := by decide +kernel
theorem dX7_rateFor_46 : decode cX7_rateFor 46 = .ok (.invokevirtual 72, 3) := by decide +kernel
theorem dX7_rateFor_49 : decode cX7_rateFor 49 = .ok (.goto 6, 3) := by decide +kernel
theorem dX7_rateFor_52 : decode cX7_rateFor 52 = .ok (.iload_n 3, 1) := by decide +kernel
theorem dX7_rateFor_53 : decode cX7_rateFor 53 = .ok (.iconst 1, 1) := by decide +kernel
theorem dX7_rateFor_54 : decode cX7_rateFor 54 = .ok (.isub, 1) := by decide +kernel
theorem dX7_rateFor_55 : decode cX7_rateFor 55 = .ok (.istore 4, 2) := by decide +kernel
theorem dX7_rateFor_57 : decode cX7_rateFor 57 = .ok (.iconst 1, 1) := by decide +kernel
theorem dX7_rateFor_58 : decode cX7_rateFor 58 = .ok (.istore 5, 2) := by decide +kernel
theorem dX7_rateFor_60 : decode cX7_rateFor 60 = .ok (.iload 5, 2) := by decide +kernel
theorem dX7_rateFor_62 : decode cX7_rateFor 62 = .ok (.bipush 20, 2) := by decide +kernel
theorem dX7_rateFor_64 : decode cX7_rateFor 64 = .ok (.if_icmp .gt 25, 3) := by decide +kernel
theorem dX7_rateFor_67 : decode cX7_rateFor 67 = .ok (.aload_n 0, 1) := by decide +kernel
theorem dX7_rateFor_68 : decode cX7_rateFor 68 = .ok (.iload_n 1, 1) := by decide +kernel
theorem dX7_rateFor_69 : decode cX7_rateFor 69 = .ok (.iload 4, 2) := by decide +kernel
theorem dX7_rateFor_71 : decode cX7_rateFor 71 = .ok (.iload 5, 2) := by decide +kernel
theorem dX7_rateFor_73 : decode cX7_rateFor 73 = .ok (.iload_n 2, 1) := by decide +kernel
theorem dX7_rateFor_74 : decode cX7_rateFor 74 = .ok (.invokevirtual 114, 3) := by decide +kernel
theorem dX7_rateFor_77 : decode cX7_rateFor 77 = .ok (.ifCond .lt 6, 3) := by decide +kernel
theorem dX7_rateFor_80 : decode cX7_rateFor 80 = .ok (.iload 5, 2) := by decide +kernel
theorem dX7_rateFor_82 : decode cX7_rateFor 82 = .ok (.ireturn, 1) := by decide +kernel
theorem dX7_rateFor_83 : decode cX7_rateFor 83 = .ok (.iinc 5 1, 3) := by decide +kernel
theorem dX7_rateFor_86 : decode cX7_rateFor 86 = .ok (.goto (-26), 3) := by decide +kernel
theorem dX7_rateFor_89 : decode cX7_rateFor 89 = .ok (.ldc 58, 2) := by decide +kernel
theorem dX7_rateFor_91 : decode cX7_rateFor 91 = .ok (.ireturn, 1) := by decide +kernel
set_option maxRecDepth 20000 in
theorem ggX7_count_X7_commits : GoodIn wsX7_count wsX7_commits := goodIn_r _ [9, 10, 11, 12, 8, 13, 1, 14, 15, 16, 17, 18, 19, 20, 21, 22, 23, 24, 25, 26, 27] (by decide +kernel) (by decide +kernel)
set_option maxRecDepth 20000 in
theorem gX7_count_X7_commits : GoodIn wsX7_count (wsV RX7 89 RX7 yX7_commits wsX7_commits) := goodIn_app (goodIn_of _ (by decide +kernel)) ggX7_count_X7_commits
theorem dX7_count_0 : decode cX7_count 0 = .ok (.iload_n 1, 1) := by decide +kernel
theorem dX7_count_1 : decode cX7_count 1 = .ok (.tableswitch 156 0 21 #[103, 103, 103, 103, 110, 122, 122, 122, 133, 138, 156, 156, 156, 156, 156, 156, 156, 156, 156, 156, 143, 143], 103) := by decide +kernel
theorem dX7_count_104 : decode cX7_count 104 = .ok (.aload_n 0, 1) := by decide +kernel
theorem dX7_count_105 : decode cX7_count 105 = .ok (.getfield 7, 3) := by decide +kernel
theorem dX7_count_108 : decode cX7_count 108 = .ok (.iload_n 1, 1) := by decide +kernel
theorem dX7_count_109 : decode cX7_count 109 = .ok (.iaload, 1) := by decide +kernel
theorem dX7_count_110 : decode cX7_count 110 = .ok (.ireturn, 1) := by decide +kernel
theorem dX7_count_111 : decode cX7_count 111 = .ok (.aload_n 0, 1) := by decide +kernel
theorem dX7_count_112 : decode cX7_count 112 = .ok (.iconst 1, 1) := by decide +kernel
theorem dX7_count_113 : decode cX7_count 113 = .ok (.aload_n 0, 1) := by decide +kernel
theorem dX7_count_114 : decode cX7_count 114 = .ok (.getfield 7, 3) := by decide +kernel
theorem dX7_count_117 : decode cX7_count 117 = .ok (.iconst 0, 1) := by decide +kernel
theorem dX7_count_118 : decode cX7_count 118 = .ok (.iaload, 1) := by decide +kernel
theorem dX7_count_119 : decode cX7_count 119 = .ok (.invokevirtual 89, 3) := by decide +kernel
theorem dX7_count_122 : decode cX7_count 122 = .ok (.ireturn, 1) := by decide +kernel
theorem dX7_count_123 : decode cX7_count 123 = .ok (.aload_n 0, 1) := by decide +kernel
theorem dX7_count_124 : decode cX7_count 124 = .ok (.getfield 7, 3) := by decide +kernel
theorem dX7_count_127 : decode cX7_count 127 = .ok (.iconst 4, 1) := by decide +kernel
theorem dX7_count_128 : decode cX7_count 128 = .ok (.iload_n 1, 1) := by decide +kernel
theorem dX7_count_129 : decode cX7_count 129 = .ok (.iadd, 1) := by decide +kernel
theorem dX7_count_130 : decode cX7_count 130 = .ok (.iconst 5, 1) := by decide +kernel
theorem dX7_count_131 : decode cX7_count 131 = .ok (.isub, 1) := by decide +kernel
theorem dX7_count_132 : decode cX7_count 132 = .ok (.iaload, 1) := by decide +kernel
theorem dX7_count_133 : decode cX7_count 133 = .ok (.ireturn, 1) := by decide +kernel
theorem dX7_count_134 : decode cX7_count 134 = .ok (.aload_n 0, 1) := by decide +kernel
theorem dX7_count_135 : decode cX7_count 135 = .ok (.getfield 29, 3) := by decide +kernel
theorem dX7_count_138 : decode cX7_count 138 = .ok (.ireturn, 1) := by decide +kernel
theorem dX7_count_139 : decode cX7_count 139 = .ok (.aload_n 0, 1) := by decide +kernel
theorem dX7_count_140 : decode cX7_count 140 = .ok (.getfield 117, 3) := by decide +kernel
theorem dX7_count_143 : decode cX7_count 143 = .ok (.ireturn, 1) := by decide +kernel
theorem dX7_count_144 : decode cX7_count 144 = .ok (.aload_n 0, 1) := by decide +kernel
theorem dX7_count_145 : decode cX7_count 145 = .ok (.getfield 7, 3) := by decide +kernel
theorem dX7_count_148 : decode cX7_count 148 = .ok (.bipush 7, 2) := by decide +kernel
theorem dX7_count_150 : decode cX7_count 150 = .ok (.iload_n 1, 1) := by decide +kernel
theorem dX7_count_151 : decode cX7_count 151 = .ok (.iadd, 1) := by decide +kernel
theorem dX7_count_152 : decode cX7_count 152 = .ok (.bipush 20, 2) := by decide +kernel
theorem dX7_count_154 : decode cX7_count 154 = .ok (.isub, 1) := by decide +kernel
theorem dX7_count_155 : decode cX7_count 155 = .ok (.iaload, 1) := by decide +kernel
theorem dX7_count_156 : decode cX7_count 156 = .ok (.ireturn, 1) := by decide +kernel
theorem dX7_count_157 : decode cX7_count 157 = .ok (.ldc 41, 2) := by decide +kernel
theorem dX7_count_159 : decode cX7_count 159 = .ok (.ireturn, 1) := by decide +kernel
theorem dX7_undo_0 : decode cX7_undo 0 = .ok (.aload_n 0, 1) := by decide +kernel
theorem dX7_undo_1 : decode cX7_undo 1 = .ok (.getfield 29, 3) := by decide +kernel
theorem dX7_undo_4 : decode cX7_undo 4 = .ok (.ifCond .ne 6, 3) := by decide +kernel
theorem dX7_undo_7 : decode cX7_undo 7 = .ok (.ldc 42, 2) := by decide +kernel
theorem dX7_undo_9 : decode cX7_undo 9 = .ok (.ireturn, 1) := by decide +kernel
theorem dX7_undo_10 : decode cX7_undo 10 = .ok (.aload_n 0, 1) := by decide +kernel
theorem dX7_undo_11 : decode cX7_undo 11 = .ok (.dup, 1) := by decide +kernel
theorem dX7_undo_12 : decode cX7_undo 12 = .ok (.getfield 29, 3) := by decide +kernel
theorem dX7_undo_15 : decode cX7_undo 15 = .ok (.iconst 1, 1) := by decide +kernel
theorem dX7_undo_16 : decode cX7_undo 16 = .ok (.isub, 1) := by decide +kernel
theorem dX7_undo_17 : decode cX7_undo 17 = .ok (.putfield 29, 3) := by decide +kernel
theorem dX7_undo_20 : decode cX7_undo 20 = .ok (.iconst 0, 1) := by decide +kernel
theorem dX7_undo_21 : decode cX7_undo 21 = .ok (.istore_n 1, 1) := by decide +kernel
theorem dX7_undo_22 : decode cX7_undo 22 = .ok (.iload_n 1, 1) := by decide +kernel
theorem dX7_undo_23 : decode cX7_undo 23 = .ok (.sipush 718, 3) := by decide +kernel
theorem dX7_undo_26 : decode cX7_undo 26 = .ok (.if_icmp .ge 30, 3) := by decide +kernel
theorem dX7_undo_29 : decode cX7_undo 29 = .ok (.aload_n 0, 1) := by decide +kernel
theorem dX7_undo_30 : decode cX7_undo 30 = .ok (.getfield 7, 3) := by decide +kernel
theorem dX7_undo_33 : decode cX7_undo 33 = .ok (.iload_n 1, 1) := by decide +kernel
theorem dX7_undo_34 : decode cX7_undo 34 = .ok (.aload_n 0, 1) := by decide +kernel
theorem dX7_undo_35 : decode cX7_undo 35 = .ok (.getfield 13, 3) := by decide +kernel
theorem dX7_undo_38 : decode cX7_undo 38 = .ok (.sipush 718, 3) := by decide +kernel
theorem dX7_undo_41 : decode cX7_undo 41 = .ok (.aload_n 0, 1) := by decide +kernel
theorem dX7_undo_42 : decode cX7_undo 42 = .ok (.getfield 29, 3) := by decide +kernel
theorem dX7_undo_45 : decode cX7_undo 45 = .ok (.imul, 1) := by decide +kernel
theorem dX7_undo_46 : decode cX7_undo 46 = .ok (.iload_n 1, 1) := by decide +kernel
theorem dX7_undo_47 : decode cX7_undo 47 = .ok (.iadd, 1) := by decide +kernel
theorem dX7_undo_48 : decode cX7_undo 48 = .ok (.iaload, 1) := by decide +kernel
theorem dX7_undo_49 : decode cX7_undo 49 = .ok (.iastore, 1) := by decide +kernel
theorem dX7_undo_50 : decode cX7_undo 50 = .ok (.iinc 1 1, 3) := by decide +kernel
theorem dX7_undo_53 : decode cX7_undo 53 = .ok (.goto (-31), 3) := by decide +kernel
theorem dX7_undo_56 : decode cX7_undo 56 = .ok (.aload_n 0, 1) := by decide +kernel
theorem dX7_undo_57 : decode cX7_undo 57 = .ok (.getfield 29, 3) := by decide +kernel
theorem dX7_undo_60 : decode cX7_undo 60 = .ok (.ireturn, 1) := by decide +kernel
set_option maxRecDepth 20000 in
theorem ggX7_type_X7_in : GoodIn wsX7_type wsX7_in := goodIn_r _ [8] (by decide +kernel) (by decide +kernel)
set_option maxRecDepth 20000 in
theorem gX7_type_X7_in : GoodIn wsX7_type (va_wsS RX7 33 yX7_in wsX7_in) := goodIn_app (goodIn_of _ (by decide +kernel)) ggX7_type_X7_in
theorem dX7_type_0 : decode cX7_type 0 = .ok (.iload_n 1, 1) := by decide +kernel
theorem dX7_type_1 : decode cX7_type 1 = .ok (.bipush 32, 2) := by decide +kernel
theorem dX7_type_3 : decode cX7_type 3 = .ok (.bipush 126, 2) := by decide +kernel
theorem dX7_type_5 : decode cX7_type 5 = .ok (.invokestatic 33, 3) := by decide +kernel
theorem dX7_type_8 : decode cX7_type 8 = .ok (.ifCond .ne 6, 3) := by decide +kernel
theorem dX7_type_11 : decode cX7_type 11 = .ok (.ldc 41, 2) := by decide +kernel
theorem dX7_type_13 : decode cX7_type 13 = .ok (.ireturn, 1) := by decide +kernel
theorem dX7_type_14 : decode cX7_type 14 = .ok (.aload_n 0, 1) := by decide +kernel
theorem dX7_type_15 : decode cX7_type 15 = .ok (.getfield 117, 3) := by decide +kernel
theorem dX7_type_18 : decode cX7_type 18 = .ok (.bipush 60, 2) := by decide +kernel
theorem dX7_type_20 : decode cX7_type 20 = .ok (.if_icmp .ne 6, 3) := by decide +kernel
theorem dX7_type_23 : decode cX7_type 23 = .ok (.ldc 46, 2) := by decide +kernel
theorem dX7_type_25 : decode cX7_type 25 = .ok (.ireturn, 1) := by decide +kernel
theorem dX7_type_26 : decode cX7_type 26 = .ok (.aload_n 0, 1) := by decide +kernel
theorem dX7_type_27 : decode cX7_type 27 = .ok (.getfield 19, 3) := by decide +kernel
theorem dX7_type_30 : decode cX7_type 30 = .ok (.aload_n 0, 1) := by decide +kernel
theorem dX7_type_31 : decode cX7_type 31 = .ok (.getfield 117, 3) := by decide +kernel
theorem dX7_type_34 : decode cX7_type 34 = .ok (.iload_n 1, 1) := by decide +kernel
theorem dX7_type_35 : decode cX7_type 35 = .ok (.iastore, 1) := by decide +kernel
theorem dX7_type_36 : decode cX7_type 36 = .ok (.aload_n 0, 1) := by decide +kernel
theorem dX7_type_37 : decode cX7_type 37 = .ok (.dup, 1) := by decide +kernel
theorem dX7_type_38 : decode cX7_type 38 = .ok (.getfield 117, 3) := by decide +kernel
theorem dX7_type_41 : decode cX7_type 41 = .ok (.iconst 1, 1) := by decide +kernel
theorem dX7_type_42 : decode cX7_type 42 = .ok (.iadd, 1) := by decide +kernel
theorem dX7_type_43 : decode cX7_type 43 = .ok (.putfield 117, 3) := by decide +kernel
theorem dX7_type_46 : decode cX7_type 46 = .ok (.aload_n 0, 1) := by decide +kernel
theorem dX7_type_47 : decode cX7_type 47 = .ok (.getfield 117, 3) := by decide +kernel
theorem dX7_type_50 : decode cX7_type 50 = .ok (.ireturn, 1) := by decide +kernel
theorem dX7_clearText_0 : decode cX7_clearText 0 = .ok (.aload_n 0, 1) := by decide +kernel
theorem dX7_clearText_1 : decode cX7_clearText 1 = .ok (.getfield 117, 3) := by decide +kernel
theorem dX7_clearText_4 : decode cX7_clearText 4 = .ok (.istore_n 1, 1) := by decide +kernel
theorem dX7_clearText_5 : decode cX7_clearText 5 = .ok (.aload_n 0, 1) := by decide +kernel
theorem dX7_clearText_6 : decode cX7_clearText 6 = .ok (.iconst 0, 1) := by decide +kernel
theorem dX7_clearText_7 : decode cX7_clearText 7 = .ok (.putfield 117, 3) := by decide +kernel
theorem dX7_clearText_10 : decode cX7_clearText 10 = .ok (.iload_n 1, 1) := by decide +kernel
theorem dX7_clearText_11 : decode cX7_clearText 11 = .ok (.ireturn, 1) := by decide +kernel
set_option maxRecDepth 20000 in
theorem ggX7_isAt_X7_in : GoodIn wsX7_isAt wsX7_in := goodIn_r _ [7] (by decide +kernel) (by decide +kernel)
set_option maxRecDepth 20000 in
theorem gX7_isAt_X7_in : GoodIn wsX7_isAt (va_wsS RX7 33 yX7_in wsX7_in) := goodIn_app (goodIn_of _ (by decide +kernel)) ggX7_isAt_X7_in
theorem dX7_isAt_0 : decode cX7_isAt 0 = .ok (.aload_n 0, 1) := by decide +kernel
theorem dX7_isAt_1 : decode cX7_isAt 1 = .ok (.getfield 120, 3) := by decide +kernel
theorem dX7_isAt_4 : decode cX7_isAt 4 = .ok (.aload_n 0, 1) := by decide +kernel
theorem dX7_isAt_5 : decode cX7_isAt 5 = .ok (.getfield 117, 3) := by decide +kernel
theorem dX7_isAt_8 : decode cX7_isAt 8 = .ok (.if_icmp .ge 24, 3) := by decide +kernel
theorem dX7_isAt_11 : decode cX7_isAt 11 = .ok (.aload_n 0, 1) := by decide +kernel
theorem dX7_isAt_12 : decode cX7_isAt 12 = .ok (.getfield 19, 3) := by decide +kernel
theorem dX7_isAt_15 : decode cX7_isAt 15 = .ok (.aload_n 0, 1) := by decide +kernel
theorem dX7_isAt_16 : decode cX7_isAt 16 = .ok (.getfield 120, 3) := by decide +kernel
theorem dX7_isAt_19 : decode cX7_isAt 19 = .ok (.iaload, 1) := by decide +kernel
theorem dX7_isAt_20 : decode cX7_isAt 20 = .ok (.iload_n 1, 1) := by decide +kernel
theorem dX7_isAt_21 : decode cX7_isAt 21 = .ok (.iload_n 2, 1) := by decide +kernel
theorem dX7_isAt_22 : decode cX7_isAt 22 = .ok (.invokestatic 33, 3) := by decide +kernel
theorem dX7_isAt_25 : decode cX7_isAt 25 = .ok (.ifCond .eq 7, 3) := by decide +kernel
theorem dX7_isAt_28 : decode cX7_isAt 28 = .ok (.iconst 1, 1) := by decide +kernel
theorem dX7_isAt_29 : decode cX7_isAt 29 = .ok (.goto 4, 3) := by decide +kernel
theorem dX7_isAt_32 : decode cX7_isAt 32 = .ok (.iconst 0, 1) := by decide +kernel
theorem dX7_isAt_33 : decode cX7_isAt 33 = .ok (.ireturn, 1) := by decide +kernel
set_option maxRecDepth 20000 in
theorem ggX7_sign_X7_isAt : GoodIn wsX7_sign wsX7_isAt := goodIn_r _ [6, 1, 7, 8, 9, 10, 5, 11, 12, 13, 14, 15, 16, 17, 18, 19, 20, 21, 22, 23, 24, 25] (by decide +kernel) (by decide +kernel)
set_option maxRecDepth 20000 in
theorem gX7_sign_X7_isAt : GoodIn wsX7_sign (wsV RX7 123 RX7 yX7_isAt wsX7_isAt) := goodIn_app (goodIn_of _ (by decide +kernel)) ggX7_sign_X7_isAt
theorem dX7_sign_0 : decode cX7_sign 0 = .ok (.aload_n 0, 1) := by decide +kernel
theorem dX7_sign_1 : decode cX7_sign 1 = .ok (.iload_n 1, 1) := by decide +kernel
theorem dX7_sign_2 : decode cX7_sign 2 = .ok (.iload_n 1, 1) := by decide +kernel
theorem dX7_sign_3 : decode cX7_sign 3 = .ok (.invokevirtual 123, 3) := by decide +kernel
theorem dX7_sign_6 : decode cX7_sign 6 = .ok (.istore_n 2, 1) := by decide +kernel
theorem dX7_sign_7 : decode cX7_sign 7 = .ok (.aload_n 0, 1) := by decide +kernel
theorem dX7_sign_8 : decode cX7_sign 8 = .ok (.dup, 1) := by decide +kernel
theorem dX7_sign_9 : decode cX7_sign 9 = .ok (.getfield 120, 3) := by decide +kernel
theorem dX7_sign_12 : decode cX7_sign 12 = .ok (.iload_n 2, 1) := by decide +kernel
theorem dX7_sign_13 : decode cX7_sign 13 = .ok (.ifCond .eq 7, 3) := by decide +kernel
theorem dX7_sign_16 : decode cX7_sign 16 = .ok (.iconst 1, 1) := by decide +kernel
theorem dX7_sign_17 : decode cX7_sign 17 = .ok (.goto 4, 3) := by decide +kernel
theorem dX7_sign_20 : decode cX7_sign 20 = .ok (.iconst 0, 1) := by decide +kernel
theorem dX7_sign_21 : decode cX7_sign 21 = .ok (.iadd, 1) := by decide +kernel
theorem dX7_sign_22 : decode cX7_sign 22 = .ok (.putfield 120, 3) := by decide +kernel
theorem dX7_sign_25 : decode cX7_sign 25 = .ok (.iload_n 2, 1) := by decide +kernel
theorem dX7_sign_26 : decode cX7_sign 26 = .ok (.ireturn, 1) := by decide +kernel
set_option maxRecDepth 20000 in
theorem ggX7_number_X7_isAt : GoodIn wsX7_number wsX7_isAt := goodIn_r _ [8, 1, 9, 3, 10, 11, 7, 12, 13, 14, 15, 16, 17, 18, 19, 20, 21, 22, 23, 24, 25, 26] (by decide +kernel) (by decide +kernel)
set_option maxRecDepth 20000 in
theorem gX7_number_X7_isAt : GoodIn wsX7_number (wsV RX7 123 RX7 yX7_isAt wsX7_isAt) := goodIn_app (goodIn_of _ (by decide +kernel)) ggX7_number_X7_isAt
theorem dX7_number_0 : decode cX7_number 0 = .ok (.aload_n 0, 1) := by decide +kernel
theorem dX7_number_1 : decode cX7_number 1 = .ok (.getfield 120, 3) := by decide +kernel
theorem dX7_number_4 : decode cX7_number 4 = .ok (.istore_n 2, 1) := by decide +kernel
theorem dX7_number_5 : decode cX7_number 5 = .ok (.aload_n 0, 1) := by decide +kernel
theorem dX7_number_6 : decode cX7_number 6 = .ok (.getfield 22, 3) := by decide +kernel
theorem dX7_number_9 : decode cX7_number 9 = .ok (.iload_n 1, 1) := by decide +kernel
theorem dX7_number_10 : decode cX7_number 10 = .ok (.iconst 0, 1) := by decide +kernel
theorem dX7_number_11 : decode cX7_number 11 = .ok (.iastore, 1) := by decide +kernel
theorem dX7_number_12 : decode cX7_number 12 = .ok (.aload_n 0, 1) := by decide +kernel
theorem dX7_number_13 : decode cX7_number 13 = .ok (.bipush 48, 2) := by decide +kernel
theorem dX7_number_15 : decode cX7_number 15 = .ok (.bipush 57, 2) := by decide +kernel
theorem dX7_number_17 : decode cX7_number 17 = .ok (.invokevirtual 123, 3) := by decide +kernel
theorem dX7_number_20 : decode cX7_number 20 = .ok (.ifCond .eq 54, 3) := by decide +kernel
theorem dX7_number_23 : decode cX7_number 23 = .ok (.aload_n 0, 1) := by decide +kernel
theorem dX7_number_24 : decode cX7_number 24 = .ok (.getfield 120, 3) := by decide +kernel
theorem dX7_number_27 : decode cX7_number 27 = .ok (.iload_n 2, 1) := by decide +kernel
theorem dX7_number_28 : decode cX7_number 28 = .ok (.isub, 1) := by decide +kernel
theorem dX7_number_29 : decode cX7_number 29 = .ok (.iconst 3, 1) := by decide +kernel
theorem dX7_number_30 : decode cX7_number 30 = .ok (.if_icmp .ge 44, 3) := by decide +kernel
theorem dX7_number_33 : decode cX7_number 33 = .ok (.aload_n 0, 1) := by decide +kernel
theorem dX7_number_34 : decode cX7_number 34 = .ok (.getfield 22, 3) := by decide +kernel
theorem dX7_number_37 : decode cX7_number 37 = .ok (.iload_n 1, 1) := by decide +kernel
theorem dX7_number_38 : decode cX7_number 38 = .ok (.bipush 10, 2) := by decide +kernel
theorem dX7_number_40 : decode cX7_number 40 = .ok (.aload_n 0, 1) := by decide +kernel
theorem dX7_number_41 : decode cX7_number 41 = .ok (.getfield 22, 3) := by decide +kernel
theorem dX7_number_44 : decode cX7_number 44 = .ok (.iload_n 1, 1) := by decide +kernel
theorem dX7_number_45 : decode cX7_number 45 = .ok (.iaload, 1) := by decide +kernel
theorem dX7_number_46 : decode cX7_number 46 = .ok (.imul, 1) := by decide +kernel
theorem dX7_number_47 : decode cX7_number 47 = .ok (.aload_n 0, 1) := by decide +kernel
theorem dX7_number_48 : decode cX7_number 48 = .ok (.getfield 19, 3) := by decide +kernel
theorem dX7_number_51 : decode cX7_number 51 = .ok (.aload_n 0, 1) := by decide +kernel
theorem dX7_number_52 : decode cX7_number 52 = .ok (.getfield 120, 3) := by decide +kernel
theorem dX7_number_55 : decode cX7_number 55 = .ok (.iaload, 1) := by decide +kernel
theorem dX7_number_56 : decode cX7_number 56 = .ok (.iadd, 1) := by decide +kernel
theorem dX7_number_57 : decode cX7_number 57 = .ok (.bipush 48, 2) := by decide +kernel
theorem dX7_number_59 : decode cX7_number 59 = .ok (.isub, 1) := by decide +kernel
theorem dX7_number_60 : decode cX7_number 60 = .ok (.iastore, 1) := by decide +kernel
theorem dX7_number_61 : decode cX7_number 61 = .ok (.aload_n 0, 1) := by decide +kernel
theorem dX7_number_62 : decode cX7_number 62 = .ok (.dup, 1) := by decide +kernel
theorem dX7_number_63 : decode cX7_number 63 = .ok (.getfield 120, 3) := by decide +kernel
theorem dX7_number_66 : decode cX7_number 66 = .ok (.iconst 1, 1) := by decide +kernel
theorem dX7_number_67 : decode cX7_number 67 = .ok (.iadd, 1) := by decide +kernel
theorem dX7_number_68 : decode cX7_number 68 = .ok (.putfield 120, 3) := by decide +kernel
theorem dX7_number_71 : decode cX7_number 71 = .ok (.goto (-59), 3) := by decide +kernel
theorem dX7_number_74 : decode cX7_number 74 = .ok (.aload_n 0, 1) := by decide +kernel
theorem dX7_number_75 : decode cX7_number 75 = .ok (.getfield 120, 3) := by decide +kernel
theorem dX7_number_78 : decode cX7_number 78 = .ok (.iload_n 2, 1) := by decide +kernel
theorem dX7_number_79 : decode cX7_number 79 = .ok (.if_icmp .le 7, 3) := by decide +kernel
theorem dX7_number_82 : decode cX7_number 82 = .ok (.iconst 1, 1) := by decide +kernel
theorem dX7_number_83 : decode cX7_number 83 = .ok (.goto 4, 3) := by decide +kernel
theorem dX7_number_86 : decode cX7_number 86 = .ok (.iconst 0, 1) := by decide +kernel
theorem dX7_number_87 : decode cX7_number 87 = .ok (.ireturn, 1) := by decide +kernel
set_option maxRecDepth 20000 in
theorem ggX7_reads_X7_isAt : GoodIn wsX7_reads wsX7_isAt := goodIn_r _ [8, 2, 9, 1, 10, 11, 7, 12, 22, 23, 24, 25, 26, 27, 28, 29, 30, 31, 32, 33, 34, 35] (by decide +kernel) (by decide +kernel)
set_option maxRecDepth 20000 in
theorem gX7_reads_X7_isAt : GoodIn wsX7_reads (wsV RX7 123 RX7 yX7_isAt wsX7_isAt) := goodIn_app (goodIn_of _ (by decide +kernel)) ggX7_reads_X7_isAt
set_option maxRecDepth 20000 in
theorem ggX7_reads_X7_number : GoodIn wsX7_reads wsX7_number := goodIn_r _ [16, 2, 17, 1, 4, 5, 6, 7, 8, 9, 10, 11, 12, 22, 23, 24, 25, 26, 27, 28, 29, 30, 31, 32, 33, 34, 35] (by decide +kernel) (by decide +kernel)
set_option maxRecDepth 20000 in
theorem gX7_reads_X7_number : GoodIn wsX7_reads (wsV RX7 129 RX7 yX7_number wsX7_number) := goodIn_app (goodIn_of _ (by decide +kernel)) ggX7_reads_X7_number
set_option maxRecDepth 20000 in
theorem ggX7_reads_X7_sign : GoodIn wsX7_reads wsX7_sign := goodIn_r _ [21, 2, 4, 5, 6, 7, 8, 9, 1, 10, 11, 12, 22, 23, 24, 25, 26, 27, 28, 29, 30, 31, 32, 33, 34, 35] (by decide +kernel) (by decide +kernel)
set_option maxRecDepth 20000 in
theorem gX7_reads_X7_sign : GoodIn wsX7_reads (wsV RX7 132 RX7 yX7_sign wsX7_sign) := goodIn_app (goodIn_of _ (by decide +kernel)) ggX7_reads_X7_sign
theorem dX7_reads_0 : decode cX7_reads 0 = .ok (.aload_n 0, 1) := by decide +kernel
theorem dX7_reads_1 : decode cX7_reads 1 = .ok (.aload_n 0, 1) := by decide +kernel
theorem dX7_reads_2 : decode cX7_reads 2 = .ok (.bipush 33, 2) := by decide +kernel
theorem dX7_reads_4 : decode cX7_reads 4 = .ok (.bipush 126, 2) := by decide +kernel
theorem dX7_reads_6 : decode cX7_reads 6 = .ok (.invokevirtual 123, 3) := by decide +kernel
theorem dX7_reads_9 : decode cX7_reads 9 = .ok (.ifCond .eq 15, 3) := by decide +kernel
theorem dX7_reads_12 : decode cX7_reads 12 = .ok (.aload_n 0, 1) := by decide +kernel
theorem dX7_reads_13 : decode cX7_reads 13 = .ok (.getfield 19, 3) := by decide +kernel
theorem dX7_reads_16 : decode cX7_reads 16 = .ok (.aload_n 0, 1) := by decide +kernel
theorem dX7_reads_17 : decode cX7_reads 17 = .ok (.getfield 120, 3) := by decide +kernel
theorem dX7_reads_20 : decode cX7_reads 20 = .ok (.iaload, 1) := by decide +kernel
theorem dX7_reads_21 : decode cX7_reads 21 = .ok (.goto 4, 3) := by decide +kernel
theorem dX7_reads_24 : decode cX7_reads 24 = .ok (.iconst 0, 1) := by decide +kernel
theorem dX7_reads_25 : decode cX7_reads 25 = .ok (.putfield 126, 3) := by decide +kernel
theorem dX7_reads_28 : decode cX7_reads 28 = .ok (.aload_n 0, 1) := by decide +kernel
theorem dX7_reads_29 : decode cX7_reads 29 = .ok (.getfield 126, 3) := by decide +kernel
theorem dX7_reads_32 : decode cX7_reads 32 = .ok (.bipush 111, 2) := by decide +kernel
theorem dX7_reads_34 : decode cX7_reads 34 = .ok (.if_icmp .eq 30, 3) := by decide +kernel
theorem dX7_reads_37 : decode cX7_reads 37 = .ok (.aload_n 0, 1) := by decide +kernel
theorem dX7_reads_38 : decode cX7_reads 38 = .ok (.getfield 126, 3) := by decide +kernel
theorem dX7_reads_41 : decode cX7_reads 41 = .ok (.bipush 99, 2) := by decide +kernel
theorem dX7_reads_43 : decode cX7_reads 43 = .ok (.if_icmp .eq 21, 3) := by decide +kernel
theorem dX7_reads_46 : decode cX7_reads 46 = .ok (.aload_n 0, 1) := by decide +kernel
theorem dX7_reads_47 : decode cX7_reads 47 = .ok (.getfield 126, 3) := by decide +kernel
theorem dX7_reads_50 : decode cX7_reads 50 = .ok (.bipush 97, 2) := by decide +kernel
theorem dX7_reads_52 : decode cX7_reads 52 = .ok (.if_icmp .eq 12, 3) := by decide +kernel
theorem dX7_reads_55 : decode cX7_reads 55 = .ok (.aload_n 0, 1) := by decide +kernel
theorem dX7_reads_56 : decode cX7_reads 56 = .ok (.getfield 126, 3) := by decide +kernel
theorem dX7_reads_59 : decode cX7_reads 59 = .ok (.bipush 116, 2) := by decide +kernel
theorem dX7_reads_61 : decode cX7_reads 61 = .ok (.if_icmp .ne 7, 3) := by decide +kernel
theorem dX7_reads_64 : decode cX7_reads 64 = .ok (.iconst 1, 1) := by decide +kernel
theorem dX7_reads_65 : decode cX7_reads 65 = .ok (.goto 4, 3) := by decide +kernel
theorem dX7_reads_68 : decode cX7_reads 68 = .ok (.iconst 0, 1) := by decide +kernel
theorem dX7_reads_69 : decode cX7_reads 69 = .ok (.istore_n 1, 1) := by decide +kernel
theorem dX7_reads_70 : decode cX7_reads 70 = .ok (.iload_n 1, 1) := by decide +kernel
theorem dX7_reads_71 : decode cX7_reads 71 = .ok (.ifCond .ne 23, 3) := by decide +kernel
theorem dX7_reads_74 : decode cX7_reads 74 = .ok (.aload_n 0, 1) := by decide +kernel
theorem dX7_reads_75 : decode cX7_reads 75 = .ok (.getfield 126, 3) := by decide +kernel
theorem dX7_reads_78 : decode cX7_reads 78 = .ok (.bipush 112, 2) := by decide +kernel
theorem dX7_reads_80 : decode cX7_reads 80 = .ok (.if_icmp .eq 14, 3) := by decide +kernel
theorem dX7_reads_83 : decode cX7_reads 83 = .ok (.aload_n 0, 1) := by decide +kernel
theorem dX7_reads_84 : decode cX7_reads 84 = .ok (.getfield 126, 3) := by decide +kernel
theorem dX7_reads_87 : decode cX7_reads 87 = .ok (.bipush 115, 2) := by decide +kernel
theorem dX7_reads_89 : decode cX7_reads 89 = .ok (.if_icmp .eq 5, 3) := by decide +kernel
theorem dX7_reads_92 : decode cX7_reads 92 = .ok (.iconst 0, 1) := by decide +kernel
theorem dX7_reads_93 : decode cX7_reads 93 = .ok (.ireturn, 1) := by decide +kernel
theorem dX7_reads_94 : decode cX7_reads 94 = .ok (.aload_n 0, 1) := by decide +kernel
theorem dX7_reads_95 : decode cX7_reads 95 = .ok (.dup, 1) := by decide +kernel
theorem dX7_reads_96 : decode cX7_reads 96 = .ok (.getfield 120, 3) := by decide +kernel
theorem dX7_reads_99 : decode cX7_reads 99 = .ok (.iconst 1, 1) := by decide +kernel
theorem dX7_reads_100 : decode cX7_reads 100 = .ok (.iadd, 1) := by decide +kernel
theorem dX7_reads_101 : decode cX7_reads 101 = .ok (.putfield 120, 3) := by decide +kernel
theorem dX7_reads_104 : decode cX7_reads 104 = .ok (.aload_n 0, 1) := by decide +kernel
theorem dX7_reads_105 : decode cX7_reads 105 = .ok (.iconst 0, 1) := by decide +kernel
theorem dX7_reads_106 : decode cX7_reads 106 = .ok (.invokevirtual 129, 3) := by decide +kernel
theorem dX7_reads_109 : decode cX7_reads 109 = .ok (.ifCond .eq 28, 3) := by decide +kernel
theorem dX7_reads_112 : decode cX7_reads 112 = .ok (.iload_n 1, 1) := by decide +kernel
theorem dX7_reads_113 : decode cX7_reads 113 = .ok (.ifCond .ne 20, 3) := by decide +kernel
theorem dX7_reads_116 : decode cX7_reads 116 = .ok (.aload_n 0, 1) := by decide +kernel
theorem dX7_reads_117 : decode cX7_reads 117 = .ok (.bipush 44, 2) := by decide +kernel
theorem dX7_reads_119 : decode cX7_reads 119 = .ok (.invokevirtual 132, 3) := by decide +kernel
theorem dX7_reads_122 : decode cX7_reads 122 = .ok (.ifCond .eq 15, 3) := by decide +kernel
theorem dX7_reads_125 : decode cX7_reads 125 = .ok (.aload_n 0, 1) := by decide +kernel
theorem dX7_reads_126 : decode cX7_reads 126 = .ok (.iconst 1, 1) := by decide +kernel
theorem dX7_reads_127 : decode cX7_reads 127 = .ok (.invokevirtual 129, 3) := by decide +kernel
theorem dX7_reads_130 : decode cX7_reads 130 = .ok (.ifCond .eq 7, 3) := by decide +kernel
theorem dX7_reads_133 : decode cX7_reads 133 = .ok (.iconst 1, 1) := by decide +kernel
theorem dX7_reads_134 : decode cX7_reads 134 = .ok (.goto 4, 3) := by decide +kernel
theorem dX7_reads_137 : decode cX7_reads 137 = .ok (.iconst 0, 1) := by decide +kernel
theorem dX7_reads_138 : decode cX7_reads 138 = .ok (.istore_n 2, 1) := by decide +kernel
theorem dX7_reads_139 : decode cX7_reads 139 = .ok (.iload_n 2, 1) := by decide +kernel
theorem dX7_reads_140 : decode cX7_reads 140 = .ok (.ifCond .eq 42, 3) := by decide +kernel
theorem dX7_reads_143 : decode cX7_reads 143 = .ok (.aload_n 0, 1) := by decide +kernel
theorem dX7_reads_144 : decode cX7_reads 144 = .ok (.getfield 126, 3) := by decide +kernel
theorem dX7_reads_147 : decode cX7_reads 147 = .ok (.bipush 112, 2) := by decide +kernel
theorem dX7_reads_149 : decode cX7_reads 149 = .ok (.if_icmp .ne 20, 3) := by decide +kernel
theorem dX7_reads_152 : decode cX7_reads 152 = .ok (.aload_n 0, 1) := by decide +kernel
theorem dX7_reads_153 : decode cX7_reads 153 = .ok (.bipush 61, 2) := by decide +kernel
theorem dX7_reads_155 : decode cX7_reads 155 = .ok (.invokevirtual 132, 3) := by decide +kernel
theorem dX7_reads_158 : decode cX7_reads 158 = .ok (.ifCond .eq 24, 3) := by decide +kernel
theorem dX7_reads_161 : decode cX7_reads 161 = .ok (.aload_n 0, 1) := by decide +kernel
theorem dX7_reads_162 : decode cX7_reads 162 = .ok (.iconst 2, 1) := by decide +kernel
theorem dX7_reads_163 : decode cX7_reads 163 = .ok (.invokevirtual 129, 3) := by decide +kernel
theorem dX7_reads_166 : decode cX7_reads 166 = .ok (.ifCond .eq 16, 3) := by decide +kernel
theorem dX7_reads_169 : decode cX7_reads 169 = .ok (.aload_n 0, 1) := by decide +kernel
theorem dX7_reads_170 : decode cX7_reads 170 = .ok (.bipush 59, 2) := by decide +kernel
theorem dX7_reads_172 : decode cX7_reads 172 = .ok (.invokevirtual 132, 3) := by decide +kernel
theorem dX7_reads_175 : decode cX7_reads 175 = .ok (.ifCond .eq 7, 3) := by decide +kernel
theorem dX7_reads_178 : decode cX7_reads 178 = .ok (.iconst 1, 1) := by decide +kernel
theorem dX7_reads_179 : decode cX7_reads 179 = .ok (.goto 4, 3) := by decide +kernel
theorem dX7_reads_182 : decode cX7_reads 182 = .ok (.iconst 0, 1) := by decide +kernel
theorem dX7_reads_183 : decode cX7_reads 183 = .ok (.ireturn, 1) := by decide +kernel
set_option maxRecDepth 20000 in
theorem ggX7_calls_X7_open : GoodIn wsX7_calls wsX7_open := goodIn_r _ [7, 8, 9, 10, 11, 12, 6, 13, 14, 15, 16, 17, 18, 19, 20, 21, 22, 23, 76, 77, 78, 79, 80, 81, 82, 83, 84, 85, 86, 87, 88, 89] (by decide +kernel) (by decide +kernel)
set_option maxRecDepth 20000 in
theorem gX7_calls_X7_open : GoodIn wsX7_calls (wsV RX7 135 RX7 yX7_open wsX7_open) := goodIn_app (goodIn_of _ (by decide +kernel)) ggX7_calls_X7_open
set_option maxRecDepth 20000 in
theorem ggX7_calls_X7_commit : GoodIn wsX7_calls wsX7_commit := goodIn_r _ [27, 28, 29, 30, 31, 6, 32, 8, 9, 10, 33, 11, 12, 13, 14, 15, 16, 34, 35, 36, 37, 17, 18, 19, 20, 21, 22, 23, 76, 77, 78, 79, 80, 81, 82, 83, 84, 85, 86, 87, 88, 89] (by decide +kernel) (by decide +kernel)
set_option maxRecDepth 20000 in
theorem gX7_calls_X7_commit : GoodIn wsX7_calls (wsV RX7 138 RX7 yX7_commit wsX7_commit) := goodIn_app (goodIn_of _ (by decide +kernel)) ggX7_calls_X7_commit
set_option maxRecDepth 20000 in
theorem ggX7_calls_X7_abort : GoodIn wsX7_calls wsX7_abort := goodIn_r _ [41, 28, 29, 30, 31, 6, 32, 8, 9, 10, 33, 11, 12, 13, 14, 15, 16, 34, 35, 36, 37, 17, 18, 19, 20, 21, 22, 23, 76, 77, 78, 79, 80, 81, 82, 83, 84, 85, 86, 87, 88, 89] (by decide +kernel) (by decide +kernel)
set_option maxRecDepth 20000 in
theorem gX7_calls_X7_abort : GoodIn wsX7_calls (wsV RX7 141 RX7 yX7_abort wsX7_abort) := goodIn_app (goodIn_of _ (by decide +kernel)) ggX7_calls_X7_abort
set_option maxRecDepth 20000 in
theorem ggX7_calls_X7_put : GoodIn wsX7_calls wsX7_put := goodIn_r _ [45, 8, 46, 47, 6, 48, 14, 15, 16, 29, 30, 31, 32, 9, 10, 33, 11, 12, 13, 34, 35, 36, 37, 17, 18, 19, 20, 21, 22, 23, 76, 77, 78, 79, 80, 81, 82, 83, 84, 85, 86, 87, 88, 89] (by decide +kernel) (by decide +kernel)
set_option maxRecDepth 20000 in
theorem gX7_calls_X7_put : GoodIn wsX7_calls (wsV RX7 144 RX7 yX7_put wsX7_put) := goodIn_app (goodIn_of _ (by decide +kernel)) ggX7_calls_X7_put
set_option maxRecDepth 20000 in
theorem ggX7_calls_X7_ship : GoodIn wsX7_calls wsX7_ship := goodIn_r _ [52, 8, 10, 9, 53, 54, 6, 55, 14, 15, 16, 56, 57, 58, 59, 17, 18, 19, 20, 21, 22, 23, 76, 77, 78, 79, 80, 81, 82, 83, 84, 85, 86, 87, 88, 89] (by decide +kernel) (by decide +kernel)
set_option maxRecDepth 20000 in
theorem gX7_calls_X7_ship : GoodIn wsX7_calls (wsV RX7 148 RX7 yX7_ship wsX7_ship) := goodIn_app (goodIn_of _ (by decide +kernel)) ggX7_calls_X7_ship
set_option maxRecDepth 20000 in
theorem ggX7_calls_X7_tick : GoodIn wsX7_calls wsX7_tick := goodIn_r _ [63, 8, 9, 14, 15, 6, 16, 17, 18, 19, 20, 21, 22, 23, 56, 57, 58, 59, 64, 65, 66, 67, 68, 69, 70, 71, 72, 73, 74, 75, 76, 77, 78, 79, 80, 81, 82, 83, 84, 85, 86, 87, 88, 89] (by decide +kernel) (by decide +kernel)
set_option maxRecDepth 20000 in
theorem gX7_calls_X7_tick : GoodIn wsX7_calls (wsV RX7 151 RX7 yX7_tick wsX7_tick) := goodIn_app (goodIn_of _ (by decide +kernel)) ggX7_calls_X7_tick
theorem dX7_calls_0 : decode cX7_calls 0 = .ok (.aload_n 0, 1) := by decide +kernel
theorem dX7_calls_1 : decode cX7_calls 1 = .ok (.getfield 126, 3) := by decide +kernel
theorem dX7_calls_4 : decode cX7_calls 4 = .ok (.lookupswitch 125 #[(97, 74), (99, 63), (111, 52), (112, 85), (115, 108)], 52) := by decide +kernel
theorem dX7_calls_56 : decode cX7_calls 56 = .ok (.aload_n 0, 1) := by decide +kernel
theorem dX7_calls_57 : decode cX7_calls 57 = .ok (.aload_n 0, 1) := by decide +kernel
theorem dX7_calls_58 : decode cX7_calls 58 = .ok (.getfield 22, 3) := by decide +kernel
theorem dX7_calls_61 : decode cX7_calls 61 = .ok (.iconst 0, 1) := by decide +kernel
theorem dX7_calls_62 : decode cX7_calls 62 = .ok (.iaload, 1) := by decide +kernel
theorem dX7_calls_63 : decode cX7_calls 63 = .ok (.invokevirtual 135, 3) := by decide +kernel
theorem dX7_calls_66 : decode cX7_calls 66 = .ok (.ireturn, 1) := by decide +kernel
theorem dX7_calls_67 : decode cX7_calls 67 = .ok (.aload_n 0, 1) := by decide +kernel
theorem dX7_calls_68 : decode cX7_calls 68 = .ok (.aload_n 0, 1) := by decide +kernel
theorem dX7_calls_69 : decode cX7_calls 69 = .ok (.getfield 22, 3) := by decide +kernel
theorem dX7_calls_72 : decode cX7_calls 72 = .ok (.iconst 0, 1) := by decide +kernel
theorem dX7_calls_73 : decode cX7_calls 73 = .ok (.iaload, 1) := by decide +kernel
theorem dX7_calls_74 : decode cX7_calls 74 = .ok (.invokevirtual 138, 3) := by decide +kernel
theorem dX7_calls_77 : decode cX7_calls 77 = .ok (.ireturn, 1) := by decide +kernel
theorem dX7_calls_78 : decode cX7_calls 78 = .ok (.aload_n 0, 1) := by decide +kernel
theorem dX7_calls_79 : decode cX7_calls 79 = .ok (.aload_n 0, 1) := by decide +kernel
theorem dX7_calls_80 : decode cX7_calls 80 = .ok (.getfield 22, 3) := by decide +kernel
theorem dX7_calls_83 : decode cX7_calls 83 = .ok (.iconst 0, 1) := by decide +kernel
theorem dX7_calls_84 : decode cX7_calls 84 = .ok (.iaload, 1) := by decide +kernel
theorem dX7_calls_85 : decode cX7_calls 85 = .ok (.invokevirtual 141, 3) := by decide +kernel
theorem dX7_calls_88 : decode cX7_calls 88 = .ok (.ireturn, 1) := by decide +kernel
theorem dX7_calls_89 : decode cX7_calls 89 = .ok (.aload_n 0, 1) := by decide +kernel
theorem dX7_calls_90 : decode cX7_calls 90 = .ok (.aload_n 0, 1) := by decide +kernel
theorem dX7_calls_91 : decode cX7_calls 91 = .ok (.getfield 22, 3) := by decide +kernel
theorem dX7_calls_94 : decode cX7_calls 94 = .ok (.iconst 0, 1) := by decide +kernel
theorem dX7_calls_95 : decode cX7_calls 95 = .ok (.iaload, 1) := by decide +kernel
theorem dX7_calls_96 : decode cX7_calls 96 = .ok (.aload_n 0, 1) := by decide +kernel
theorem dX7_calls_97 : decode cX7_calls 97 = .ok (.getfield 22, 3) := by decide +kernel
theorem dX7_calls_100 : decode cX7_calls 100 = .ok (.iconst 1, 1) := by decide +kernel
theorem dX7_calls_101 : decode cX7_calls 101 = .ok (.iaload, 1) := by decide +kernel
theorem dX7_calls_102 : decode cX7_calls 102 = .ok (.aload_n 0, 1) := by decide +kernel
theorem dX7_calls_103 : decode cX7_calls 103 = .ok (.getfield 22, 3) := by decide +kernel
theorem dX7_calls_106 : decode cX7_calls 106 = .ok (.iconst 2, 1) := by decide +kernel
theorem dX7_calls_107 : decode cX7_calls 107 = .ok (.iaload, 1) := by decide +kernel
theorem dX7_calls_108 : decode cX7_calls 108 = .ok (.invokevirtual 144, 3) := by decide +kernel
theorem dX7_calls_111 : decode cX7_calls 111 = .ok (.ireturn, 1) := by decide +kernel
theorem dX7_calls_112 : decode cX7_calls 112 = .ok (.aload_n 0, 1) := by decide +kernel
theorem dX7_calls_113 : decode cX7_calls 113 = .ok (.aload_n 0, 1) := by decide +kernel
theorem dX7_calls_114 : decode cX7_calls 114 = .ok (.getfield 22, 3) := by decide +kernel
theorem dX7_calls_117 : decode cX7_calls 117 = .ok (.iconst 0, 1) := by decide +kernel
theorem dX7_calls_118 : decode cX7_calls 118 = .ok (.iaload, 1) := by decide +kernel
theorem dX7_calls_119 : decode cX7_calls 119 = .ok (.aload_n 0, 1) := by decide +kernel
theorem dX7_calls_120 : decode cX7_calls 120 = .ok (.getfield 22, 3) := by decide +kernel
theorem dX7_calls_123 : decode cX7_calls 123 = .ok (.iconst 1, 1) := by decide +kernel
end
section
theorem dX7_calls_124 : decode cX7_calls 124 = .ok (.iaload, 1) := by decide +kernel
theorem dX7_calls_125 : decode cX7_calls 125 = .ok (.invokevirtual 148, 3) := by decide +kernel
theorem dX7_calls_128 : decode cX7_calls 128 = .ok (.ireturn, 1) := by decide +kernel
theorem dX7_calls_129 : decode cX7_calls 129 = .ok (.aload_n 0, 1) := by decide +kernel
theorem dX7_calls_130 : decode cX7_calls 130 = .ok (.aload_n 0, 1) := by decide +kernel
theorem dX7_calls_131 : decode cX7_calls 131 = .ok (.getfield 22, 3) := by decide +kernel
theorem dX7_calls_134 : decode cX7_calls 134 = .ok (.iconst 0, 1) := by decide +kernel
theorem dX7_calls_135 : decode cX7_calls 135 = .ok (.iaload, 1) := by decide +kernel
theorem dX7_calls_136 : decode cX7_calls 136 = .ok (.invokevirtual 151, 3) := by decide +kernel
theorem dX7_calls_139 : decode cX7_calls 139 = .ok (.ireturn, 1) := by decide +kernel
set_option maxRecDepth 20000 in
theorem ggX7_plays_X7_reads : GoodIn wsX7_plays wsX7_reads := goodIn_r _ [12, 13, 2, 14, 15, 16, 17, 11, 18, 5, 19, 20, 21, 22, 23, 24, 25, 26, 27, 28, 29, 30, 103, 104, 105, 106, 107, 108, 109, 110, 111, 112, 113, 114, 115, 116] (by decide +kernel) (by decide +kernel)
set_option maxRecDepth 20000 in
theorem gX7_plays_X7_reads : GoodIn wsX7_plays (wsV RX7 160 RX7 yX7_reads wsX7_reads) := goodIn_app (goodIn_of _ (by decide +kernel)) ggX7_plays_X7_reads
set_option maxRecDepth 20000 in
theorem ggX7_plays_X7_calls : GoodIn wsX7_plays wsX7_calls := goodIn_r _ [34, 14, 26, 35, 36, 37, 11, 38, 39, 40, 41, 42, 43, 44, 19, 20, 21, 45, 46, 47, 48, 1, 49, 50, 51, 52, 53, 54, 55, 56, 57, 58, 59, 60, 61, 62, 63, 64, 65, 66, 67, 68, 69, 70, 71, 72, 73, 74, 75, 76, 77, 78, 79, 80, 81, 82, 83, 84, 85, 86, 87, 88, 89, 90, 91, 92, 93, 94, 95, 96, 97, 98, 99, 100, 101, 102, 103, 104, 105, 106, 107, 108, 109, 110, 111, 112, 113, 114, 115, 116] (by decide +kernel) (by decide +kernel)
set_option maxRecDepth 20000 in
theorem gX7_plays_X7_calls : GoodIn wsX7_plays (wsV RX7 164 RX7 yX7_calls wsX7_calls) := goodIn_app (goodIn_of _ (by decide +kernel)) ggX7_plays_X7_calls
theorem dX7_plays_0 : decode cX7_plays 0 = .ok (.aload_n 0, 1) := by decide +kernel
theorem dX7_plays_1 : decode cX7_plays 1 = .ok (.iconst 1, 1) := by decide +kernel
theorem dX7_plays_2 : decode cX7_plays 2 = .ok (.putfield 25, 3) := by decide +kernel
theorem dX7_plays_5 : decode cX7_plays 5 = .ok (.aload_n 0, 1) := by decide +kernel
theorem dX7_plays_6 : decode cX7_plays 6 = .ok (.iconst 0, 1) := by decide +kernel
theorem dX7_plays_7 : decode cX7_plays 7 = .ok (.putfield 120, 3) := by decide +kernel
theorem dX7_plays_10 : decode cX7_plays 10 = .ok (.aload_n 0, 1) := by decide +kernel
theorem dX7_plays_11 : decode cX7_plays 11 = .ok (.iconst 0, 1) := by decide +kernel
theorem dX7_plays_12 : decode cX7_plays 12 = .ok (.putfield 154, 3) := by decide +kernel
theorem dX7_plays_15 : decode cX7_plays 15 = .ok (.aload_n 0, 1) := by decide +kernel
theorem dX7_plays_16 : decode cX7_plays 16 = .ok (.iconst 0, 1) := by decide +kernel
theorem dX7_plays_17 : decode cX7_plays 17 = .ok (.putfield 157, 3) := by decide +kernel
theorem dX7_plays_20 : decode cX7_plays 20 = .ok (.iconst 1, 1) := by decide +kernel
theorem dX7_plays_21 : decode cX7_plays 21 = .ok (.istore_n 1, 1) := by decide +kernel
theorem dX7_plays_22 : decode cX7_plays 22 = .ok (.aload_n 0, 1) := by decide +kernel
theorem dX7_plays_23 : decode cX7_plays 23 = .ok (.getfield 120, 3) := by decide +kernel
theorem dX7_plays_26 : decode cX7_plays 26 = .ok (.aload_n 0, 1) := by decide +kernel
theorem dX7_plays_27 : decode cX7_plays 27 = .ok (.getfield 117, 3) := by decide +kernel
theorem dX7_plays_30 : decode cX7_plays 30 = .ok (.if_icmp .ge 94, 3) := by decide +kernel
theorem dX7_plays_33 : decode cX7_plays 33 = .ok (.iload_n 1, 1) := by decide +kernel
theorem dX7_plays_34 : decode cX7_plays 34 = .ok (.ifCond .eq 90, 3) := by decide +kernel
theorem dX7_plays_37 : decode cX7_plays 37 = .ok (.aload_n 0, 1) := by decide +kernel
theorem dX7_plays_38 : decode cX7_plays 38 = .ok (.aload_n 0, 1) := by decide +kernel
theorem dX7_plays_39 : decode cX7_plays 39 = .ok (.getfield 120, 3) := by decide +kernel
theorem dX7_plays_42 : decode cX7_plays 42 = .ok (.putfield 154, 3) := by decide +kernel
theorem dX7_plays_45 : decode cX7_plays 45 = .ok (.aload_n 0, 1) := by decide +kernel
theorem dX7_plays_46 : decode cX7_plays 46 = .ok (.invokevirtual 160, 3) := by decide +kernel
theorem dX7_plays_49 : decode cX7_plays 49 = .ok (.istore_n 2, 1) := by decide +kernel
theorem dX7_plays_50 : decode cX7_plays 50 = .ok (.iload_n 2, 1) := by decide +kernel
theorem dX7_plays_51 : decode cX7_plays 51 = .ok (.ifCond .eq 10, 3) := by decide +kernel
theorem dX7_plays_54 : decode cX7_plays 54 = .ok (.aload_n 0, 1) := by decide +kernel
theorem dX7_plays_55 : decode cX7_plays 55 = .ok (.invokevirtual 164, 3) := by decide +kernel
theorem dX7_plays_58 : decode cX7_plays 58 = .ok (.goto 4, 3) := by decide +kernel
theorem dX7_plays_61 : decode cX7_plays 61 = .ok (.iconst 0, 1) := by decide +kernel
theorem dX7_plays_62 : decode cX7_plays 62 = .ok (.istore_n 3, 1) := by decide +kernel
theorem dX7_plays_63 : decode cX7_plays 63 = .ok (.iload_n 2, 1) := by decide +kernel
theorem dX7_plays_64 : decode cX7_plays 64 = .ok (.ifCond .eq 11, 3) := by decide +kernel
theorem dX7_plays_67 : decode cX7_plays 67 = .ok (.iload_n 3, 1) := by decide +kernel
theorem dX7_plays_68 : decode cX7_plays 68 = .ok (.ifCond .lt 7, 3) := by decide +kernel
theorem dX7_plays_71 : decode cX7_plays 71 = .ok (.iconst 1, 1) := by decide +kernel
theorem dX7_plays_72 : decode cX7_plays 72 = .ok (.goto 4, 3) := by decide +kernel
theorem dX7_plays_75 : decode cX7_plays 75 = .ok (.iconst 0, 1) := by decide +kernel
theorem dX7_plays_76 : decode cX7_plays 76 = .ok (.istore_n 1, 1) := by decide +kernel
theorem dX7_plays_77 : decode cX7_plays 77 = .ok (.aload_n 0, 1) := by decide +kernel
theorem dX7_plays_78 : decode cX7_plays 78 = .ok (.iload_n 2, 1) := by decide +kernel
theorem dX7_plays_79 : decode cX7_plays 79 = .ok (.ifCond .eq 7, 3) := by decide +kernel
theorem dX7_plays_82 : decode cX7_plays 82 = .ok (.iconst 2, 1) := by decide +kernel
theorem dX7_plays_83 : decode cX7_plays 83 = .ok (.goto 4, 3) := by decide +kernel
theorem dX7_plays_86 : decode cX7_plays 86 = .ok (.iconst 1, 1) := by decide +kernel
theorem dX7_plays_87 : decode cX7_plays 87 = .ok (.putfield 168, 3) := by decide +kernel
theorem dX7_plays_90 : decode cX7_plays 90 = .ok (.aload_n 0, 1) := by decide +kernel
theorem dX7_plays_91 : decode cX7_plays 91 = .ok (.iload_n 2, 1) := by decide +kernel
theorem dX7_plays_92 : decode cX7_plays 92 = .ok (.ifCond .eq 7, 3) := by decide +kernel
theorem dX7_plays_95 : decode cX7_plays 95 = .ok (.iload_n 3, 1) := by decide +kernel
theorem dX7_plays_96 : decode cX7_plays 96 = .ok (.goto 12, 3) := by decide +kernel
theorem dX7_plays_99 : decode cX7_plays 99 = .ok (.aload_n 0, 1) := by decide +kernel
theorem dX7_plays_100 : decode cX7_plays 100 = .ok (.getfield 120, 3) := by decide +kernel
theorem dX7_plays_103 : decode cX7_plays 103 = .ok (.aload_n 0, 1) := by decide +kernel
theorem dX7_plays_104 : decode cX7_plays 104 = .ok (.getfield 154, 3) := by decide +kernel
theorem dX7_plays_107 : decode cX7_plays 107 = .ok (.isub, 1) := by decide +kernel
theorem dX7_plays_108 : decode cX7_plays 108 = .ok (.putfield 171, 3) := by decide +kernel
theorem dX7_plays_111 : decode cX7_plays 111 = .ok (.aload_n 0, 1) := by decide +kernel
theorem dX7_plays_112 : decode cX7_plays 112 = .ok (.dup, 1) := by decide +kernel
theorem dX7_plays_113 : decode cX7_plays 113 = .ok (.getfield 157, 3) := by decide +kernel
theorem dX7_plays_116 : decode cX7_plays 116 = .ok (.iconst 1, 1) := by decide +kernel
theorem dX7_plays_117 : decode cX7_plays 117 = .ok (.iadd, 1) := by decide +kernel
theorem dX7_plays_118 : decode cX7_plays 118 = .ok (.putfield 157, 3) := by decide +kernel
theorem dX7_plays_121 : decode cX7_plays 121 = .ok (.goto (-99), 3) := by decide +kernel
theorem dX7_plays_124 : decode cX7_plays 124 = .ok (.aload_n 0, 1) := by decide +kernel
theorem dX7_plays_125 : decode cX7_plays 125 = .ok (.iconst 0, 1) := by decide +kernel
theorem dX7_plays_126 : decode cX7_plays 126 = .ok (.putfield 25, 3) := by decide +kernel
theorem dX7_plays_129 : decode cX7_plays 129 = .ok (.iload_n 1, 1) := by decide +kernel
theorem dX7_plays_130 : decode cX7_plays 130 = .ok (.ireturn, 1) := by decide +kernel
set_option maxRecDepth 20000 in
theorem ggX7_fault_X7_in : GoodIn wsX7_fault wsX7_in := goodIn_r _ [11] (by decide +kernel) (by decide +kernel)
set_option maxRecDepth 20000 in
theorem gX7_fault_X7_in : GoodIn wsX7_fault (va_wsS RX7 33 yX7_in wsX7_in) := goodIn_app (goodIn_of _ (by decide +kernel)) ggX7_fault_X7_in
set_option maxRecDepth 20000 in
theorem ggX7_fault_X7_copies : GoodIn wsX7_fault wsX7_copies := goodIn_r _ [14] (by decide +kernel) (by decide +kernel)
set_option maxRecDepth 20000 in
theorem gX7_fault_X7_copies : GoodIn wsX7_fault (va_wsS RX7 174 yX7_copies wsX7_copies) := goodIn_app (goodIn_of _ (by decide +kernel)) ggX7_fault_X7_copies
set_option maxRecDepth 20000 in
theorem ggX7_fault_X7_plays : GoodIn wsX7_fault wsX7_plays := goodIn_r _ [18, 19, 20, 5, 21, 22, 6, 7, 23, 24, 25, 10, 26, 27, 28, 29, 30, 31, 32, 8, 9, 11, 33, 34, 35, 36, 37, 38, 39, 40, 41, 42, 43, 44, 45, 46, 47, 48, 49, 1, 2, 50, 51, 52, 53, 54, 55, 56, 57, 58, 59, 60, 61, 62, 63, 4, 64, 65, 66, 67, 68, 69, 70, 71, 72, 73, 74, 75, 76, 77, 78, 79, 80, 81, 82, 83, 84, 85, 86, 87, 88, 89, 90, 91, 92, 93, 94, 95, 96, 97, 98, 99, 100, 101, 102, 103, 104, 105, 106, 107, 108, 109, 110, 111, 112, 113, 114, 115, 116, 117, 118, 119, 120, 121, 122, 123, 124] (by decide +kernel) (by decide +kernel)
set_option maxRecDepth 20000 in
theorem gX7_fault_X7_plays : GoodIn wsX7_fault (wsV RX7 178 RX7 yX7_plays wsX7_plays) := goodIn_app (goodIn_of _ (by decide +kernel)) ggX7_fault_X7_plays
theorem dX7_fault_0 : decode cX7_fault 0 = .ok (.iload_n 1, 1) := by decide +kernel
theorem dX7_fault_1 : decode cX7_fault 1 = .ok (.iconst 0, 1) := by decide +kernel
theorem dX7_fault_2 : decode cX7_fault 2 = .ok (.iconst 2, 1) := by decide +kernel
theorem dX7_fault_3 : decode cX7_fault 3 = .ok (.invokestatic 33, 3) := by decide +kernel
theorem dX7_fault_6 : decode cX7_fault 6 = .ok (.ifCond .ne 6, 3) := by decide +kernel
theorem dX7_fault_9 : decode cX7_fault 9 = .ok (.ldc 41, 2) := by decide +kernel
theorem dX7_fault_11 : decode cX7_fault 11 = .ok (.ireturn, 1) := by decide +kernel
theorem dX7_fault_12 : decode cX7_fault 12 = .ok (.aload_n 0, 1) := by decide +kernel
theorem dX7_fault_13 : decode cX7_fault 13 = .ok (.getfield 7, 3) := by decide +kernel
theorem dX7_fault_16 : decode cX7_fault 16 = .ok (.aload_n 0, 1) := by decide +kernel
theorem dX7_fault_17 : decode cX7_fault 17 = .ok (.getfield 16, 3) := by decide +kernel
theorem dX7_fault_20 : decode cX7_fault 20 = .ok (.invokestatic 174, 3) := by decide +kernel
theorem dX7_fault_23 : decode cX7_fault 23 = .ok (.aload_n 0, 1) := by decide +kernel
theorem dX7_fault_24 : decode cX7_fault 24 = .ok (.invokevirtual 178, 3) := by decide +kernel
theorem dX7_fault_27 : decode cX7_fault 27 = .ok (.istore_n 2, 1) := by decide +kernel
theorem dX7_fault_28 : decode cX7_fault 28 = .ok (.aload_n 0, 1) := by decide +kernel
theorem dX7_fault_29 : decode cX7_fault 29 = .ok (.getfield 16, 3) := by decide +kernel
theorem dX7_fault_32 : decode cX7_fault 32 = .ok (.aload_n 0, 1) := by decide +kernel
theorem dX7_fault_33 : decode cX7_fault 33 = .ok (.getfield 7, 3) := by decide +kernel
theorem dX7_fault_36 : decode cX7_fault 36 = .ok (.invokestatic 174, 3) := by decide +kernel
theorem dX7_fault_39 : decode cX7_fault 39 = .ok (.iload_n 2, 1) := by decide +kernel
theorem dX7_fault_40 : decode cX7_fault 40 = .ok (.ifCond .eq 8, 3) := by decide +kernel
theorem dX7_fault_43 : decode cX7_fault 43 = .ok (.ldc 58, 2) := by decide +kernel
theorem dX7_fault_45 : decode cX7_fault 45 = .ok (.goto 30, 3) := by decide +kernel
theorem dX7_fault_48 : decode cX7_fault 48 = .ok (.iload_n 1, 1) := by decide +kernel
theorem dX7_fault_49 : decode cX7_fault 49 = .ok (.ifCond .ne 10, 3) := by decide +kernel
theorem dX7_fault_52 : decode cX7_fault 52 = .ok (.aload_n 0, 1) := by decide +kernel
theorem dX7_fault_53 : decode cX7_fault 53 = .ok (.getfield 154, 3) := by decide +kernel
theorem dX7_fault_56 : decode cX7_fault 56 = .ok (.goto 19, 3) := by decide +kernel
theorem dX7_fault_59 : decode cX7_fault 59 = .ok (.iload_n 1, 1) := by decide +kernel
theorem dX7_fault_60 : decode cX7_fault 60 = .ok (.iconst 1, 1) := by decide +kernel
theorem dX7_fault_61 : decode cX7_fault 61 = .ok (.if_icmp .ne 10, 3) := by decide +kernel
theorem dX7_fault_64 : decode cX7_fault 64 = .ok (.aload_n 0, 1) := by decide +kernel
theorem dX7_fault_65 : decode cX7_fault 65 = .ok (.getfield 168, 3) := by decide +kernel
theorem dX7_fault_68 : decode cX7_fault 68 = .ok (.goto 7, 3) := by decide +kernel
theorem dX7_fault_71 : decode cX7_fault 71 = .ok (.aload_n 0, 1) := by decide +kernel
theorem dX7_fault_72 : decode cX7_fault 72 = .ok (.getfield 171, 3) := by decide +kernel
theorem dX7_fault_75 : decode cX7_fault 75 = .ok (.ireturn, 1) := by decide +kernel
set_option maxRecDepth 20000 in
theorem ggX7_play_X7_copies : GoodIn wsX7_play wsX7_copies := goodIn_r _ [9] (by decide +kernel) (by decide +kernel)
set_option maxRecDepth 20000 in
theorem gX7_play_X7_copies : GoodIn wsX7_play (va_wsS RX7 174 yX7_copies wsX7_copies) := goodIn_app (goodIn_of _ (by decide +kernel)) ggX7_play_X7_copies
set_option maxRecDepth 20000 in
theorem ggX7_play_X7_plays : GoodIn wsX7_play wsX7_plays := goodIn_r _ [13, 14, 15, 16, 4, 17, 18, 19, 20, 21, 22, 8, 23, 24, 25, 26, 27, 28, 29, 30, 31, 32, 33, 34, 35, 36, 37, 38, 39, 40, 41, 42, 43, 44, 45, 46, 47, 48, 49, 50, 1, 3, 51, 52, 53, 54, 55, 56, 57, 58, 59, 60, 61, 62, 63, 5, 64, 65, 66, 67, 68, 69, 70, 71, 72, 73, 74, 75, 76, 77, 78, 79, 80, 81, 82, 83, 84, 85, 86, 87, 88, 89, 90, 91, 92, 93, 94, 95, 96, 97, 98, 99, 100, 101, 102, 103, 104, 105, 106, 107, 108, 109, 110, 111, 112, 113, 114, 115, 116, 117, 118, 119, 120, 121, 122, 123, 124] (by decide +kernel) (by decide +kernel)
set_option maxRecDepth 20000 in
theorem gX7_play_X7_plays : GoodIn wsX7_play (wsV RX7 178 RX7 yX7_plays wsX7_plays) := goodIn_app (goodIn_of _ (by decide +kernel)) ggX7_play_X7_plays
set_option maxRecDepth 20000 in
theorem ggX7_play_X7_changes : GoodIn wsX7_play wsX7_changes := goodIn_r _ [57, 14, 58, 59, 1, 111, 112, 113, 114, 115, 116, 117, 118, 119, 120, 121, 122, 123, 124] (by decide +kernel) (by decide +kernel)
set_option maxRecDepth 20000 in
theorem gX7_play_X7_changes : GoodIn wsX7_play (wsV RX7 43 RX7 yX7_changes wsX7_changes) := goodIn_app (goodIn_of _ (by decide +kernel)) ggX7_play_X7_changes
theorem dX7_play_0 : decode cX7_play 0 = .ok (.aload_n 0, 1) := by decide +kernel
theorem dX7_play_1 : decode cX7_play 1 = .ok (.getfield 7, 3) := by decide +kernel
theorem dX7_play_4 : decode cX7_play 4 = .ok (.aload_n 0, 1) := by decide +kernel
theorem dX7_play_5 : decode cX7_play 5 = .ok (.getfield 16, 3) := by decide +kernel
theorem dX7_play_8 : decode cX7_play 8 = .ok (.invokestatic 174, 3) := by decide +kernel
theorem dX7_play_11 : decode cX7_play 11 = .ok (.aload_n 0, 1) := by decide +kernel
theorem dX7_play_12 : decode cX7_play 12 = .ok (.invokevirtual 178, 3) := by decide +kernel
theorem dX7_play_15 : decode cX7_play 15 = .ok (.istore_n 1, 1) := by decide +kernel
theorem dX7_play_16 : decode cX7_play 16 = .ok (.aload_n 0, 1) := by decide +kernel
theorem dX7_play_17 : decode cX7_play 17 = .ok (.getfield 16, 3) := by decide +kernel
theorem dX7_play_20 : decode cX7_play 20 = .ok (.aload_n 0, 1) := by decide +kernel
theorem dX7_play_21 : decode cX7_play 21 = .ok (.getfield 7, 3) := by decide +kernel
theorem dX7_play_24 : decode cX7_play 24 = .ok (.invokestatic 174, 3) := by decide +kernel
theorem dX7_play_27 : decode cX7_play 27 = .ok (.iload_n 1, 1) := by decide +kernel
theorem dX7_play_28 : decode cX7_play 28 = .ok (.ifCond .ne 6, 3) := by decide +kernel
theorem dX7_play_31 : decode cX7_play 31 = .ok (.ldc 42, 2) := by decide +kernel
theorem dX7_play_33 : decode cX7_play 33 = .ok (.ireturn, 1) := by decide +kernel
theorem dX7_play_34 : decode cX7_play 34 = .ok (.aload_n 0, 1) := by decide +kernel
theorem dX7_play_35 : decode cX7_play 35 = .ok (.invokevirtual 43, 3) := by decide +kernel
theorem dX7_play_38 : decode cX7_play 38 = .ok (.aload_n 0, 1) := by decide +kernel
theorem dX7_play_39 : decode cX7_play 39 = .ok (.invokevirtual 178, 3) := by decide +kernel
theorem dX7_play_42 : decode cX7_play 42 = .ok (.ifCond .eq 10, 3) := by decide +kernel
theorem dX7_play_45 : decode cX7_play 45 = .ok (.aload_n 0, 1) := by decide +kernel
theorem dX7_play_46 : decode cX7_play 46 = .ok (.getfield 157, 3) := by decide +kernel
theorem dX7_play_49 : decode cX7_play 49 = .ok (.goto 5, 3) := by decide +kernel
theorem dX7_play_52 : decode cX7_play 52 = .ok (.ldc 58, 2) := by decide +kernel
theorem dX7_play_54 : decode cX7_play 54 = .ok (.ireturn, 1) := by decide +kernel
theorem dJ9_max_7cf53_0 : decode cJ9_max_7cf53 0 = .ok (.iload_n 0, 1) := by decide +kernel
theorem dJ9_max_7cf53_1 : decode cJ9_max_7cf53 1 = .ok (.iload_n 1, 1) := by decide +kernel
theorem dJ9_max_7cf53_2 : decode cJ9_max_7cf53 2 = .ok (.if_icmp .lt 7, 3) := by decide +kernel
theorem dJ9_max_7cf53_5 : decode cJ9_max_7cf53 5 = .ok (.iload_n 0, 1) := by decide +kernel
theorem dJ9_max_7cf53_6 : decode cJ9_max_7cf53 6 = .ok (.goto 4, 3) := by decide +kernel
theorem dJ9_max_7cf53_9 : decode cJ9_max_7cf53 9 = .ok (.iload_n 1, 1) := by decide +kernel
theorem dJ9_max_7cf53_10 : decode cJ9_max_7cf53 10 = .ok (.ireturn, 1) := by decide +kernel
theorem dJ9_min_7cf53_0 : decode cJ9_min_7cf53 0 = .ok (.iload_n 0, 1) := by decide +kernel
theorem dJ9_min_7cf53_1 : decode cJ9_min_7cf53 1 = .ok (.iload_n 1, 1) := by decide +kernel
theorem dJ9_min_7cf53_2 : decode cJ9_min_7cf53 2 = .ok (.if_icmp .gt 7, 3) := by decide +kernel
theorem dJ9_min_7cf53_5 : decode cJ9_min_7cf53 5 = .ok (.iload_n 0, 1) := by decide +kernel
theorem dJ9_min_7cf53_6 : decode cJ9_min_7cf53 6 = .ok (.goto 4, 3) := by decide +kernel
theorem dJ9_min_7cf53_9 : decode cJ9_min_7cf53 9 = .ok (.iload_n 1, 1) := by decide +kernel
theorem dJ9_min_7cf53_10 : decode cJ9_min_7cf53 10 = .ok (.ireturn, 1) := by decide +kernel
set_option maxRecDepth 20000 in
theorem ggJ0_length_8abf5_J0_coder_7d493 : GoodIn wsJ0_length_8abf5 wsJ0_coder_7d493 := goodIn_r _ [6, 7, 8] (by decide +kernel) (by decide +kernel)
set_option maxRecDepth 20000 in
theorem gJ0_length_8abf5_J0_coder_7d493 : GoodIn wsJ0_length_8abf5 (wsV RJ0 335 RJ0 yJ0_coder_7d493 wsJ0_coder_7d493) := goodIn_app (goodIn_of _ (by decide +kernel)) ggJ0_length_8abf5_J0_coder_7d493
theorem dJ0_length_8abf5_0 : decode cJ0_length_8abf5 0 = .ok (.aload_n 0, 1) := by decide +kernel
theorem dJ0_length_8abf5_1 : decode cJ0_length_8abf5 1 = .ok (.getfield 9, 3) := by decide +kernel
theorem dJ0_length_8abf5_4 : decode cJ0_length_8abf5 4 = .ok (.arraylength, 1) := by decide +kernel
theorem dJ0_length_8abf5_5 : decode cJ0_length_8abf5 5 = .ok (.aload_n 0, 1) := by decide +kernel
theorem dJ0_length_8abf5_6 : decode cJ0_length_8abf5 6 = .ok (.invokevirtual 335, 3) := by decide +kernel
theorem dJ0_length_8abf5_9 : decode cJ0_length_8abf5 9 = .ok (.ishr, 1) := by decide +kernel
theorem dJ0_length_8abf5_10 : decode cJ0_length_8abf5 10 = .ok (.ireturn, 1) := by decide +kernel
theorem dJ0_isEmpty_aae02_0 : decode cJ0_isEmpty_aae02 0 = .ok (.aload_n 0, 1) := by decide +kernel
theorem dJ0_isEmpty_aae02_1 : decode cJ0_isEmpty_aae02 1 = .ok (.getfield 9, 3) := by decide +kernel
theorem dJ0_isEmpty_aae02_4 : decode cJ0_isEmpty_aae02 4 = .ok (.arraylength, 1) := by decide +kernel
theorem dJ0_isEmpty_aae02_5 : decode cJ0_isEmpty_aae02 5 = .ok (.ifCond .ne 7, 3) := by decide +kernel
theorem dJ0_isEmpty_aae02_8 : decode cJ0_isEmpty_aae02 8 = .ok (.iconst 1, 1) := by decide +kernel
theorem dJ0_isEmpty_aae02_9 : decode cJ0_isEmpty_aae02 9 = .ok (.goto 4, 3) := by decide +kernel
theorem dJ0_isEmpty_aae02_12 : decode cJ0_isEmpty_aae02 12 = .ok (.iconst 0, 1) := by decide +kernel
theorem dJ0_isEmpty_aae02_13 : decode cJ0_isEmpty_aae02 13 = .ok (.ireturn, 1) := by decide +kernel
set_option maxRecDepth 20000 in
theorem ggJ0_charAt_5068e_J0_isLatin1_aae02 : GoodIn wsJ0_charAt_5068e wsJ0_isLatin1_aae02 := goodIn_r _ [6, 7, 8] (by decide +kernel) (by decide +kernel)
set_option maxRecDepth 20000 in
theorem gJ0_charAt_5068e_J0_isLatin1_aae02 : GoodIn wsJ0_charAt_5068e (wsV RJ0 492 RJ0 yJ0_isLatin1_aae02 wsJ0_isLatin1_aae02) := goodIn_app (goodIn_of _ (by decide +kernel)) ggJ0_charAt_5068e_J0_isLatin1_aae02
set_option maxRecDepth 20000 in
theorem ggJ0_charAt_5068e_J1_charAt_3b067 : GoodIn wsJ0_charAt_5068e wsJ1_charAt_3b067 := goodIn_r _ [12, 13, 14, 5, 15, 16, 17, 18, 19, 20] (by decide +kernel) (by decide +kernel)
set_option maxRecDepth 20000 in
theorem gJ0_charAt_5068e_J1_charAt_3b067 : GoodIn wsJ0_charAt_5068e (va_wsS RJ0 495 yJ1_charAt_3b067 wsJ1_charAt_3b067) := goodIn_app (goodIn_of _ (by decide +kernel)) ggJ0_charAt_5068e_J1_charAt_3b067
set_option maxRecDepth 20000 in
theorem ggJ0_charAt_5068e_J2_charAt_3b067 : GoodIn wsJ0_charAt_5068e wsJ2_charAt_3b067 := goodIn_r _ [24, 25, 26, 23, 27, 28, 29, 30, 31, 14, 5, 15, 16, 17, 18, 19, 20, 32, 33, 34, 35, 36, 37] (by decide +kernel) (by decide +kernel)
set_option maxRecDepth 20000 in
theorem gJ0_charAt_5068e_J2_charAt_3b067 : GoodIn wsJ0_charAt_5068e (va_wsS RJ0 498 yJ2_charAt_3b067 wsJ2_charAt_3b067) := goodIn_app (goodIn_of _ (by decide +kernel)) ggJ0_charAt_5068e_J2_charAt_3b067
theorem dJ0_charAt_5068e_0 : decode cJ0_charAt_5068e 0 = .ok (.aload_n 0, 1) := by decide +kernel
theorem dJ0_charAt_5068e_1 : decode cJ0_charAt_5068e 1 = .ok (.invokevirtual 492, 3) := by decide +kernel
theorem dJ0_charAt_5068e_4 : decode cJ0_charAt_5068e 4 = .ok (.ifCond .eq 12, 3) := by decide +kernel
theorem dJ0_charAt_5068e_7 : decode cJ0_charAt_5068e 7 = .ok (.aload_n 0, 1) := by decide +kernel
theorem dJ0_charAt_5068e_8 : decode cJ0_charAt_5068e 8 = .ok (.getfield 9, 3) := by decide +kernel
theorem dJ0_charAt_5068e_11 : decode cJ0_charAt_5068e 11 = .ok (.iload_n 1, 1) := by decide +kernel
theorem dJ0_charAt_5068e_12 : decode cJ0_charAt_5068e 12 = .ok (.invokestatic 495, 3) := by decide +kernel
theorem dJ0_charAt_5068e_15 : decode cJ0_charAt_5068e 15 = .ok (.ireturn, 1) := by decide +kernel
theorem dJ0_charAt_5068e_16 : decode cJ0_charAt_5068e 16 = .ok (.aload_n 0, 1) := by decide +kernel
theorem dJ0_charAt_5068e_17 : decode cJ0_charAt_5068e 17 = .ok (.getfield 9, 3) := by decide +kernel
theorem dJ0_charAt_5068e_20 : decode cJ0_charAt_5068e 20 = .ok (.iload_n 1, 1) := by decide +kernel
theorem dJ0_charAt_5068e_21 : decode cJ0_charAt_5068e 21 = .ok (.invokestatic 498, 3) := by decide +kernel
theorem dJ0_charAt_5068e_24 : decode cJ0_charAt_5068e 24 = .ok (.ireturn, 1) := by decide +kernel
theorem dJ0_coder_7d493_0 : decode cJ0_coder_7d493 0 = .ok (.getstatic 38, 3) := by decide +kernel
theorem dJ0_coder_7d493_3 : decode cJ0_coder_7d493 3 = .ok (.ifCond .eq 10, 3) := by decide +kernel
theorem dJ0_coder_7d493_6 : decode cJ0_coder_7d493 6 = .ok (.aload_n 0, 1) := by decide +kernel
theorem dJ0_coder_7d493_7 : decode cJ0_coder_7d493 7 = .ok (.getfield 15, 3) := by decide +kernel
theorem dJ0_coder_7d493_10 : decode cJ0_coder_7d493 10 = .ok (.goto 4, 3) := by decide +kernel
theorem dJ0_coder_7d493_13 : decode cJ0_coder_7d493 13 = .ok (.iconst 1, 1) := by decide +kernel
theorem dJ0_coder_7d493_14 : decode cJ0_coder_7d493 14 = .ok (.ireturn, 1) := by decide +kernel
theorem dJ0_isLatin1_aae02_0 : decode cJ0_isLatin1_aae02 0 = .ok (.getstatic 38, 3) := by decide +kernel
theorem dJ0_isLatin1_aae02_3 : decode cJ0_isLatin1_aae02 3 = .ok (.ifCond .eq 14, 3) := by decide +kernel
theorem dJ0_isLatin1_aae02_6 : decode cJ0_isLatin1_aae02 6 = .ok (.aload_n 0, 1) := by decide +kernel
theorem dJ0_isLatin1_aae02_7 : decode cJ0_isLatin1_aae02 7 = .ok (.getfield 15, 3) := by decide +kernel
theorem dJ0_isLatin1_aae02_10 : decode cJ0_isLatin1_aae02 10 = .ok (.ifCond .ne 7, 3) := by decide +kernel
theorem dJ0_isLatin1_aae02_13 : decode cJ0_isLatin1_aae02 13 = .ok (.iconst 1, 1) := by decide +kernel
theorem dJ0_isLatin1_aae02_14 : decode cJ0_isLatin1_aae02 14 = .ok (.goto 4, 3) := by decide +kernel
theorem dJ0_isLatin1_aae02_17 : decode cJ0_isLatin1_aae02 17 = .ok (.iconst 0, 1) := by decide +kernel
theorem dJ0_isLatin1_aae02_18 : decode cJ0_isLatin1_aae02 18 = .ok (.ireturn, 1) := by decide +kernel
set_option maxRecDepth 20000 in
theorem ggJ0_checkIndex_df160_J3_checkIndex_8e157 : GoodIn wsJ0_checkIndex_df160 wsJ3_checkIndex_8e157 := goodIn_r _ [5] (by decide +kernel) (by decide +kernel)
set_option maxRecDepth 20000 in
theorem gJ0_checkIndex_df160_J3_checkIndex_8e157 : GoodIn wsJ0_checkIndex_df160 (va_wsS RJ0 1059 yJ3_checkIndex_8e157 wsJ3_checkIndex_8e157) := goodIn_app (goodIn_of _ (by decide +kernel)) ggJ0_checkIndex_df160_J3_checkIndex_8e157
theorem dJ0_checkIndex_df160_0 : decode cJ0_checkIndex_df160 0 = .ok (.iload_n 0, 1) := by decide +kernel
theorem dJ0_checkIndex_df160_1 : decode cJ0_checkIndex_df160 1 = .ok (.iload_n 1, 1) := by decide +kernel
theorem dJ0_checkIndex_df160_2 : decode cJ0_checkIndex_df160 2 = .ok (.getstatic 1053, 3) := by decide +kernel
theorem dJ0_checkIndex_df160_5 : decode cJ0_checkIndex_df160 5 = .ok (.invokestatic 1059, 3) := by decide +kernel
theorem dJ0_checkIndex_df160_8 : decode cJ0_checkIndex_df160 8 = .ok (.pop, 1) := by decide +kernel
theorem dJ0_checkIndex_df160_9 : decode cJ0_checkIndex_df160 9 = .ok (.return_, 1) := by decide +kernel
set_option maxRecDepth 20000 in
theorem ggJ1_charAt_3b067_J0_checkIndex_df160 : GoodIn wsJ1_charAt_3b067 wsJ0_checkIndex_df160 := goodIn_r _ [4, 5, 6, 7, 8, 9] (by decide +kernel) (by decide +kernel)
set_option maxRecDepth 20000 in
theorem gJ1_charAt_3b067_J0_checkIndex_df160 : GoodIn wsJ1_charAt_3b067 (va_wsS RJ1 9 yJ0_checkIndex_df160 wsJ0_checkIndex_df160) := goodIn_app (goodIn_of _ (by decide +kernel)) ggJ1_charAt_3b067_J0_checkIndex_df160
theorem dJ1_charAt_3b067_0 : decode cJ1_charAt_3b067 0 = .ok (.iload_n 1, 1) := by decide +kernel
theorem dJ1_charAt_3b067_1 : decode cJ1_charAt_3b067 1 = .ok (.aload_n 0, 1) := by decide +kernel
theorem dJ1_charAt_3b067_2 : decode cJ1_charAt_3b067 2 = .ok (.arraylength, 1) := by decide +kernel
theorem dJ1_charAt_3b067_3 : decode cJ1_charAt_3b067 3 = .ok (.invokestatic 9, 3) := by decide +kernel
theorem dJ1_charAt_3b067_6 : decode cJ1_charAt_3b067 6 = .ok (.aload_n 0, 1) := by decide +kernel
theorem dJ1_charAt_3b067_7 : decode cJ1_charAt_3b067 7 = .ok (.iload_n 1, 1) := by decide +kernel
theorem dJ1_charAt_3b067_8 : decode cJ1_charAt_3b067 8 = .ok (.baload, 1) := by decide +kernel
theorem dJ1_charAt_3b067_9 : decode cJ1_charAt_3b067 9 = .ok (.sipush 255, 3) := by decide +kernel
theorem dJ1_charAt_3b067_12 : decode cJ1_charAt_3b067 12 = .ok (.iand, 1) := by decide +kernel
theorem dJ1_charAt_3b067_13 : decode cJ1_charAt_3b067 13 = .ok (.i2c, 1) := by decide +kernel
theorem dJ1_charAt_3b067_14 : decode cJ1_charAt_3b067 14 = .ok (.ireturn, 1) := by decide +kernel
set_option maxRecDepth 20000 in
theorem ggJ2_getChar_3b067_J2_length_9d52b : GoodIn wsJ2_getChar_3b067 wsJ2_length_9d52b := goodIn_r _ [7] (by decide +kernel) (by decide +kernel)
set_option maxRecDepth 20000 in
theorem gJ2_getChar_3b067_J2_length_9d52b : GoodIn wsJ2_getChar_3b067 (va_wsS RJ2 48 yJ2_length_9d52b wsJ2_length_9d52b) := goodIn_app (goodIn_of _ (by decide +kernel)) ggJ2_getChar_3b067_J2_length_9d52b
theorem dJ2_getChar_3b067_0 : decode cJ2_getChar_3b067 0 = .ok (.getstatic 44, 3) := by decide +kernel
theorem dJ2_getChar_3b067_3 : decode cJ2_getChar_3b067 3 = .ok (.ifCond .ne 25, 3) := by decide +kernel
theorem dJ2_getChar_3b067_6 : decode cJ2_getChar_3b067 6 = .ok (.iload_n 1, 1) := by decide +kernel
theorem dJ2_getChar_3b067_7 : decode cJ2_getChar_3b067 7 = .ok (.ifCond .lt 11, 3) := by decide +kernel
theorem dJ2_getChar_3b067_10 : decode cJ2_getChar_3b067 10 = .ok (.iload_n 1, 1) := by decide +kernel
theorem dJ2_getChar_3b067_11 : decode cJ2_getChar_3b067 11 = .ok (.aload_n 0, 1) := by decide +kernel
theorem dJ2_getChar_3b067_12 : decode cJ2_getChar_3b067 12 = .ok (.invokestatic 48, 3) := by decide +kernel
theorem dJ2_getChar_3b067_15 : decode cJ2_getChar_3b067 15 = .ok (.if_icmp .lt 13, 3) := by decide +kernel
theorem dJ2_getChar_3b067_18 : decode cJ2_getChar_3b067 18 = .ok (.new 52, 3) := by decide +kernel
theorem dJ2_getChar_3b067_21 : decode cJ2_getChar_3b067 21 = .ok (.dup, 1) := by decide +kernel
theorem dJ2_getChar_3b067_22 : decode cJ2_getChar_3b067 22 = .ok (.ldc 54, 2) := by decide +kernel
theorem dJ2_getChar_3b067_24 : decode cJ2_getChar_3b067 24 = .ok (.invokespecial 56, 3) := by decide +kernel
theorem dJ2_getChar_3b067_27 : decode cJ2_getChar_3b067 27 = .ok (.athrow, 1) := by decide +kernel
theorem dJ2_getChar_3b067_28 : decode cJ2_getChar_3b067 28 = .ok (.iload_n 1, 1) := by decide +kernel
theorem dJ2_getChar_3b067_29 : decode cJ2_getChar_3b067 29 = .ok (.iconst 1, 1) := by decide +kernel
theorem dJ2_getChar_3b067_30 : decode cJ2_getChar_3b067 30 = .ok (.ishl, 1) := by decide +kernel
theorem dJ2_getChar_3b067_31 : decode cJ2_getChar_3b067 31 = .ok (.istore_n 1, 1) := by decide +kernel
theorem dJ2_getChar_3b067_32 : decode cJ2_getChar_3b067 32 = .ok (.aload_n 0, 1) := by decide +kernel
theorem dJ2_getChar_3b067_33 : decode cJ2_getChar_3b067 33 = .ok (.iload_n 1, 1) := by decide +kernel
theorem dJ2_getChar_3b067_34 : decode cJ2_getChar_3b067 34 = .ok (.iinc 1 1, 3) := by decide +kernel
theorem dJ2_getChar_3b067_37 : decode cJ2_getChar_3b067 37 = .ok (.baload, 1) := by decide +kernel
theorem dJ2_getChar_3b067_38 : decode cJ2_getChar_3b067 38 = .ok (.sipush 255, 3) := by decide +kernel
theorem dJ2_getChar_3b067_41 : decode cJ2_getChar_3b067 41 = .ok (.iand, 1) := by decide +kernel
theorem dJ2_getChar_3b067_42 : decode cJ2_getChar_3b067 42 = .ok (.getstatic 59, 3) := by decide +kernel
theorem dJ2_getChar_3b067_45 : decode cJ2_getChar_3b067 45 = .ok (.ishl, 1) := by decide +kernel
theorem dJ2_getChar_3b067_46 : decode cJ2_getChar_3b067 46 = .ok (.aload_n 0, 1) := by decide +kernel
theorem dJ2_getChar_3b067_47 : decode cJ2_getChar_3b067 47 = .ok (.iload_n 1, 1) := by decide +kernel
theorem dJ2_getChar_3b067_48 : decode cJ2_getChar_3b067 48 = .ok (.baload, 1) := by decide +kernel
theorem dJ2_getChar_3b067_49 : decode cJ2_getChar_3b067 49 = .ok (.sipush 255, 3) := by decide +kernel
theorem dJ2_getChar_3b067_52 : decode cJ2_getChar_3b067 52 = .ok (.iand, 1) := by decide +kernel
theorem dJ2_getChar_3b067_53 : decode cJ2_getChar_3b067 53 = .ok (.getstatic 63, 3) := by decide +kernel
theorem dJ2_getChar_3b067_56 : decode cJ2_getChar_3b067 56 = .ok (.ishl, 1) := by decide +kernel
theorem dJ2_getChar_3b067_57 : decode cJ2_getChar_3b067 57 = .ok (.ior, 1) := by decide +kernel
theorem dJ2_getChar_3b067_58 : decode cJ2_getChar_3b067 58 = .ok (.i2c, 1) := by decide +kernel
theorem dJ2_getChar_3b067_59 : decode cJ2_getChar_3b067 59 = .ok (.ireturn, 1) := by decide +kernel
theorem dJ2_length_9d52b_0 : decode cJ2_length_9d52b 0 = .ok (.aload_n 0, 1) := by decide +kernel
theorem dJ2_length_9d52b_1 : decode cJ2_length_9d52b 1 = .ok (.arraylength, 1) := by decide +kernel
theorem dJ2_length_9d52b_2 : decode cJ2_length_9d52b 2 = .ok (.iconst 1, 1) := by decide +kernel
theorem dJ2_length_9d52b_3 : decode cJ2_length_9d52b 3 = .ok (.ishr, 1) := by decide +kernel
theorem dJ2_length_9d52b_4 : decode cJ2_length_9d52b 4 = .ok (.ireturn, 1) := by decide +kernel
set_option maxRecDepth 20000 in
theorem ggJ2_charAt_3b067_J2_checkIndex_2214a : GoodIn wsJ2_charAt_3b067 wsJ2_checkIndex_2214a := goodIn_r _ [4, 5, 6, 3, 7, 8, 9, 10, 11, 12, 13, 14, 15, 16] (by decide +kernel) (by decide +kernel)
set_option maxRecDepth 20000 in
theorem gJ2_charAt_3b067_J2_checkIndex_2214a : GoodIn wsJ2_charAt_3b067 (va_wsS RJ2 67 yJ2_checkIndex_2214a wsJ2_checkIndex_2214a) := goodIn_app (goodIn_of _ (by decide +kernel)) ggJ2_charAt_3b067_J2_checkIndex_2214a
set_option maxRecDepth 20000 in
theorem ggJ2_charAt_3b067_J2_getChar_3b067 : GoodIn wsJ2_charAt_3b067 wsJ2_getChar_3b067 := goodIn_r _ [19, 20, 21, 22, 5, 6, 3, 7] (by decide +kernel) (by decide +kernel)
set_option maxRecDepth 20000 in
theorem gJ2_charAt_3b067_J2_getChar_3b067 : GoodIn wsJ2_charAt_3b067 (va_wsS RJ2 71 yJ2_getChar_3b067 wsJ2_getChar_3b067) := goodIn_app (goodIn_of _ (by decide +kernel)) ggJ2_charAt_3b067_J2_getChar_3b067
theorem dJ2_charAt_3b067_0 : decode cJ2_charAt_3b067 0 = .ok (.iload_n 1, 1) := by decide +kernel
theorem dJ2_charAt_3b067_1 : decode cJ2_charAt_3b067 1 = .ok (.aload_n 0, 1) := by decide +kernel
theorem dJ2_charAt_3b067_2 : decode cJ2_charAt_3b067 2 = .ok (.invokestatic 67, 3) := by decide +kernel
theorem dJ2_charAt_3b067_5 : decode cJ2_charAt_3b067 5 = .ok (.aload_n 0, 1) := by decide +kernel
theorem dJ2_charAt_3b067_6 : decode cJ2_charAt_3b067 6 = .ok (.iload_n 1, 1) := by decide +kernel
theorem dJ2_charAt_3b067_7 : decode cJ2_charAt_3b067 7 = .ok (.invokestatic 71, 3) := by decide +kernel
theorem dJ2_charAt_3b067_10 : decode cJ2_charAt_3b067 10 = .ok (.ireturn, 1) := by decide +kernel
set_option maxRecDepth 20000 in
theorem ggJ2_checkIndex_2214a_J2_length_9d52b : GoodIn wsJ2_checkIndex_2214a wsJ2_length_9d52b := goodIn_r _ [4] (by decide +kernel) (by decide +kernel)
set_option maxRecDepth 20000 in
theorem gJ2_checkIndex_2214a_J2_length_9d52b : GoodIn wsJ2_checkIndex_2214a (va_wsS RJ2 48 yJ2_length_9d52b wsJ2_length_9d52b) := goodIn_app (goodIn_of _ (by decide +kernel)) ggJ2_checkIndex_2214a_J2_length_9d52b
set_option maxRecDepth 20000 in
theorem ggJ2_checkIndex_2214a_J0_checkIndex_df160 : GoodIn wsJ2_checkIndex_2214a wsJ0_checkIndex_df160 := goodIn_r _ [8, 9, 10, 11, 12, 13] (by decide +kernel) (by decide +kernel)
set_option maxRecDepth 20000 in
theorem gJ2_checkIndex_2214a_J0_checkIndex_df160 : GoodIn wsJ2_checkIndex_2214a (va_wsS RJ2 414 yJ0_checkIndex_df160 wsJ0_checkIndex_df160) := goodIn_app (goodIn_of _ (by decide +kernel)) ggJ2_checkIndex_2214a_J0_checkIndex_df160
theorem dJ2_checkIndex_2214a_0 : decode cJ2_checkIndex_2214a 0 = .ok (.iload_n 0, 1) := by decide +kernel
theorem dJ2_checkIndex_2214a_1 : decode cJ2_checkIndex_2214a 1 = .ok (.aload_n 1, 1) := by decide +kernel
theorem dJ2_checkIndex_2214a_2 : decode cJ2_checkIndex_2214a 2 = .ok (.invokestatic 48, 3) := by decide +kernel
theorem dJ2_checkIndex_2214a_5 : decode cJ2_checkIndex_2214a 5 = .ok (.invokestatic 414, 3) := by decide +kernel
theorem dJ2_checkIndex_2214a_8 : decode cJ2_checkIndex_2214a 8 = .ok (.return_, 1) := by decide +kernel
theorem dJ3_checkIndex_8e157_0 : decode cJ3_checkIndex_8e157 0 = .ok (.iload_n 0, 1) := by decide +kernel
theorem dJ3_checkIndex_8e157_1 : decode cJ3_checkIndex_8e157 1 = .ok (.ifCond .lt 8, 3) := by decide +kernel
theorem dJ3_checkIndex_8e157_4 : decode cJ3_checkIndex_8e157 4 = .ok (.iload_n 0, 1) := by decide +kernel
theorem dJ3_checkIndex_8e157_5 : decode cJ3_checkIndex_8e157 5 = .ok (.iload_n 1, 1) := by decide +kernel
theorem dJ3_checkIndex_8e157_6 : decode cJ3_checkIndex_8e157 6 = .ok (.if_icmp .lt 10, 3) := by decide +kernel
theorem dJ3_checkIndex_8e157_9 : decode cJ3_checkIndex_8e157 9 = .ok (.aload_n 2, 1) := by decide +kernel
theorem dJ3_checkIndex_8e157_10 : decode cJ3_checkIndex_8e157 10 = .ok (.iload_n 0, 1) := by decide +kernel
theorem dJ3_checkIndex_8e157_11 : decode cJ3_checkIndex_8e157 11 = .ok (.iload_n 1, 1) := by decide +kernel
theorem dJ3_checkIndex_8e157_12 : decode cJ3_checkIndex_8e157 12 = .ok (.invokestatic 95, 3) := by decide +kernel
theorem dJ3_checkIndex_8e157_15 : decode cJ3_checkIndex_8e157 15 = .ok (.athrow, 1) := by decide +kernel
theorem dJ3_checkIndex_8e157_16 : decode cJ3_checkIndex_8e157 16 = .ok (.iload_n 0, 1) := by decide +kernel
theorem dJ3_checkIndex_8e157_17 : decode cJ3_checkIndex_8e157 17 = .ok (.ireturn, 1) := by decide +kernel
set_option maxRecDepth 20000 in
theorem ggL_law_X6_init : GoodIn wsL_law wsX6_init := goodIn_r _ [8, 9, 10, 11, 12, 13, 14, 15, 16, 17, 18, 19, 20, 21, 22, 23, 24, 25, 26, 27, 28, 29, 30, 31, 32, 33, 34, 35, 36, 37, 38, 39, 40, 41, 42, 43, 44, 45, 46, 47, 48, 49, 50, 51, 52, 53, 54, 55, 56, 57, 58, 59, 60, 61, 62, 63, 64, 65, 66, 67, 68, 69, 70, 71, 72, 73, 74, 75, 76, 77, 78, 79, 80, 81, 82, 83, 84, 85, 86, 87, 88, 89, 90, 91, 92, 93, 94, 861, 862, 863, 864, 865, 866, 867, 868, 869, 870, 871, 872, 841, 842, 843, 844, 845, 846, 873, 874, 875, 876, 877, 878, 879, 880, 881, 882, 883, 884, 885, 886, 887, 888, 889, 890, 891, 892, 893, 894, 895] (by decide +kernel) (by decide +kernel)
set_option maxRecDepth 20000 in
theorem gL_law_X6_init : GoodIn wsL_law (wsX6_init) := ggL_law_X6_init
set_option maxRecDepth 20000 in
theorem ggL_law_X7_init : GoodIn wsL_law wsX7_init := goodIn_r _ [97, 98, 10, 11, 28, 99, 100, 101, 102, 103, 847, 848, 849, 850, 851, 852, 853, 854, 855, 856, 857, 858, 859, 860] (by decide +kernel) (by decide +kernel)
set_option maxRecDepth 20000 in
theorem gL_law_X7_init : GoodIn wsL_law (wsX7_init) := ggL_law_X7_init
set_option maxRecDepth 20000 in
theorem ggL_law_X6_open : GoodIn wsL_law wsX6_open := goodIn_r _ [107, 19, 15, 108, 109, 110, 18, 111, 75, 74, 112, 113, 114, 14, 115, 37, 41, 42, 43, 116, 117, 118, 119, 44, 45, 46, 47, 48, 49, 50, 51, 120, 121, 122, 36, 123, 55, 124, 125, 126, 127, 128, 129, 130, 56, 131, 57, 58, 59, 60, 132, 133, 134, 40, 135, 64, 65, 66, 68, 136, 137, 138, 139, 140, 141, 142, 143, 2, 144, 145, 146, 147, 148, 149, 150, 151, 152, 841, 842, 843, 844, 845, 846, 873, 874, 861, 862, 863, 864, 865, 866, 867, 868, 869, 870, 871, 872, 886, 887, 888, 889, 890, 891, 892, 893, 894, 895] (by decide +kernel) (by decide +kernel)
set_option maxRecDepth 20000 in
theorem gL_law_X6_open : GoodIn wsL_law (wsV RL 13 RX6 yX6_open wsX6_open) := goodIn_app (goodIn_of _ (by decide +kernel)) ggL_law_X6_open
set_option maxRecDepth 20000 in
theorem ggL_law_X7_open : GoodIn wsL_law wsX7_open := goodIn_r _ [156, 157, 99, 158, 159, 160, 5, 161, 162, 163, 164, 165, 166, 167, 168, 169, 170, 100, 847, 848, 849, 850, 851, 852, 853, 854, 855, 856, 857, 858, 859, 860] (by decide +kernel) (by decide +kernel)
set_option maxRecDepth 20000 in
theorem gL_law_X7_open : GoodIn wsL_law (wsV RL 17 RX7 yX7_open wsX7_open) := goodIn_app (goodIn_of _ (by decide +kernel)) ggL_law_X7_open
set_option maxRecDepth 20000 in
theorem ggL_law_X6_put : GoodIn wsL_law wsX6_put := goodIn_r _ [174, 19, 15, 108, 109, 110, 18, 111, 75, 74, 112, 113, 114, 14, 115, 37, 41, 42, 43, 116, 117, 118, 119, 44, 45, 46, 47, 48, 49, 50, 51, 120, 121, 122, 36, 123, 55, 124, 125, 126, 127, 128, 129, 130, 56, 131, 57, 58, 59, 60, 132, 133, 134, 40, 135, 64, 65, 66, 68, 136, 175, 176, 177, 178, 141, 143, 2, 144, 179, 180, 181, 182, 183, 184, 142, 185, 186, 187, 188, 189, 145, 146, 147, 148, 149, 150, 151, 152, 841, 842, 843, 844, 845, 846, 873, 874, 861, 862, 863, 864, 865, 866, 867, 868, 869, 870, 871, 872, 886, 887, 888, 889, 890, 891, 892, 893, 894, 895] (by decide +kernel) (by decide +kernel)
set_option maxRecDepth 20000 in
theorem gL_law_X6_put : GoodIn wsL_law (wsV RL 18 RX6 yX6_put wsX6_put) := goodIn_app (goodIn_of _ (by decide +kernel)) ggL_law_X6_put
set_option maxRecDepth 20000 in
theorem ggL_law_X7_put : GoodIn wsL_law wsX7_put := goodIn_r _ [193, 157, 194, 195, 5, 196, 162, 163, 164, 197, 198, 199, 200, 99, 158, 201, 159, 160, 161, 202, 203, 204, 205, 165, 166, 167, 168, 169, 170, 100, 847, 848, 849, 850, 851, 852, 853, 854, 855, 856, 857, 858, 859, 860] (by decide +kernel) (by decide +kernel)
set_option maxRecDepth 20000 in
theorem gL_law_X7_put : GoodIn wsL_law (wsV RL 22 RX7 yX7_put wsX7_put) := goodIn_app (goodIn_of _ (by decide +kernel)) ggL_law_X7_put
set_option maxRecDepth 20000 in
theorem ggL_law_X6_commit : GoodIn wsL_law wsX6_commit := goodIn_r _ [209, 19, 15, 108, 109, 110, 18, 111, 75, 74, 112, 113, 114, 14, 115, 37, 41, 42, 43, 116, 117, 118, 119, 44, 45, 46, 47, 48, 49, 50, 51, 120, 121, 122, 36, 123, 55, 124, 125, 126, 127, 128, 129, 130, 56, 131, 57, 58, 59, 60, 132, 133, 134, 40, 135, 64, 65, 66, 68, 136, 210, 211, 212, 213, 141, 143, 2, 144, 181, 182, 183, 184, 142, 185, 186, 187, 188, 189, 145, 146, 147, 148, 149, 150, 151, 152, 841, 842, 843, 844, 845, 846, 873, 874, 861, 862, 863, 864, 865, 866, 867, 868, 869, 870, 871, 872, 886, 887, 888, 889, 890, 891, 892, 893, 894, 895] (by decide +kernel) (by decide +kernel)
set_option maxRecDepth 20000 in
theorem gL_law_X6_commit : GoodIn wsL_law (wsV RL 23 RX6 yX6_commit wsX6_commit) := goodIn_app (goodIn_of _ (by decide +kernel)) ggL_law_X6_commit
set_option maxRecDepth 20000 in
theorem ggL_law_X7_commit : GoodIn wsL_law wsX7_commit := goodIn_r _ [217, 218, 197, 198, 199, 5, 200, 157, 99, 158, 201, 159, 160, 161, 162, 163, 164, 202, 203, 204, 205, 165, 166, 167, 168, 169, 170, 100, 847, 848, 849, 850, 851, 852, 853, 854, 855, 856, 857, 858, 859, 860] (by decide +kernel) (by decide +kernel)
set_option maxRecDepth 20000 in
theorem gL_law_X7_commit : GoodIn wsL_law (wsV RL 26 RX7 yX7_commit wsX7_commit) := goodIn_app (goodIn_of _ (by decide +kernel)) ggL_law_X7_commit
set_option maxRecDepth 20000 in
theorem ggL_law_X6_abort : GoodIn wsL_law wsX6_abort := goodIn_r _ [222, 19, 15, 108, 109, 110, 18, 111, 75, 74, 112, 113, 114, 14, 115, 37, 41, 42, 43, 116, 117, 118, 119, 44, 45, 46, 47, 48, 49, 50, 51, 120, 121, 122, 36, 123, 55, 124, 125, 126, 127, 128, 129, 130, 56, 131, 57, 58, 59, 60, 132, 133, 134, 40, 135, 64, 65, 66, 68, 136, 210, 211, 212, 213, 141, 143, 2, 144, 181, 182, 183, 184, 142, 185, 186, 187, 188, 189, 145, 146, 147, 148, 149, 150, 151, 152, 841, 842, 843, 844, 845, 846, 873, 874, 861, 862, 863, 864, 865, 866, 867, 868, 869, 870, 871, 872, 886, 887, 888, 889, 890, 891, 892, 893, 894, 895] (by decide +kernel) (by decide +kernel)
set_option maxRecDepth 20000 in
theorem gL_law_X6_abort : GoodIn wsL_law (wsV RL 27 RX6 yX6_abort wsX6_abort) := goodIn_app (goodIn_of _ (by decide +kernel)) ggL_law_X6_abort
set_option maxRecDepth 20000 in
theorem ggL_law_X7_abort : GoodIn wsL_law wsX7_abort := goodIn_r _ [226, 218, 197, 198, 199, 5, 200, 157, 99, 158, 201, 159, 160, 161, 162, 163, 164, 202, 203, 204, 205, 165, 166, 167, 168, 169, 170, 100, 847, 848, 849, 850, 851, 852, 853, 854, 855, 856, 857, 858, 859, 860] (by decide +kernel) (by decide +kernel)
set_option maxRecDepth 20000 in
theorem gL_law_X7_abort : GoodIn wsL_law (wsV RL 30 RX7 yX7_abort wsX7_abort) := goodIn_app (goodIn_of _ (by decide +kernel)) ggL_law_X7_abort
set_option maxRecDepth 20000 in
theorem ggL_law_X6_ship : GoodIn wsL_law wsX6_ship := goodIn_r _ [230, 19, 15, 108, 109, 110, 18, 111, 75, 74, 112, 113, 114, 14, 115, 37, 41, 42, 43, 116, 117, 118, 119, 44, 45, 46, 47, 48, 49, 50, 51, 120, 121, 122, 36, 123, 55, 124, 125, 126, 127, 128, 129, 130, 56, 131, 57, 58, 59, 60, 132, 133, 134, 40, 135, 64, 65, 66, 68, 136, 231, 232, 233, 234, 141, 235, 142, 236, 237, 238, 239, 2, 240, 241, 242, 243, 244, 145, 146, 147, 148, 149, 150, 151, 152, 841, 842, 843, 844, 845, 846, 873, 874, 861, 862, 863, 864, 865, 866, 867, 868, 869, 870, 871, 872, 886, 887, 888, 889, 890, 891, 892, 893, 894, 895] (by decide +kernel) (by decide +kernel)
set_option maxRecDepth 20000 in
theorem gL_law_X6_ship : GoodIn wsL_law (wsV RL 31 RX6 yX6_ship wsX6_ship) := goodIn_app (goodIn_of _ (by decide +kernel)) ggL_law_X6_ship
set_option maxRecDepth 20000 in
theorem ggL_law_X7_ship : GoodIn wsL_law wsX7_ship := goodIn_r _ [248, 157, 158, 99, 249, 250, 5, 251, 162, 163, 164, 252, 253, 254, 255, 165, 166, 167, 168, 169, 170, 100, 847, 848, 849, 850, 851, 852, 853, 854, 855, 856, 857, 858, 859, 860] (by decide +kernel) (by decide +kernel)
set_option maxRecDepth 20000 in
theorem gL_law_X7_ship : GoodIn wsL_law (wsV RL 35 RX7 yX7_ship wsX7_ship) := goodIn_app (goodIn_of _ (by decide +kernel)) ggL_law_X7_ship
set_option maxRecDepth 20000 in
theorem ggL_law_X6_lose : GoodIn wsL_law wsX6_lose := goodIn_r _ [259, 19, 15, 108, 109, 110, 18, 111, 75, 74, 112, 113, 114, 14, 115, 37, 41, 42, 43, 116, 117, 118, 119, 44, 45, 46, 47, 48, 49, 50, 51, 120, 121, 122, 36, 123, 55, 124, 125, 126, 127, 128, 129, 130, 56, 131, 57, 58, 59, 60, 132, 133, 134, 40, 135, 64, 65, 66, 68, 136, 260, 261, 262, 263, 141, 235, 237, 264, 142, 239, 2, 240, 241, 242, 243, 244, 265, 266, 267, 268, 269, 270, 271, 272, 273, 274, 275, 276, 145, 146, 147, 148, 149, 150, 151, 152, 841, 842, 843, 844, 845, 846, 873, 874, 861, 862, 863, 864, 865, 866, 867, 868, 869, 870, 871, 872, 886, 887, 888, 889, 890, 891, 892, 893, 894, 895] (by decide +kernel) (by decide +kernel)
set_option maxRecDepth 20000 in
theorem gL_law_X6_lose : GoodIn wsL_law (wsV RL 36 RX6 yX6_lose wsX6_lose) := goodIn_app (goodIn_of _ (by decide +kernel)) ggL_law_X6_lose
set_option maxRecDepth 20000 in
theorem ggL_law_X7_lose : GoodIn wsL_law wsX7_lose := goodIn_r _ [280, 157, 158, 99, 249, 250, 5, 251, 162, 163, 164, 252, 253, 254, 255, 281, 282, 283, 284, 165, 166, 167, 168, 169, 170, 100, 285, 286, 287, 288, 847, 848, 849, 850, 851, 852, 853, 854, 855, 856, 857, 858, 859, 860] (by decide +kernel) (by decide +kernel)
set_option maxRecDepth 20000 in
theorem gL_law_X7_lose : GoodIn wsL_law (wsV RL 39 RX7 yX7_lose wsX7_lose) := goodIn_app (goodIn_of _ (by decide +kernel)) ggL_law_X7_lose
set_option maxRecDepth 20000 in
theorem ggL_law_X6_resend : GoodIn wsL_law wsX6_resend := goodIn_r _ [292, 19, 15, 108, 109, 110, 18, 111, 75, 74, 112, 113, 114, 14, 115, 37, 41, 42, 43, 116, 117, 118, 119, 44, 45, 46, 47, 48, 49, 50, 51, 120, 121, 122, 36, 123, 55, 124, 125, 126, 127, 128, 129, 130, 56, 131, 57, 58, 59, 60, 132, 133, 134, 40, 135, 64, 65, 66, 68, 136, 293, 294, 295, 296, 141, 235, 142, 239, 2, 240, 241, 242, 243, 244, 273, 274, 275, 276, 297, 298, 299, 300, 301, 145, 146, 147, 148, 149, 150, 151, 152, 841, 842, 843, 844, 845, 846, 873, 874, 861, 862, 863, 864, 865, 866, 867, 868, 869, 870, 871, 872, 886, 887, 888, 889, 890, 891, 892, 893, 894, 895] (by decide +kernel) (by decide +kernel)
set_option maxRecDepth 20000 in
theorem gL_law_X6_resend : GoodIn wsL_law (wsV RL 40 RX6 yX6_resend wsX6_resend) := goodIn_app (goodIn_of _ (by decide +kernel)) ggL_law_X6_resend
set_option maxRecDepth 20000 in
theorem ggL_law_X7_resend : GoodIn wsL_law wsX7_resend := goodIn_r _ [305, 157, 158, 249, 250, 5, 251, 162, 163, 164, 252, 253, 254, 255, 99, 165, 166, 167, 168, 169, 170, 100, 285, 286, 287, 288, 281, 282, 283, 284, 306, 307, 308, 309, 847, 848, 849, 850, 851, 852, 853, 854, 855, 856, 857, 858, 859, 860] (by decide +kernel) (by decide +kernel)
set_option maxRecDepth 20000 in
theorem gL_law_X7_resend : GoodIn wsL_law (wsV RL 43 RX7 yX7_resend wsX7_resend) := goodIn_app (goodIn_of _ (by decide +kernel)) ggL_law_X7_resend
set_option maxRecDepth 20000 in
theorem ggL_law_X6_tick : GoodIn wsL_law wsX6_tick := goodIn_r _ [313, 19, 15, 108, 109, 110, 18, 111, 75, 74, 112, 113, 114, 14, 115, 37, 41, 42, 43, 116, 117, 118, 119, 44, 45, 46, 47, 48, 49, 50, 51, 120, 121, 122, 36, 123, 55, 124, 125, 126, 127, 128, 129, 130, 56, 131, 57, 58, 59, 60, 132, 133, 134, 40, 135, 64, 65, 66, 68, 136, 314, 315, 316, 317, 141, 264, 318, 2, 319, 241, 242, 243, 244, 320, 321, 322, 323, 235, 237, 265, 266, 267, 268, 324, 325, 326, 327, 328, 329, 330, 331, 332, 145, 146, 147, 148, 149, 150, 151, 152, 841, 842, 843, 844, 845, 846, 873, 874, 861, 862, 863, 864, 865, 866, 867, 868, 869, 870, 871, 872, 886, 887, 888, 889, 890, 891, 892, 893, 894, 895] (by decide +kernel) (by decide +kernel)
set_option maxRecDepth 20000 in
theorem gL_law_X6_tick : GoodIn wsL_law (wsV RL 44 RX6 yX6_tick wsX6_tick) := goodIn_app (goodIn_of _ (by decide +kernel)) ggL_law_X6_tick
set_option maxRecDepth 20000 in
theorem ggL_law_X7_tick : GoodIn wsL_law wsX7_tick := goodIn_r _ [336, 157, 99, 162, 163, 5, 164, 165, 166, 167, 168, 169, 170, 100, 252, 253, 254, 255, 337, 338, 339, 340, 281, 282, 283, 284, 341, 342, 343, 344, 847, 848, 849, 850, 851, 852, 853, 854, 855, 856, 857, 858, 859, 860] (by decide +kernel) (by decide +kernel)
set_option maxRecDepth 20000 in
theorem gL_law_X7_tick : GoodIn wsL_law (wsV RL 47 RX7 yX7_tick wsX7_tick) := goodIn_app (goodIn_of _ (by decide +kernel)) ggL_law_X7_tick
set_option maxRecDepth 20000 in
theorem ggL_law_X6_promote : GoodIn wsL_law wsX6_promote := goodIn_r _ [348, 19, 15, 108, 109, 110, 18, 111, 75, 74, 112, 113, 114, 14, 115, 37, 41, 42, 43, 116, 117, 118, 119, 44, 45, 46, 47, 48, 49, 50, 51, 120, 121, 122, 36, 123, 55, 124, 125, 126, 127, 128, 129, 130, 56, 131, 57, 58, 59, 60, 132, 133, 134, 40, 135, 64, 65, 66, 68, 136, 349, 350, 351, 352, 141, 235, 142, 264, 236, 239, 2, 240, 241, 242, 243, 244, 353, 354, 355, 356, 357, 358, 359, 360, 328, 329, 330, 331, 332, 361, 362, 363, 364, 365, 298, 299, 300, 301, 366, 367, 368, 369, 370, 145, 146, 147, 148, 149, 150, 151, 152, 841, 842, 843, 844, 845, 846, 873, 874, 861, 862, 863, 864, 865, 866, 867, 868, 869, 870, 871, 872, 886, 887, 888, 889, 890, 891, 892, 893, 894, 895] (by decide +kernel) (by decide +kernel)
set_option maxRecDepth 20000 in
theorem gL_law_X6_promote : GoodIn wsL_law (wsV RL 48 RX6 yX6_promote wsX6_promote) := goodIn_app (goodIn_of _ (by decide +kernel)) ggL_law_X6_promote
set_option maxRecDepth 20000 in
theorem ggL_law_X7_promote : GoodIn wsL_law wsX7_promote := goodIn_r _ [374, 157, 158, 99, 249, 250, 5, 251, 162, 163, 164, 252, 253, 254, 255, 165, 166, 167, 168, 169, 170, 100, 375, 376, 377, 378, 379, 380, 381, 382, 341, 342, 343, 344, 383, 384, 385, 386, 306, 307, 308, 309, 847, 848, 849, 850, 851, 852, 853, 854, 855, 856, 857, 858, 859, 860] (by decide +kernel) (by decide +kernel)
set_option maxRecDepth 20000 in
theorem gL_law_X7_promote : GoodIn wsL_law (wsV RL 51 RX7 yX7_promote wsX7_promote) := goodIn_app (goodIn_of _ (by decide +kernel)) ggL_law_X7_promote
set_option maxRecDepth 20000 in
theorem ggL_law_X6_rebuild : GoodIn wsL_law wsX6_rebuild := goodIn_r _ [390, 19, 15, 108, 109, 110, 18, 111, 75, 74, 112, 113, 114, 14, 115, 37, 41, 42, 43, 116, 117, 118, 119, 44, 45, 46, 47, 48, 49, 50, 51, 120, 121, 122, 36, 123, 55, 124, 125, 126, 127, 128, 129, 130, 56, 131, 57, 58, 59, 60, 132, 133, 134, 40, 135, 64, 65, 66, 68, 136, 391, 392, 393, 394, 141, 236, 239, 2, 240, 241, 242, 243, 244, 361, 362, 363, 364, 365, 298, 299, 300, 301, 145, 146, 147, 148, 149, 150, 151, 152, 841, 842, 843, 844, 845, 846, 873, 874, 861, 862, 863, 864, 865, 866, 867, 868, 869, 870, 871, 872, 886, 887, 888, 889, 890, 891, 892, 893, 894, 895] (by decide +kernel) (by decide +kernel)
set_option maxRecDepth 20000 in
theorem gL_law_X6_rebuild : GoodIn wsL_law (wsV RL 52 RX6 yX6_rebuild wsX6_rebuild) := goodIn_app (goodIn_of _ (by decide +kernel)) ggL_law_X6_rebuild
set_option maxRecDepth 20000 in
theorem ggL_law_X7_rebuild : GoodIn wsL_law wsX7_rebuild := goodIn_r _ [398, 157, 99, 249, 250, 5, 251, 162, 163, 164, 165, 166, 167, 168, 169, 170, 100, 383, 384, 385, 386, 306, 307, 308, 309, 847, 848, 849, 850, 851, 852, 853, 854, 855, 856, 857, 858, 859, 860] (by decide +kernel) (by decide +kernel)
set_option maxRecDepth 20000 in
theorem gL_law_X7_rebuild : GoodIn wsL_law (wsV RL 55 RX7 yX7_rebuild wsX7_rebuild) := goodIn_app (goodIn_of _ (by decide +kernel)) ggL_law_X7_rebuild
set_option maxRecDepth 20000 in
theorem ggL_law_X6_set : GoodIn wsL_law wsX6_set := goodIn_r _ [402, 19, 15, 108, 109, 110, 18, 111, 75, 74, 112, 113, 114, 14, 115, 37, 41, 42, 43, 116, 117, 118, 119, 44, 45, 46, 47, 48, 49, 50, 51, 120, 121, 122, 36, 123, 55, 124, 125, 126, 127, 128, 129, 130, 56, 131, 57, 58, 59, 60, 132, 133, 134, 40, 135, 64, 65, 66, 68, 136, 403, 404, 405, 406, 141, 145, 146, 147, 2, 148, 149, 150, 151, 152, 841, 842, 843, 844, 845, 846, 873, 874, 861, 862, 863, 864, 865, 866, 867, 868, 869, 870, 871, 872, 886, 887, 888, 889, 890, 891, 892, 893, 894, 895] (by decide +kernel) (by decide +kernel)
set_option maxRecDepth 20000 in
theorem gL_law_X6_set : GoodIn wsL_law (wsV RL 56 RX6 yX6_set wsX6_set) := goodIn_app (goodIn_of _ (by decide +kernel)) ggL_law_X6_set
set_option maxRecDepth 20000 in
theorem ggL_law_X7_set : GoodIn wsL_law wsX7_set := goodIn_r _ [410, 157, 99, 162, 163, 5, 164, 165, 166, 167, 168, 169, 170, 100, 847, 848, 849, 850, 851, 852, 853, 854, 855, 856, 857, 858, 859, 860] (by decide +kernel) (by decide +kernel)
set_option maxRecDepth 20000 in
theorem gL_law_X7_set : GoodIn wsL_law (wsV RL 59 RX7 yX7_set wsX7_set) := goodIn_app (goodIn_of _ (by decide +kernel)) ggL_law_X7_set
set_option maxRecDepth 20000 in
theorem ggL_law_X6_read : GoodIn wsL_law wsX6_read := goodIn_r _ [414, 15, 415, 416, 417, 418, 419, 239, 2, 240, 420, 179, 180, 421, 422, 423, 14, 424, 37, 236, 425, 242, 243, 244, 41, 42, 426, 427, 428, 40, 429, 66, 65, 430, 431, 432, 36, 433, 434, 435, 436, 437, 357, 358, 359, 360, 56, 328, 329, 330, 331, 332, 55, 438, 439, 440, 441, 57, 442, 443, 444, 445, 446, 447, 448, 449, 450, 451, 452, 453, 58, 454, 455, 456, 457, 59, 841, 842, 843, 844, 845, 846, 861, 862, 863, 864, 865, 866, 867, 868, 869, 870, 871, 872, 892, 893, 894, 895, 886, 887, 888, 889, 890, 891] (by decide +kernel) (by decide +kernel)
set_option maxRecDepth 20000 in
theorem gL_law_X6_read : GoodIn wsL_law (wsV RL 60 RX6 yX6_read wsX6_read) := goodIn_app (goodIn_of _ (by decide +kernel)) ggL_law_X6_read
set_option maxRecDepth 20000 in
theorem ggL_law_X7_read : GoodIn wsL_law wsX7_read := goodIn_r _ [461, 157, 158, 249, 250, 5, 251, 162, 163, 164, 194, 195, 196, 462, 463, 464, 465, 99, 466, 467, 468, 469, 252, 253, 254, 255, 470, 471, 472, 473, 474, 475, 476, 477, 341, 342, 343, 344, 478, 479, 480, 481, 847, 848, 849, 850, 851, 852, 853, 854, 855, 856, 857, 858, 859, 860] (by decide +kernel) (by decide +kernel)
set_option maxRecDepth 20000 in
theorem gL_law_X7_read : GoodIn wsL_law (wsV RL 63 RX7 yX7_read wsX7_read) := goodIn_app (goodIn_of _ (by decide +kernel)) ggL_law_X7_read
set_option maxRecDepth 20000 in
theorem ggL_law_X6_primary : GoodIn wsL_law wsX6_primary := goodIn_r _ [485, 415, 15, 417, 486, 416, 487, 143, 2, 144, 420, 179, 180, 430, 431, 432, 36, 433, 434, 435, 436, 437, 357, 358, 359, 360, 56, 328, 329, 330, 331, 332, 55, 438, 439, 440, 441, 57, 442, 443, 444, 445, 446, 447, 448, 449, 450, 451, 452, 453, 58, 454, 455, 456, 457, 59, 488, 489, 490, 14, 491, 43, 492, 493, 841, 842, 843, 844, 845, 846, 861, 862, 863, 864, 865, 866, 867, 868, 869, 870, 871, 872, 886, 887, 888, 889, 890, 891] (by decide +kernel) (by decide +kernel)
set_option maxRecDepth 20000 in
theorem gL_law_X6_primary : GoodIn wsL_law (wsV RL 64 RX6 yX6_primary wsX6_primary) := goodIn_app (goodIn_of _ (by decide +kernel)) ggL_law_X6_primary
set_option maxRecDepth 20000 in
theorem ggL_law_X7_primary : GoodIn wsL_law wsX7_primary := goodIn_r _ [497, 157, 99, 158, 162, 163, 5, 164, 194, 195, 196, 478, 479, 480, 481, 341, 342, 343, 344, 470, 471, 472, 473, 474, 475, 476, 477, 847, 848, 849, 850, 851, 852, 853, 854, 855, 856, 857, 858, 859, 860] (by decide +kernel) (by decide +kernel)
set_option maxRecDepth 20000 in
theorem gL_law_X7_primary : GoodIn wsL_law (wsV RL 67 RX7 yX7_primary wsX7_primary) := goodIn_app (goodIn_of _ (by decide +kernel)) ggL_law_X7_primary
set_option maxRecDepth 20000 in
theorem ggL_law_X6_serves : GoodIn wsL_law wsX6_serves := goodIn_r _ [501, 15, 415, 502, 503, 418, 504, 421, 422, 423, 14, 424, 37, 236, 426, 427, 428, 40, 429, 66, 65, 841, 842, 843, 844, 845, 846, 861, 862, 863, 864, 865, 866, 867, 868, 869, 870, 871, 872, 892, 893, 894, 895, 886, 887, 888, 889, 890, 891] (by decide +kernel) (by decide +kernel)
set_option maxRecDepth 20000 in
theorem gL_law_X6_serves : GoodIn wsL_law (wsV RL 68 RX6 yX6_serves wsX6_serves) := goodIn_app (goodIn_of _ (by decide +kernel)) ggL_law_X6_serves
set_option maxRecDepth 20000 in
theorem ggL_law_X7_serves : GoodIn wsL_law wsX7_serves := goodIn_r _ [508, 157, 218, 462, 463, 464, 5, 465, 99, 162, 163, 164, 466, 467, 468, 469, 252, 253, 254, 255, 847, 848, 849, 850, 851, 852, 853, 854, 855, 856, 857, 858, 859, 860] (by decide +kernel) (by decide +kernel)
set_option maxRecDepth 20000 in
theorem gL_law_X7_serves : GoodIn wsL_law (wsV RL 71 RX7 yX7_serves wsX7_serves) := goodIn_app (goodIn_of _ (by decide +kernel)) ggL_law_X7_serves
set_option maxRecDepth 20000 in
theorem ggL_law_X6_fence : GoodIn wsL_law wsX6_fence := goodIn_r _ [512, 415, 15, 417, 486, 420, 179, 2, 180, 513, 435, 436, 36, 437, 357, 358, 359, 360, 56, 328, 329, 330, 331, 332, 55, 438, 439, 440, 441, 57, 442, 443, 444, 445, 446, 447, 448, 449, 450, 451, 452, 453, 58, 514, 515, 516, 504, 841, 842, 843, 844, 845, 846, 861, 862, 863, 864, 865, 866, 867, 868, 869, 870, 871, 872, 886, 887, 888, 889, 890, 891] (by decide +kernel) (by decide +kernel)
set_option maxRecDepth 20000 in
theorem gL_law_X6_fence : GoodIn wsL_law (wsV RL 72 RX6 yX6_fence wsX6_fence) := goodIn_app (goodIn_of _ (by decide +kernel)) ggL_law_X6_fence
set_option maxRecDepth 20000 in
theorem ggL_law_X7_fence : GoodIn wsL_law wsX7_fence := goodIn_r _ [520, 157, 99, 218, 194, 195, 5, 196, 162, 163, 164, 474, 475, 476, 477, 341, 342, 343, 344, 478, 479, 480, 481, 847, 848, 849, 850, 851, 852, 853, 854, 855, 856, 857, 858, 859, 860] (by decide +kernel) (by decide +kernel)
set_option maxRecDepth 20000 in
theorem gL_law_X7_fence : GoodIn wsL_law (wsV RL 75 RX7 yX7_fence wsX7_fence) := goodIn_app (goodIn_of _ (by decide +kernel)) ggL_law_X7_fence
set_option maxRecDepth 20000 in
theorem ggL_law_X6_recordOf : GoodIn wsL_law wsX6_recordOf := goodIn_r _ [524, 415, 15, 417, 504, 525, 330, 331, 36, 332, 55, 526, 358, 359, 360, 56, 328, 329, 527, 439, 440, 441, 57, 528, 451, 452, 453, 58, 493, 455, 456, 457, 59, 529, 325, 326, 327, 60, 841, 842, 843, 844, 845, 846, 861, 862, 863, 864, 865, 866, 867, 868, 869, 870, 871, 872, 886, 887, 888, 889, 890, 891] (by decide +kernel) (by decide +kernel)
set_option maxRecDepth 20000 in
theorem gL_law_X6_recordOf : GoodIn wsL_law (wsV RL 76 RX6 yX6_recordOf wsX6_recordOf) := goodIn_app (goodIn_of _ (by decide +kernel)) ggL_law_X6_recordOf
set_option maxRecDepth 20000 in
theorem ggL_law_X7_recordOf : GoodIn wsL_law wsX7_recordOf := goodIn_r _ [533, 157, 99, 218, 162, 163, 5, 164, 341, 342, 343, 344, 847, 848, 849, 850, 851, 852, 853, 854, 855, 856, 857, 858, 859, 860] (by decide +kernel) (by decide +kernel)
set_option maxRecDepth 20000 in
theorem gL_law_X7_recordOf : GoodIn wsL_law (wsV RL 79 RX7 yX7_recordOf wsX7_recordOf) := goodIn_app (goodIn_of _ (by decide +kernel)) ggL_law_X7_recordOf
set_option maxRecDepth 20000 in
theorem ggL_law_X6_standbyOf : GoodIn wsL_law wsX6_standbyOf := goodIn_r _ [537, 415, 15, 417, 538, 418, 539, 486, 540, 504, 419, 239, 2, 240, 425, 242, 243, 14, 244, 41, 42, 541, 274, 275, 40, 276, 68, 542, 543, 544, 545, 514, 515, 516, 546, 354, 355, 36, 356, 55, 357, 358, 359, 360, 56, 328, 329, 330, 331, 332, 525, 529, 325, 326, 327, 60, 547, 548, 549, 550, 29, 30, 551, 552, 553, 554, 438, 439, 440, 441, 57, 555, 556, 557, 558, 446, 447, 448, 449, 450, 451, 452, 453, 58, 454, 455, 456, 457, 59, 559, 560, 561, 841, 842, 843, 844, 845, 846, 861, 862, 863, 864, 865, 866, 867, 868, 869, 870, 871, 872, 892, 893, 894, 895, 886, 887, 888, 889, 890, 891] (by decide +kernel) (by decide +kernel)
set_option maxRecDepth 20000 in
theorem gL_law_X6_standbyOf : GoodIn wsL_law (wsV RL 80 RX6 yX6_standbyOf wsX6_standbyOf) := goodIn_app (goodIn_of _ (by decide +kernel)) ggL_law_X6_standbyOf
set_option maxRecDepth 20000 in
theorem ggL_law_X7_standbyOf : GoodIn wsL_law wsX7_standbyOf := goodIn_r _ [565, 157, 99, 218, 249, 250, 5, 251, 162, 163, 164, 252, 253, 254, 255, 285, 286, 287, 288, 281, 282, 283, 284, 566, 567, 568, 569, 375, 376, 377, 378, 379, 380, 381, 382, 341, 342, 343, 344, 570, 571, 572, 573, 470, 471, 472, 473, 474, 475, 476, 477, 478, 479, 480, 481, 847, 848, 849, 850, 851, 852, 853, 854, 855, 856, 857, 858, 859, 860] (by decide +kernel) (by decide +kernel)
set_option maxRecDepth 20000 in
theorem gL_law_X7_standbyOf : GoodIn wsL_law (wsV RL 83 RX7 yX7_standbyOf wsX7_standbyOf) := goodIn_app (goodIn_of _ (by decide +kernel)) ggL_law_X7_standbyOf
set_option maxRecDepth 20000 in
theorem ggL_law_X6_slotOf : GoodIn wsL_law wsX6_slotOf := goodIn_r _ [577, 415, 15, 504, 417, 487, 143, 2, 144, 488, 489, 490, 14, 491, 43, 578, 579, 580, 36, 581, 55, 446, 447, 448, 449, 438, 439, 440, 441, 57, 328, 329, 330, 331, 332, 357, 358, 359, 360, 56, 841, 842, 843, 844, 845, 846, 861, 862, 863, 864, 865, 866, 867, 868, 869, 870, 871, 872, 886, 887, 888, 889, 890, 891] (by decide +kernel) (by decide +kernel)
set_option maxRecDepth 20000 in
theorem gL_law_X6_slotOf : GoodIn wsL_law (wsV RL 84 RX6 yX6_slotOf wsX6_slotOf) := goodIn_app (goodIn_of _ (by decide +kernel)) ggL_law_X6_slotOf
set_option maxRecDepth 20000 in
theorem ggL_law_X7_slotOf : GoodIn wsL_law wsX7_slotOf := goodIn_r _ [585, 157, 99, 218, 159, 160, 5, 161, 162, 163, 164, 341, 342, 343, 344, 847, 848, 849, 850, 851, 852, 853, 854, 855, 856, 857, 858, 859, 860] (by decide +kernel) (by decide +kernel)
set_option maxRecDepth 20000 in
theorem gL_law_X7_slotOf : GoodIn wsL_law (wsV RL 87 RX7 yX7_slotOf wsX7_slotOf) := goodIn_app (goodIn_of _ (by decide +kernel)) ggL_law_X7_slotOf
set_option maxRecDepth 20000 in
theorem ggL_law_X6_waits : GoodIn wsL_law wsX6_waits := goodIn_r _ [589, 15, 415, 539, 416, 419, 239, 2, 240, 421, 422, 423, 14, 424, 37, 236, 425, 242, 243, 244, 41, 42, 590, 591, 592, 593, 264, 44, 50, 594, 320, 321, 322, 323, 235, 237, 51, 265, 266, 267, 40, 268, 68, 324, 325, 326, 36, 327, 60, 328, 329, 330, 331, 332, 55, 841, 842, 843, 844, 845, 846, 892, 893, 894, 895, 861, 862, 863, 864, 865, 866, 867, 868, 869, 870, 871, 872, 886, 887, 888, 889, 890, 891] (by decide +kernel) (by decide +kernel)
set_option maxRecDepth 20000 in
theorem gL_law_X6_waits : GoodIn wsL_law (wsV RL 88 RX6 yX6_waits wsX6_waits) := goodIn_app (goodIn_of _ (by decide +kernel)) ggL_law_X6_waits
set_option maxRecDepth 20000 in
theorem ggL_law_X7_waits : GoodIn wsL_law wsX7_waits := goodIn_r _ [598, 157, 158, 99, 249, 250, 5, 251, 162, 163, 164, 462, 463, 464, 465, 252, 253, 254, 255, 599, 600, 601, 602, 218, 337, 338, 339, 340, 281, 282, 283, 284, 341, 342, 343, 344, 847, 848, 849, 850, 851, 852, 853, 854, 855, 856, 857, 858, 859, 860] (by decide +kernel) (by decide +kernel)
set_option maxRecDepth 20000 in
theorem gL_law_X7_waits : GoodIn wsL_law (wsV RL 91 RX7 yX7_waits wsX7_waits) := goodIn_app (goodIn_of _ (by decide +kernel)) ggL_law_X7_waits
set_option maxRecDepth 20000 in
theorem ggL_law_X6_wouldLose : GoodIn wsL_law wsX6_wouldLose := goodIn_r _ [606, 415, 15, 539, 416, 417, 418, 419, 239, 2, 240, 425, 242, 243, 14, 244, 41, 42, 546, 354, 355, 36, 356, 55, 357, 358, 359, 360, 56, 328, 329, 330, 331, 332, 841, 842, 843, 844, 845, 846, 892, 893, 894, 895, 861, 862, 863, 864, 865, 866, 867, 868, 869, 870, 871, 872, 886, 887, 888, 889, 890, 891] (by decide +kernel) (by decide +kernel)
set_option maxRecDepth 20000 in
theorem gL_law_X6_wouldLose : GoodIn wsL_law (wsV RL 92 RX6 yX6_wouldLose wsX6_wouldLose) := goodIn_app (goodIn_of _ (by decide +kernel)) ggL_law_X6_wouldLose
set_option maxRecDepth 20000 in
theorem ggL_law_X7_wouldLose : GoodIn wsL_law wsX7_wouldLose := goodIn_r _ [610, 157, 158, 249, 250, 5, 251, 162, 163, 164, 252, 253, 254, 255, 99, 375, 376, 377, 378, 379, 380, 381, 382, 341, 342, 343, 344, 847, 848, 849, 850, 851, 852, 853, 854, 855, 856, 857, 858, 859, 860] (by decide +kernel) (by decide +kernel)
set_option maxRecDepth 20000 in
theorem gL_law_X7_wouldLose : GoodIn wsL_law (wsV RL 95 RX7 yX7_wouldLose wsX7_wouldLose) := goodIn_app (goodIn_of _ (by decide +kernel)) ggL_law_X7_wouldLose
set_option maxRecDepth 20000 in
theorem ggL_law_X6_rateFor : GoodIn wsL_law wsX6_rateFor := goodIn_r _ [614, 415, 15, 539, 416, 419, 239, 2, 240, 615, 318, 319, 425, 242, 243, 14, 244, 41, 42, 616, 617, 618, 619, 594, 620, 621, 622, 40, 623, 64, 624, 543, 544, 545, 68, 625, 626, 627, 628, 264, 44, 320, 321, 322, 323, 235, 237, 37, 51, 265, 266, 267, 268, 324, 325, 326, 36, 327, 60, 328, 329, 330, 331, 332, 55, 841, 842, 843, 844, 845, 846, 892, 893, 894, 895, 861, 862, 863, 864, 865, 866, 867, 868, 869, 870, 871, 872, 886, 887, 888, 889, 890, 891] (by decide +kernel) (by decide +kernel)
set_option maxRecDepth 20000 in
theorem gL_law_X6_rateFor : GoodIn wsL_law (wsV RL 96 RX6 yX6_rateFor wsX6_rateFor) := goodIn_app (goodIn_of _ (by decide +kernel)) ggL_law_X6_rateFor
set_option maxRecDepth 20000 in
theorem ggL_law_X7_rateFor : GoodIn wsL_law wsX7_rateFor := goodIn_r _ [632, 157, 158, 218, 249, 250, 5, 251, 162, 163, 164, 252, 253, 254, 255, 99, 566, 567, 568, 569, 281, 282, 283, 284, 599, 600, 601, 602, 337, 338, 339, 340, 341, 342, 343, 344, 847, 848, 849, 850, 851, 852, 853, 854, 855, 856, 857, 858, 859, 860] (by decide +kernel) (by decide +kernel)
set_option maxRecDepth 20000 in
theorem gL_law_X7_rateFor : GoodIn wsL_law (wsV RL 99 RX7 yX7_rateFor wsX7_rateFor) := goodIn_app (goodIn_of _ (by decide +kernel)) ggL_law_X7_rateFor
set_option maxRecDepth 20000 in
theorem ggL_law_X6_count : GoodIn wsL_law wsX6_count := goodIn_r _ [636, 15, 417, 486, 540, 637, 638, 639, 640, 641, 19, 642, 23, 643, 644, 645, 415, 546, 354, 355, 36, 356, 55, 357, 358, 359, 360, 56, 328, 329, 330, 331, 332, 841, 842, 843, 844, 845, 846, 861, 862, 863, 864, 865, 866, 867, 868, 869, 870, 871, 872, 886, 887, 888, 889, 890, 891, 873, 874, 875, 876, 877, 878, 879, 880] (by decide +kernel) (by decide +kernel)
set_option maxRecDepth 20000 in
theorem gL_law_X6_count : GoodIn wsL_law (wsV RL 100 RX6 yX6_count wsX6_count) := goodIn_app (goodIn_of _ (by decide +kernel)) ggL_law_X6_count
set_option maxRecDepth 20000 in
theorem ggL_law_X7_count : GoodIn wsL_law wsX7_count := goodIn_r _ [649, 99, 170, 650, 157, 379, 380, 381, 5, 382, 341, 342, 343, 344, 847, 848, 849, 850, 851, 852, 853, 854, 855, 856, 857, 858, 859, 860] (by decide +kernel) (by decide +kernel)
set_option maxRecDepth 20000 in
theorem gL_law_X7_count : GoodIn wsL_law (wsV RL 103 RX7 yX7_count wsX7_count) := goodIn_app (goodIn_of _ (by decide +kernel)) ggL_law_X7_count
set_option maxRecDepth 20000 in
theorem ggL_law_X6_undo : GoodIn wsL_law wsX6_undo := goodIn_r _ [654, 19, 15, 642, 416, 655, 656, 657, 18, 658, 75, 74, 112, 113, 114, 14, 115, 37, 41, 42, 43, 116, 117, 118, 119, 44, 45, 46, 47, 48, 49, 50, 51, 120, 121, 122, 36, 123, 55, 124, 125, 126, 127, 128, 129, 130, 56, 131, 57, 58, 59, 60, 132, 133, 134, 40, 135, 64, 65, 66, 68, 136, 841, 842, 843, 844, 845, 846, 873, 874, 861, 862, 863, 864, 865, 866, 867, 868, 869, 870, 871, 872, 886, 887, 888, 889, 890, 891, 892, 893, 894, 895] (by decide +kernel) (by decide +kernel)
set_option maxRecDepth 20000 in
theorem gL_law_X6_undo : GoodIn wsL_law (wsV RL 104 RX6 yX6_undo wsX6_undo) := goodIn_app (goodIn_of _ (by decide +kernel)) ggL_law_X6_undo
set_option maxRecDepth 20000 in
theorem ggL_law_X7_undo : GoodIn wsL_law wsX7_undo := goodIn_r _ [662, 170, 158, 99, 100, 847, 848, 849, 850, 851, 852, 853, 854, 855, 856, 857, 858, 859, 860] (by decide +kernel) (by decide +kernel)
set_option maxRecDepth 20000 in
theorem gL_law_X7_undo : GoodIn wsL_law (wsV RL 108 RX7 yX7_undo wsX7_undo) := goodIn_app (goodIn_of _ (by decide +kernel)) ggL_law_X7_undo
set_option maxRecDepth 20000 in
theorem ggL_law_X6_type : GoodIn wsL_law wsX6_type := goodIn_r _ [666, 415, 23, 643, 667, 668, 669, 670, 22, 671, 81, 80, 841, 842, 843, 844, 845, 846, 875, 876, 877, 878, 879, 880] (by decide +kernel) (by decide +kernel)
set_option maxRecDepth 20000 in
theorem gL_law_X6_type : GoodIn wsL_law (wsV RL 109 RX6 yX6_type wsX6_type) := goodIn_app (goodIn_of _ (by decide +kernel)) ggL_law_X6_type
set_option maxRecDepth 20000 in
theorem ggL_law_X7_type : GoodIn wsL_law wsX7_type := goodIn_r _ [675, 157, 650, 201, 102, 162, 163, 5, 164, 847, 848, 849, 850, 851, 852, 853, 854, 855, 856, 857, 858, 859, 860] (by decide +kernel) (by decide +kernel)
set_option maxRecDepth 20000 in
theorem gL_law_X7_type : GoodIn wsL_law (wsV RL 112 RX7 yX7_type wsX7_type) := goodIn_app (goodIn_of _ (by decide +kernel)) ggL_law_X7_type
set_option maxRecDepth 20000 in
theorem ggL_law_X6_clearText : GoodIn wsL_law wsX6_clearText := goodIn_r _ [679, 23, 643, 841, 842, 843, 844, 845, 846, 875, 876, 877, 878, 879, 880] (by decide +kernel) (by decide +kernel)
set_option maxRecDepth 20000 in
theorem gL_law_X6_clearText : GoodIn wsL_law (wsV RL 113 RX6 yX6_clearText wsX6_clearText) := goodIn_app (goodIn_of _ (by decide +kernel)) ggL_law_X6_clearText
set_option maxRecDepth 20000 in
theorem ggL_law_X7_clearText : GoodIn wsL_law wsX7_clearText := goodIn_r _ [683, 650, 847, 848, 849, 850, 851, 852, 853, 854, 855, 856, 857, 858, 859, 860] (by decide +kernel) (by decide +kernel)
set_option maxRecDepth 20000 in
theorem gL_law_X7_clearText : GoodIn wsL_law (wsV RL 116 RX7 yX7_clearText wsX7_clearText) := goodIn_app (goodIn_of _ (by decide +kernel)) ggL_law_X7_clearText
set_option maxRecDepth 20000 in
theorem ggL_law_X6_fault : GoodIn wsL_law wsX6_fault := goodIn_r _ [687, 415, 27, 23, 15, 688, 504, 689, 690, 691, 692, 693, 26, 694, 90, 92, 93, 94, 91, 695, 696, 697, 113, 114, 14, 115, 37, 41, 42, 43, 116, 117, 118, 119, 44, 45, 46, 47, 48, 49, 50, 51, 120, 121, 122, 36, 123, 55, 124, 125, 126, 127, 128, 129, 130, 56, 131, 57, 58, 59, 60, 132, 133, 134, 40, 135, 64, 65, 66, 68, 136, 698, 699, 700, 22, 701, 82, 85, 83, 702, 703, 704, 705, 81, 80, 706, 707, 708, 709, 710, 711, 712, 713, 714, 715, 716, 717, 718, 719, 720, 721, 722, 723, 724, 725, 726, 727, 728, 729, 730, 731, 732, 733, 734, 735, 736, 737, 738, 739, 740, 741, 742, 743, 744, 745, 746, 747, 748, 749, 750, 751, 752, 753, 754, 755, 756, 757, 758, 759, 760, 761, 762, 763, 764, 765, 766, 767, 768, 769, 84, 770, 771, 772, 773, 774, 775, 776, 777, 778, 779, 780, 781, 782, 138, 139, 140, 141, 142, 143, 2, 144, 783, 176, 177, 178, 179, 180, 181, 182, 183, 184, 185, 186, 187, 188, 189, 784, 211, 212, 213, 785, 232, 233, 234, 235, 236, 237, 238, 239, 240, 241, 242, 243, 244, 786, 315, 316, 317, 264, 318, 319, 320, 321, 322, 323, 265, 266, 267, 268, 324, 325, 326, 327, 328, 329, 330, 331, 332, 841, 842, 843, 844, 845, 846, 881, 882, 883, 884, 885, 875, 876, 877, 878, 879, 880, 861, 862, 863, 864, 865, 866, 867, 868, 869, 870, 871, 872, 886, 887, 888, 889, 890, 891, 892, 893, 894, 895] (by decide +kernel) (by decide +kernel)
set_option maxRecDepth 20000 in
theorem gL_law_X6_fault : GoodIn wsL_law (wsV RL 117 RX6 yX6_fault wsX6_fault) := goodIn_app (goodIn_of _ (by decide +kernel)) ggL_law_X6_fault
set_option maxRecDepth 20000 in
theorem ggL_law_X7_fault : GoodIn wsL_law wsX7_fault := goodIn_r _ [790, 157, 99, 101, 218, 791, 792, 793, 162, 163, 5, 164, 794, 795, 796, 797, 798, 799, 800, 169, 801, 802, 650, 803, 804, 805, 806, 102, 807, 808, 809, 810, 811, 812, 813, 814, 815, 103, 816, 817, 818, 819, 820, 821, 822, 823, 824, 154, 155, 156, 158, 159, 160, 161, 165, 166, 167, 168, 170, 100, 825, 215, 216, 217, 197, 198, 199, 200, 201, 202, 203, 204, 205, 826, 224, 225, 226, 827, 191, 192, 193, 194, 195, 196, 828, 246, 247, 248, 249, 250, 251, 252, 253, 254, 255, 829, 334, 335, 336, 337, 338, 339, 340, 281, 282, 283, 284, 341, 342, 343, 344, 847, 848, 849, 850, 851, 852, 853, 854, 855, 856, 857, 858, 859, 860] (by decide +kernel) (by decide +kernel)
set_option maxRecDepth 20000 in
theorem gL_law_X7_fault : GoodIn wsL_law (wsV RL 120 RX7 yX7_fault wsX7_fault) := goodIn_app (goodIn_of _ (by decide +kernel)) ggL_law_X7_fault
set_option maxRecDepth 20000 in
theorem ggL_law_X6_play : GoodIn wsL_law wsX6_play := goodIn_r _ [833, 27, 23, 15, 688, 416, 19, 834, 835, 691, 692, 693, 26, 694, 90, 92, 93, 94, 91, 695, 696, 697, 113, 114, 14, 115, 37, 41, 42, 43, 116, 117, 118, 119, 44, 45, 46, 47, 48, 49, 50, 51, 120, 121, 122, 36, 123, 55, 124, 125, 126, 127, 128, 129, 130, 56, 131, 57, 58, 59, 60, 132, 133, 134, 40, 135, 64, 65, 66, 68, 136, 698, 699, 700, 22, 701, 82, 85, 83, 702, 703, 704, 705, 81, 80, 706, 707, 708, 709, 710, 711, 712, 713, 714, 715, 716, 717, 718, 719, 720, 721, 722, 723, 724, 725, 726, 727, 728, 729, 730, 731, 732, 733, 734, 735, 736, 737, 738, 739, 740, 741, 742, 743, 744, 745, 746, 747, 748, 749, 750, 751, 752, 753, 754, 755, 756, 757, 758, 759, 760, 761, 762, 763, 764, 765, 766, 767, 768, 769, 84, 770, 771, 772, 773, 774, 775, 776, 777, 778, 779, 780, 781, 782, 138, 139, 140, 141, 142, 143, 2, 144, 783, 176, 177, 178, 179, 180, 181, 182, 183, 184, 185, 186, 187, 188, 189, 784, 211, 212, 213, 785, 232, 233, 234, 235, 236, 237, 238, 239, 240, 241, 242, 243, 244, 786, 315, 316, 317, 264, 318, 319, 320, 321, 322, 323, 265, 266, 267, 268, 324, 325, 326, 327, 328, 329, 330, 331, 332, 108, 109, 110, 18, 111, 75, 74, 112, 836, 145, 146, 147, 148, 149, 150, 151, 152, 841, 842, 843, 844, 845, 846, 881, 882, 883, 884, 885, 875, 876, 877, 878, 879, 880, 861, 862, 863, 864, 865, 866, 867, 868, 869, 870, 871, 872, 886, 887, 888, 889, 890, 891, 892, 893, 894, 895, 873, 874] (by decide +kernel) (by decide +kernel)
set_option maxRecDepth 20000 in
theorem gL_law_X6_play : GoodIn wsL_law (wsV RL 121 RX6 yX6_play wsX6_play) := goodIn_app (goodIn_of _ (by decide +kernel)) ggL_law_X6_play
set_option maxRecDepth 20000 in
theorem ggL_law_X7_play : GoodIn wsL_law wsX7_play := goodIn_r _ [840, 99, 101, 158, 802, 218, 794, 795, 5, 796, 797, 798, 799, 800, 169, 801, 791, 650, 792, 793, 803, 804, 805, 806, 102, 807, 808, 809, 810, 811, 162, 163, 164, 812, 813, 814, 815, 103, 816, 817, 818, 819, 820, 821, 822, 823, 824, 154, 155, 156, 157, 159, 160, 161, 165, 166, 167, 168, 170, 100, 825, 215, 216, 217, 197, 198, 199, 200, 201, 202, 203, 204, 205, 826, 224, 225, 226, 827, 191, 192, 193, 194, 195, 196, 828, 246, 247, 248, 249, 250, 251, 252, 253, 254, 255, 829, 334, 335, 336, 337, 338, 339, 340, 281, 282, 283, 284, 341, 342, 343, 344, 847, 848, 849, 850, 851, 852, 853, 854, 855, 856, 857, 858, 859, 860] (by decide +kernel) (by decide +kernel)
set_option maxRecDepth 20000 in
theorem gL_law_X7_play : GoodIn wsL_law (wsV RL 124 RX7 yX7_play wsX7_play) := goodIn_app (goodIn_of _ (by decide +kernel)) ggL_law_X7_play
theorem dL_law_0 : decode cL_law 0 = .ok (.new 7, 3) := by decide +kernel
theorem dL_law_3 : decode cL_law 3 = .ok (.dup, 1) := by decide +kernel
theorem dL_law_4 : decode cL_law 4 = .ok (.invokespecial 9, 3) := by decide +kernel
theorem dL_law_7 : decode cL_law 7 = .ok (.astore_n 1, 1) := by decide +kernel
theorem dL_law_8 : decode cL_law 8 = .ok (.new 10, 3) := by decide +kernel
theorem dL_law_11 : decode cL_law 11 = .ok (.dup, 1) := by decide +kernel
theorem dL_law_12 : decode cL_law 12 = .ok (.invokespecial 12, 3) := by decide +kernel
theorem dL_law_15 : decode cL_law 15 = .ok (.astore_n 2, 1) := by decide +kernel
theorem dL_law_16 : decode cL_law 16 = .ok (.iconst 0, 1) := by decide +kernel
theorem dL_law_17 : decode cL_law 17 = .ok (.istore_n 3, 1) := by decide +kernel
theorem dL_law_18 : decode cL_law 18 = .ok (.iload_n 3, 1) := by decide +kernel
theorem dL_law_19 : decode cL_law 19 = .ok (.aload_n 0, 1) := by decide +kernel
theorem dL_law_20 : decode cL_law 20 = .ok (.arraylength, 1) := by decide +kernel
theorem dL_law_21 : decode cL_law 21 = .ok (.iconst 4, 1) := by decide +kernel
theorem dL_law_22 : decode cL_law 22 = .ok (.isub, 1) := by decide +kernel
theorem dL_law_23 : decode cL_law 23 = .ok (.if_icmp .gt 860, 3) := by decide +kernel
theorem dL_law_26 : decode cL_law 26 = .ok (.aload_n 0, 1) := by decide +kernel
theorem dL_law_27 : decode cL_law 27 = .ok (.iload_n 3, 1) := by decide +kernel
theorem dL_law_28 : decode cL_law 28 = .ok (.iaload, 1) := by decide +kernel
theorem dL_law_29 : decode cL_law 29 = .ok (.bipush 31, 2) := by decide +kernel
theorem dL_law_31 : decode cL_law 31 = .ok (.iand, 1) := by decide +kernel
theorem dL_law_32 : decode cL_law 32 = .ok (.tableswitch 845 0 26 #[124, 147, 190, 213, 236, 269, 302, 325, 348, 371, 394, 427, 470, 503, 526, 549, 582, 615, 648, 681, 704, 737, 760, 773, 796, 809, 832], 124) := by decide +kernel
theorem dL_law_156 : decode cL_law 156 = .ok (.aload_n 1, 1) := by decide +kernel
theorem dL_law_157 : decode cL_law 157 = .ok (.aload_n 0, 1) := by decide +kernel
theorem dL_law_158 : decode cL_law 158 = .ok (.iload_n 3, 1) := by decide +kernel
theorem dL_law_159 : decode cL_law 159 = .ok (.iconst 1, 1) := by decide +kernel
theorem dL_law_160 : decode cL_law 160 = .ok (.iadd, 1) := by decide +kernel
theorem dL_law_161 : decode cL_law 161 = .ok (.iaload, 1) := by decide +kernel
theorem dL_law_162 : decode cL_law 162 = .ok (.invokevirtual 13, 3) := by decide +kernel
theorem dL_law_165 : decode cL_law 165 = .ok (.aload_n 2, 1) := by decide +kernel
theorem dL_law_166 : decode cL_law 166 = .ok (.aload_n 0, 1) := by decide +kernel
theorem dL_law_167 : decode cL_law 167 = .ok (.iload_n 3, 1) := by decide +kernel
theorem dL_law_168 : decode cL_law 168 = .ok (.iconst 1, 1) := by decide +kernel
theorem dL_law_169 : decode cL_law 169 = .ok (.iadd, 1) := by decide +kernel
theorem dL_law_170 : decode cL_law 170 = .ok (.iaload, 1) := by decide +kernel
theorem dL_law_171 : decode cL_law 171 = .ok (.invokevirtual 17, 3) := by decide +kernel
theorem dL_law_174 : decode cL_law 174 = .ok (.if_icmp .eq 703, 3) := by decide +kernel
theorem dL_law_177 : decode cL_law 177 = .ok (.iconst 0, 1) := by decide +kernel
theorem dL_law_178 : decode cL_law 178 = .ok (.ireturn, 1) := by decide +kernel
theorem dL_law_179 : decode cL_law 179 = .ok (.aload_n 1, 1) := by decide +kernel
theorem dL_law_180 : decode cL_law 180 = .ok (.aload_n 0, 1) := by decide +kernel
theorem dL_law_181 : decode cL_law 181 = .ok (.iload_n 3, 1) := by decide +kernel
theorem dL_law_182 : decode cL_law 182 = .ok (.iconst 1, 1) := by decide +kernel
theorem dL_law_183 : decode cL_law 183 = .ok (.iadd, 1) := by decide +kernel
theorem dL_law_184 : decode cL_law 184 = .ok (.iaload, 1) := by decide +kernel
theorem dL_law_185 : decode cL_law 185 = .ok (.aload_n 0, 1) := by decide +kernel
theorem dL_law_186 : decode cL_law 186 = .ok (.iload_n 3, 1) := by decide +kernel
theorem dL_law_187 : decode cL_law 187 = .ok (.iconst 2, 1) := by decide +kernel
theorem dL_law_188 : decode cL_law 188 = .ok (.iadd, 1) := by decide +kernel
theorem dL_law_189 : decode cL_law 189 = .ok (.iaload, 1) := by decide +kernel
theorem dL_law_190 : decode cL_law 190 = .ok (.aload_n 0, 1) := by decide +kernel
theorem dL_law_191 : decode cL_law 191 = .ok (.iload_n 3, 1) := by decide +kernel
theorem dL_law_192 : decode cL_law 192 = .ok (.iconst 3, 1) := by decide +kernel
theorem dL_law_193 : decode cL_law 193 = .ok (.iadd, 1) := by decide +kernel
theorem dL_law_194 : decode cL_law 194 = .ok (.iaload, 1) := by decide +kernel
theorem dL_law_195 : decode cL_law 195 = .ok (.invokevirtual 18, 3) := by decide +kernel
theorem dL_law_198 : decode cL_law 198 = .ok (.aload_n 2, 1) := by decide +kernel
theorem dL_law_199 : decode cL_law 199 = .ok (.aload_n 0, 1) := by decide +kernel
theorem dL_law_200 : decode cL_law 200 = .ok (.iload_n 3, 1) := by decide +kernel
theorem dL_law_201 : decode cL_law 201 = .ok (.iconst 1, 1) := by decide +kernel
theorem dL_law_202 : decode cL_law 202 = .ok (.iadd, 1) := by decide +kernel
theorem dL_law_203 : decode cL_law 203 = .ok (.iaload, 1) := by decide +kernel
theorem dL_law_204 : decode cL_law 204 = .ok (.aload_n 0, 1) := by decide +kernel
theorem dL_law_205 : decode cL_law 205 = .ok (.iload_n 3, 1) := by decide +kernel
theorem dL_law_206 : decode cL_law 206 = .ok (.iconst 2, 1) := by decide +kernel
theorem dL_law_207 : decode cL_law 207 = .ok (.iadd, 1) := by decide +kernel
theorem dL_law_208 : decode cL_law 208 = .ok (.iaload, 1) := by decide +kernel
theorem dL_law_209 : decode cL_law 209 = .ok (.aload_n 0, 1) := by decide +kernel
theorem dL_law_210 : decode cL_law 210 = .ok (.iload_n 3, 1) := by decide +kernel
theorem dL_law_211 : decode cL_law 211 = .ok (.iconst 3, 1) := by decide +kernel
theorem dL_law_212 : decode cL_law 212 = .ok (.iadd, 1) := by decide +kernel
theorem dL_law_213 : decode cL_law 213 = .ok (.iaload, 1) := by decide +kernel
theorem dL_law_214 : decode cL_law 214 = .ok (.invokevirtual 22, 3) := by decide +kernel
theorem dL_law_217 : decode cL_law 217 = .ok (.if_icmp .eq 660, 3) := by decide +kernel
theorem dL_law_220 : decode cL_law 220 = .ok (.iconst 0, 1) := by decide +kernel
theorem dL_law_221 : decode cL_law 221 = .ok (.ireturn, 1) := by decide +kernel
theorem dL_law_222 : decode cL_law 222 = .ok (.aload_n 1, 1) := by decide +kernel
theorem dL_law_223 : decode cL_law 223 = .ok (.aload_n 0, 1) := by decide +kernel
theorem dL_law_224 : decode cL_law 224 = .ok (.iload_n 3, 1) := by decide +kernel
theorem dL_law_225 : decode cL_law 225 = .ok (.iconst 1, 1) := by decide +kernel
theorem dL_law_226 : decode cL_law 226 = .ok (.iadd, 1) := by decide +kernel
theorem dL_law_227 : decode cL_law 227 = .ok (.iaload, 1) := by decide +kernel
theorem dL_law_228 : decode cL_law 228 = .ok (.invokevirtual 23, 3) := by decide +kernel
theorem dL_law_231 : decode cL_law 231 = .ok (.aload_n 2, 1) := by decide +kernel
theorem dL_law_232 : decode cL_law 232 = .ok (.aload_n 0, 1) := by decide +kernel
theorem dL_law_233 : decode cL_law 233 = .ok (.iload_n 3, 1) := by decide +kernel
theorem dL_law_234 : decode cL_law 234 = .ok (.iconst 1, 1) := by decide +kernel
theorem dL_law_235 : decode cL_law 235 = .ok (.iadd, 1) := by decide +kernel
theorem dL_law_236 : decode cL_law 236 = .ok (.iaload, 1) := by decide +kernel
theorem dL_law_237 : decode cL_law 237 = .ok (.invokevirtual 26, 3) := by decide +kernel
theorem dL_law_240 : decode cL_law 240 = .ok (.if_icmp .eq 637, 3) := by decide +kernel
theorem dL_law_243 : decode cL_law 243 = .ok (.iconst 0, 1) := by decide +kernel
theorem dL_law_244 : decode cL_law 244 = .ok (.ireturn, 1) := by decide +kernel
theorem dL_law_245 : decode cL_law 245 = .ok (.aload_n 1, 1) := by decide +kernel
theorem dL_law_246 : decode cL_law 246 = .ok (.aload_n 0, 1) := by decide +kernel
theorem dL_law_247 : decode cL_law 247 = .ok (.iload_n 3, 1) := by decide +kernel
theorem dL_law_248 : decode cL_law 248 = .ok (.iconst 1, 1) := by decide +kernel
theorem dL_law_249 : decode cL_law 249 = .ok (.iadd, 1) := by decide +kernel
theorem dL_law_250 : decode cL_law 250 = .ok (.iaload, 1) := by decide +kernel
theorem dL_law_251 : decode cL_law 251 = .ok (.invokevirtual 27, 3) := by decide +kernel
theorem dL_law_254 : decode cL_law 254 = .ok (.aload_n 2, 1) := by decide +kernel
theorem dL_law_255 : decode cL_law 255 = .ok (.aload_n 0, 1) := by decide +kernel
theorem dL_law_256 : decode cL_law 256 = .ok (.iload_n 3, 1) := by decide +kernel
theorem dL_law_257 : decode cL_law 257 = .ok (.iconst 1, 1) := by decide +kernel
theorem dL_law_258 : decode cL_law 258 = .ok (.iadd, 1) := by decide +kernel
theorem dL_law_259 : decode cL_law 259 = .ok (.iaload, 1) := by decide +kernel
theorem dL_law_260 : decode cL_law 260 = .ok (.invokevirtual 30, 3) := by decide +kernel
theorem dL_law_263 : decode cL_law 263 = .ok (.if_icmp .eq 614, 3) := by decide +kernel
theorem dL_law_266 : decode cL_law 266 = .ok (.iconst 0, 1) := by decide +kernel
theorem dL_law_267 : decode cL_law 267 = .ok (.ireturn, 1) := by decide +kernel
theorem dL_law_268 : decode cL_law 268 = .ok (.aload_n 1, 1) := by decide +kernel
theorem dL_law_269 : decode cL_law 269 = .ok (.aload_n 0, 1) := by decide +kernel
theorem dL_law_270 : decode cL_law 270 = .ok (.iload_n 3, 1) := by decide +kernel
theorem dL_law_271 : decode cL_law 271 = .ok (.iconst 1, 1) := by decide +kernel
theorem dL_law_272 : decode cL_law 272 = .ok (.iadd, 1) := by decide +kernel
theorem dL_law_273 : decode cL_law 273 = .ok (.iaload, 1) := by decide +kernel
theorem dL_law_274 : decode cL_law 274 = .ok (.aload_n 0, 1) := by decide +kernel
theorem dL_law_275 : decode cL_law 275 = .ok (.iload_n 3, 1) := by decide +kernel
theorem dL_law_276 : decode cL_law 276 = .ok (.iconst 2, 1) := by decide +kernel
theorem dL_law_277 : decode cL_law 277 = .ok (.iadd, 1) := by decide +kernel
theorem dL_law_278 : decode cL_law 278 = .ok (.iaload, 1) := by decide +kernel
theorem dL_law_279 : decode cL_law 279 = .ok (.invokevirtual 31, 3) := by decide +kernel
theorem dL_law_282 : decode cL_law 282 = .ok (.aload_n 2, 1) := by decide +kernel
theorem dL_law_283 : decode cL_law 283 = .ok (.aload_n 0, 1) := by decide +kernel
theorem dL_law_284 : decode cL_law 284 = .ok (.iload_n 3, 1) := by decide +kernel
theorem dL_law_285 : decode cL_law 285 = .ok (.iconst 1, 1) := by decide +kernel
theorem dL_law_286 : decode cL_law 286 = .ok (.iadd, 1) := by decide +kernel
theorem dL_law_287 : decode cL_law 287 = .ok (.iaload, 1) := by decide +kernel
theorem dL_law_288 : decode cL_law 288 = .ok (.aload_n 0, 1) := by decide +kernel
theorem dL_law_289 : decode cL_law 289 = .ok (.iload_n 3, 1) := by decide +kernel
theorem dL_law_290 : decode cL_law 290 = .ok (.iconst 2, 1) := by decide +kernel
theorem dL_law_291 : decode cL_law 291 = .ok (.iadd, 1) := by decide +kernel
theorem dL_law_292 : decode cL_law 292 = .ok (.iaload, 1) := by decide +kernel
theorem dL_law_293 : decode cL_law 293 = .ok (.invokevirtual 35, 3) := by decide +kernel
theorem dL_law_296 : decode cL_law 296 = .ok (.if_icmp .eq 581, 3) := by decide +kernel
theorem dL_law_299 : decode cL_law 299 = .ok (.iconst 0, 1) := by decide +kernel
theorem dL_law_300 : decode cL_law 300 = .ok (.ireturn, 1) := by decide +kernel
theorem dL_law_301 : decode cL_law 301 = .ok (.aload_n 1, 1) := by decide +kernel
theorem dL_law_302 : decode cL_law 302 = .ok (.aload_n 0, 1) := by decide +kernel
theorem dL_law_303 : decode cL_law 303 = .ok (.iload_n 3, 1) := by decide +kernel
theorem dL_law_304 : decode cL_law 304 = .ok (.iconst 1, 1) := by decide +kernel
theorem dL_law_305 : decode cL_law 305 = .ok (.iadd, 1) := by decide +kernel
theorem dL_law_306 : decode cL_law 306 = .ok (.iaload, 1) := by decide +kernel
theorem dL_law_307 : decode cL_law 307 = .ok (.aload_n 0, 1) := by decide +kernel
theorem dL_law_308 : decode cL_law 308 = .ok (.iload_n 3, 1) := by decide +kernel
theorem dL_law_309 : decode cL_law 309 = .ok (.iconst 2, 1) := by decide +kernel
theorem dL_law_310 : decode cL_law 310 = .ok (.iadd, 1) := by decide +kernel
theorem dL_law_311 : decode cL_law 311 = .ok (.iaload, 1) := by decide +kernel
theorem dL_law_312 : decode cL_law 312 = .ok (.invokevirtual 36, 3) := by decide +kernel
theorem dL_law_315 : decode cL_law 315 = .ok (.aload_n 2, 1) := by decide +kernel
theorem dL_law_316 : decode cL_law 316 = .ok (.aload_n 0, 1) := by decide +kernel
theorem dL_law_317 : decode cL_law 317 = .ok (.iload_n 3, 1) := by decide +kernel
theorem dL_law_318 : decode cL_law 318 = .ok (.iconst 1, 1) := by decide +kernel
theorem dL_law_319 : decode cL_law 319 = .ok (.iadd, 1) := by decide +kernel
theorem dL_law_320 : decode cL_law 320 = .ok (.iaload, 1) := by decide +kernel
theorem dL_law_321 : decode cL_law 321 = .ok (.aload_n 0, 1) := by decide +kernel
theorem dL_law_322 : decode cL_law 322 = .ok (.iload_n 3, 1) := by decide +kernel
theorem dL_law_323 : decode cL_law 323 = .ok (.iconst 2, 1) := by decide +kernel
theorem dL_law_324 : decode cL_law 324 = .ok (.iadd, 1) := by decide +kernel
theorem dL_law_325 : decode cL_law 325 = .ok (.iaload, 1) := by decide +kernel
theorem dL_law_326 : decode cL_law 326 = .ok (.invokevirtual 39, 3) := by decide +kernel
theorem dL_law_329 : decode cL_law 329 = .ok (.if_icmp .eq 548, 3) := by decide +kernel
theorem dL_law_332 : decode cL_law 332 = .ok (.iconst 0, 1) := by decide +kernel
theorem dL_law_333 : decode cL_law 333 = .ok (.ireturn, 1) := by decide +kernel
theorem dL_law_334 : decode cL_law 334 = .ok (.aload_n 1, 1) := by decide +kernel
theorem dL_law_335 : decode cL_law 335 = .ok (.aload_n 0, 1) := by decide +kernel
theorem dL_law_336 : decode cL_law 336 = .ok (.iload_n 3, 1) := by decide +kernel
theorem dL_law_337 : decode cL_law 337 = .ok (.iconst 1, 1) := by decide +kernel
theorem dL_law_338 : decode cL_law 338 = .ok (.iadd, 1) := by decide +kernel
theorem dL_law_339 : decode cL_law 339 = .ok (.iaload, 1) := by decide +kernel
theorem dL_law_340 : decode cL_law 340 = .ok (.invokevirtual 40, 3) := by decide +kernel
theorem dL_law_343 : decode cL_law 343 = .ok (.aload_n 2, 1) := by decide +kernel
theorem dL_law_344 : decode cL_law 344 = .ok (.aload_n 0, 1) := by decide +kernel
theorem dL_law_345 : decode cL_law 345 = .ok (.iload_n 3, 1) := by decide +kernel
theorem dL_law_346 : decode cL_law 346 = .ok (.iconst 1, 1) := by decide +kernel
theorem dL_law_347 : decode cL_law 347 = .ok (.iadd, 1) := by decide +kernel
theorem dL_law_348 : decode cL_law 348 = .ok (.iaload, 1) := by decide +kernel
theorem dL_law_349 : decode cL_law 349 = .ok (.invokevirtual 43, 3) := by decide +kernel
theorem dL_law_352 : decode cL_law 352 = .ok (.if_icmp .eq 525, 3) := by decide +kernel
theorem dL_law_355 : decode cL_law 355 = .ok (.iconst 0, 1) := by decide +kernel
theorem dL_law_356 : decode cL_law 356 = .ok (.ireturn, 1) := by decide +kernel
theorem dL_law_357 : decode cL_law 357 = .ok (.aload_n 1, 1) := by decide +kernel
theorem dL_law_358 : decode cL_law 358 = .ok (.aload_n 0, 1) := by decide +kernel
theorem dL_law_359 : decode cL_law 359 = .ok (.iload_n 3, 1) := by decide +kernel
theorem dL_law_360 : decode cL_law 360 = .ok (.iconst 1, 1) := by decide +kernel
theorem dL_law_361 : decode cL_law 361 = .ok (.iadd, 1) := by decide +kernel
theorem dL_law_362 : decode cL_law 362 = .ok (.iaload, 1) := by decide +kernel
theorem dL_law_363 : decode cL_law 363 = .ok (.invokevirtual 44, 3) := by decide +kernel
theorem dL_law_366 : decode cL_law 366 = .ok (.aload_n 2, 1) := by decide +kernel
theorem dL_law_367 : decode cL_law 367 = .ok (.aload_n 0, 1) := by decide +kernel
theorem dL_law_368 : decode cL_law 368 = .ok (.iload_n 3, 1) := by decide +kernel
theorem dL_law_369 : decode cL_law 369 = .ok (.iconst 1, 1) := by decide +kernel
theorem dL_law_370 : decode cL_law 370 = .ok (.iadd, 1) := by decide +kernel
theorem dL_law_371 : decode cL_law 371 = .ok (.iaload, 1) := by decide +kernel
theorem dL_law_372 : decode cL_law 372 = .ok (.invokevirtual 47, 3) := by decide +kernel
theorem dL_law_375 : decode cL_law 375 = .ok (.if_icmp .eq 502, 3) := by decide +kernel
theorem dL_law_378 : decode cL_law 378 = .ok (.iconst 0, 1) := by decide +kernel
theorem dL_law_379 : decode cL_law 379 = .ok (.ireturn, 1) := by decide +kernel
theorem dL_law_380 : decode cL_law 380 = .ok (.aload_n 1, 1) := by decide +kernel
theorem dL_law_381 : decode cL_law 381 = .ok (.aload_n 0, 1) := by decide +kernel
theorem dL_law_382 : decode cL_law 382 = .ok (.iload_n 3, 1) := by decide +kernel
theorem dL_law_383 : decode cL_law 383 = .ok (.iconst 1, 1) := by decide +kernel
theorem dL_law_384 : decode cL_law 384 = .ok (.iadd, 1) := by decide +kernel
theorem dL_law_385 : decode cL_law 385 = .ok (.iaload, 1) := by decide +kernel
theorem dL_law_386 : decode cL_law 386 = .ok (.invokevirtual 48, 3) := by decide +kernel
theorem dL_law_389 : decode cL_law 389 = .ok (.aload_n 2, 1) := by decide +kernel
theorem dL_law_390 : decode cL_law 390 = .ok (.aload_n 0, 1) := by decide +kernel
theorem dL_law_391 : decode cL_law 391 = .ok (.iload_n 3, 1) := by decide +kernel
theorem dL_law_392 : decode cL_law 392 = .ok (.iconst 1, 1) := by decide +kernel
theorem dL_law_393 : decode cL_law 393 = .ok (.iadd, 1) := by decide +kernel
theorem dL_law_394 : decode cL_law 394 = .ok (.iaload, 1) := by decide +kernel
theorem dL_law_395 : decode cL_law 395 = .ok (.invokevirtual 51, 3) := by decide +kernel
theorem dL_law_398 : decode cL_law 398 = .ok (.if_icmp .eq 479, 3) := by decide +kernel
theorem dL_law_401 : decode cL_law 401 = .ok (.iconst 0, 1) := by decide +kernel
theorem dL_law_402 : decode cL_law 402 = .ok (.ireturn, 1) := by decide +kernel
theorem dL_law_403 : decode cL_law 403 = .ok (.aload_n 1, 1) := by decide +kernel
theorem dL_law_404 : decode cL_law 404 = .ok (.aload_n 0, 1) := by decide +kernel
theorem dL_law_405 : decode cL_law 405 = .ok (.iload_n 3, 1) := by decide +kernel
theorem dL_law_406 : decode cL_law 406 = .ok (.iconst 1, 1) := by decide +kernel
theorem dL_law_407 : decode cL_law 407 = .ok (.iadd, 1) := by decide +kernel
theorem dL_law_408 : decode cL_law 408 = .ok (.iaload, 1) := by decide +kernel
theorem dL_law_409 : decode cL_law 409 = .ok (.invokevirtual 52, 3) := by decide +kernel
theorem dL_law_412 : decode cL_law 412 = .ok (.aload_n 2, 1) := by decide +kernel
theorem dL_law_413 : decode cL_law 413 = .ok (.aload_n 0, 1) := by decide +kernel
theorem dL_law_414 : decode cL_law 414 = .ok (.iload_n 3, 1) := by decide +kernel
theorem dL_law_415 : decode cL_law 415 = .ok (.iconst 1, 1) := by decide +kernel
theorem dL_law_416 : decode cL_law 416 = .ok (.iadd, 1) := by decide +kernel
theorem dL_law_417 : decode cL_law 417 = .ok (.iaload, 1) := by decide +kernel
theorem dL_law_418 : decode cL_law 418 = .ok (.invokevirtual 55, 3) := by decide +kernel
theorem dL_law_421 : decode cL_law 421 = .ok (.if_icmp .eq 456, 3) := by decide +kernel
theorem dL_law_424 : decode cL_law 424 = .ok (.iconst 0, 1) := by decide +kernel
theorem dL_law_425 : decode cL_law 425 = .ok (.ireturn, 1) := by decide +kernel
theorem dL_law_426 : decode cL_law 426 = .ok (.aload_n 1, 1) := by decide +kernel
theorem dL_law_427 : decode cL_law 427 = .ok (.aload_n 0, 1) := by decide +kernel
theorem dL_law_428 : decode cL_law 428 = .ok (.iload_n 3, 1) := by decide +kernel
theorem dL_law_429 : decode cL_law 429 = .ok (.iconst 1, 1) := by decide +kernel
theorem dL_law_430 : decode cL_law 430 = .ok (.iadd, 1) := by decide +kernel
theorem dL_law_431 : decode cL_law 431 = .ok (.iaload, 1) := by decide +kernel
theorem dL_law_432 : decode cL_law 432 = .ok (.aload_n 0, 1) := by decide +kernel
theorem dL_law_433 : decode cL_law 433 = .ok (.iload_n 3, 1) := by decide +kernel
theorem dL_law_434 : decode cL_law 434 = .ok (.iconst 2, 1) := by decide +kernel
theorem dL_law_435 : decode cL_law 435 = .ok (.iadd, 1) := by decide +kernel
theorem dL_law_436 : decode cL_law 436 = .ok (.iaload, 1) := by decide +kernel
theorem dL_law_437 : decode cL_law 437 = .ok (.invokevirtual 56, 3) := by decide +kernel
theorem dL_law_440 : decode cL_law 440 = .ok (.aload_n 2, 1) := by decide +kernel
theorem dL_law_441 : decode cL_law 441 = .ok (.aload_n 0, 1) := by decide +kernel
theorem dL_law_442 : decode cL_law 442 = .ok (.iload_n 3, 1) := by decide +kernel
theorem dL_law_443 : decode cL_law 443 = .ok (.iconst 1, 1) := by decide +kernel
theorem dL_law_444 : decode cL_law 444 = .ok (.iadd, 1) := by decide +kernel
theorem dL_law_445 : decode cL_law 445 = .ok (.iaload, 1) := by decide +kernel
theorem dL_law_446 : decode cL_law 446 = .ok (.aload_n 0, 1) := by decide +kernel
theorem dL_law_447 : decode cL_law 447 = .ok (.iload_n 3, 1) := by decide +kernel
theorem dL_law_448 : decode cL_law 448 = .ok (.iconst 2, 1) := by decide +kernel
theorem dL_law_449 : decode cL_law 449 = .ok (.iadd, 1) := by decide +kernel
theorem dL_law_450 : decode cL_law 450 = .ok (.iaload, 1) := by decide +kernel
theorem dL_law_451 : decode cL_law 451 = .ok (.invokevirtual 59, 3) := by decide +kernel
theorem dL_law_454 : decode cL_law 454 = .ok (.if_icmp .eq 423, 3) := by decide +kernel
theorem dL_law_457 : decode cL_law 457 = .ok (.iconst 0, 1) := by decide +kernel
theorem dL_law_458 : decode cL_law 458 = .ok (.ireturn, 1) := by decide +kernel
theorem dL_law_459 : decode cL_law 459 = .ok (.aload_n 1, 1) := by decide +kernel
theorem dL_law_460 : decode cL_law 460 = .ok (.aload_n 0, 1) := by decide +kernel
theorem dL_law_461 : decode cL_law 461 = .ok (.iload_n 3, 1) := by decide +kernel
theorem dL_law_462 : decode cL_law 462 = .ok (.iconst 1, 1) := by decide +kernel
theorem dL_law_463 : decode cL_law 463 = .ok (.iadd, 1) := by decide +kernel
theorem dL_law_464 : decode cL_law 464 = .ok (.iaload, 1) := by decide +kernel
theorem dL_law_465 : decode cL_law 465 = .ok (.aload_n 0, 1) := by decide +kernel
theorem dL_law_466 : decode cL_law 466 = .ok (.iload_n 3, 1) := by decide +kernel
theorem dL_law_467 : decode cL_law 467 = .ok (.iconst 2, 1) := by decide +kernel
theorem dL_law_468 : decode cL_law 468 = .ok (.iadd, 1) := by decide +kernel
theorem dL_law_469 : decode cL_law 469 = .ok (.iaload, 1) := by decide +kernel
theorem dL_law_470 : decode cL_law 470 = .ok (.aload_n 0, 1) := by decide +kernel
theorem dL_law_471 : decode cL_law 471 = .ok (.iload_n 3, 1) := by decide +kernel
theorem dL_law_472 : decode cL_law 472 = .ok (.iconst 3, 1) := by decide +kernel
theorem dL_law_473 : decode cL_law 473 = .ok (.iadd, 1) := by decide +kernel
theorem dL_law_474 : decode cL_law 474 = .ok (.iaload, 1) := by decide +kernel
theorem dL_law_475 : decode cL_law 475 = .ok (.invokevirtual 60, 3) := by decide +kernel
theorem dL_law_478 : decode cL_law 478 = .ok (.aload_n 2, 1) := by decide +kernel
theorem dL_law_479 : decode cL_law 479 = .ok (.aload_n 0, 1) := by decide +kernel
theorem dL_law_480 : decode cL_law 480 = .ok (.iload_n 3, 1) := by decide +kernel
theorem dL_law_481 : decode cL_law 481 = .ok (.iconst 1, 1) := by decide +kernel
theorem dL_law_482 : decode cL_law 482 = .ok (.iadd, 1) := by decide +kernel
theorem dL_law_483 : decode cL_law 483 = .ok (.iaload, 1) := by decide +kernel
theorem dL_law_484 : decode cL_law 484 = .ok (.aload_n 0, 1) := by decide +kernel
theorem dL_law_485 : decode cL_law 485 = .ok (.iload_n 3, 1) := by decide +kernel
theorem dL_law_486 : decode cL_law 486 = .ok (.iconst 2, 1) := by decide +kernel
theorem dL_law_487 : decode cL_law 487 = .ok (.iadd, 1) := by decide +kernel
theorem dL_law_488 : decode cL_law 488 = .ok (.iaload, 1) := by decide +kernel
theorem dL_law_489 : decode cL_law 489 = .ok (.aload_n 0, 1) := by decide +kernel
theorem dL_law_490 : decode cL_law 490 = .ok (.iload_n 3, 1) := by decide +kernel
theorem dL_law_491 : decode cL_law 491 = .ok (.iconst 3, 1) := by decide +kernel
theorem dL_law_492 : decode cL_law 492 = .ok (.iadd, 1) := by decide +kernel
theorem dL_law_493 : decode cL_law 493 = .ok (.iaload, 1) := by decide +kernel
theorem dL_law_494 : decode cL_law 494 = .ok (.invokevirtual 63, 3) := by decide +kernel
theorem dL_law_497 : decode cL_law 497 = .ok (.if_icmp .eq 380, 3) := by decide +kernel
theorem dL_law_500 : decode cL_law 500 = .ok (.iconst 0, 1) := by decide +kernel
theorem dL_law_501 : decode cL_law 501 = .ok (.ireturn, 1) := by decide +kernel
theorem dL_law_502 : decode cL_law 502 = .ok (.aload_n 1, 1) := by decide +kernel
theorem dL_law_503 : decode cL_law 503 = .ok (.aload_n 0, 1) := by decide +kernel
theorem dL_law_504 : decode cL_law 504 = .ok (.iload_n 3, 1) := by decide +kernel
theorem dL_law_505 : decode cL_law 505 = .ok (.iconst 1, 1) := by decide +kernel
theorem dL_law_506 : decode cL_law 506 = .ok (.iadd, 1) := by decide +kernel
theorem dL_law_507 : decode cL_law 507 = .ok (.iaload, 1) := by decide +kernel
theorem dL_law_508 : decode cL_law 508 = .ok (.aload_n 0, 1) := by decide +kernel
theorem dL_law_509 : decode cL_law 509 = .ok (.iload_n 3, 1) := by decide +kernel
theorem dL_law_510 : decode cL_law 510 = .ok (.iconst 2, 1) := by decide +kernel
theorem dL_law_511 : decode cL_law 511 = .ok (.iadd, 1) := by decide +kernel
theorem dL_law_512 : decode cL_law 512 = .ok (.iaload, 1) := by decide +kernel
theorem dL_law_513 : decode cL_law 513 = .ok (.invokevirtual 64, 3) := by decide +kernel
theorem dL_law_516 : decode cL_law 516 = .ok (.aload_n 2, 1) := by decide +kernel
theorem dL_law_517 : decode cL_law 517 = .ok (.aload_n 0, 1) := by decide +kernel
theorem dL_law_518 : decode cL_law 518 = .ok (.iload_n 3, 1) := by decide +kernel
theorem dL_law_519 : decode cL_law 519 = .ok (.iconst 1, 1) := by decide +kernel
theorem dL_law_520 : decode cL_law 520 = .ok (.iadd, 1) := by decide +kernel
theorem dL_law_521 : decode cL_law 521 = .ok (.iaload, 1) := by decide +kernel
theorem dL_law_522 : decode cL_law 522 = .ok (.aload_n 0, 1) := by decide +kernel
theorem dL_law_523 : decode cL_law 523 = .ok (.iload_n 3, 1) := by decide +kernel
theorem dL_law_524 : decode cL_law 524 = .ok (.iconst 2, 1) := by decide +kernel
theorem dL_law_525 : decode cL_law 525 = .ok (.iadd, 1) := by decide +kernel
theorem dL_law_526 : decode cL_law 526 = .ok (.iaload, 1) := by decide +kernel
theorem dL_law_527 : decode cL_law 527 = .ok (.invokevirtual 67, 3) := by decide +kernel
theorem dL_law_530 : decode cL_law 530 = .ok (.if_icmp .eq 347, 3) := by decide +kernel
theorem dL_law_533 : decode cL_law 533 = .ok (.iconst 0, 1) := by decide +kernel
theorem dL_law_534 : decode cL_law 534 = .ok (.ireturn, 1) := by decide +kernel
theorem dL_law_535 : decode cL_law 535 = .ok (.aload_n 1, 1) := by decide +kernel
theorem dL_law_536 : decode cL_law 536 = .ok (.aload_n 0, 1) := by decide +kernel
theorem dL_law_537 : decode cL_law 537 = .ok (.iload_n 3, 1) := by decide +kernel
theorem dL_law_538 : decode cL_law 538 = .ok (.iconst 1, 1) := by decide +kernel
theorem dL_law_539 : decode cL_law 539 = .ok (.iadd, 1) := by decide +kernel
theorem dL_law_540 : decode cL_law 540 = .ok (.iaload, 1) := by decide +kernel
theorem dL_law_541 : decode cL_law 541 = .ok (.invokevirtual 68, 3) := by decide +kernel
theorem dL_law_544 : decode cL_law 544 = .ok (.aload_n 2, 1) := by decide +kernel
theorem dL_law_545 : decode cL_law 545 = .ok (.aload_n 0, 1) := by decide +kernel
theorem dL_law_546 : decode cL_law 546 = .ok (.iload_n 3, 1) := by decide +kernel
theorem dL_law_547 : decode cL_law 547 = .ok (.iconst 1, 1) := by decide +kernel
theorem dL_law_548 : decode cL_law 548 = .ok (.iadd, 1) := by decide +kernel
theorem dL_law_549 : decode cL_law 549 = .ok (.iaload, 1) := by decide +kernel
theorem dL_law_550 : decode cL_law 550 = .ok (.invokevirtual 71, 3) := by decide +kernel
theorem dL_law_553 : decode cL_law 553 = .ok (.if_icmp .eq 324, 3) := by decide +kernel
theorem dL_law_556 : decode cL_law 556 = .ok (.iconst 0, 1) := by decide +kernel
theorem dL_law_557 : decode cL_law 557 = .ok (.ireturn, 1) := by decide +kernel
theorem dL_law_558 : decode cL_law 558 = .ok (.aload_n 1, 1) := by decide +kernel
theorem dL_law_559 : decode cL_law 559 = .ok (.aload_n 0, 1) := by decide +kernel
theorem dL_law_560 : decode cL_law 560 = .ok (.iload_n 3, 1) := by decide +kernel
theorem dL_law_561 : decode cL_law 561 = .ok (.iconst 1, 1) := by decide +kernel
theorem dL_law_562 : decode cL_law 562 = .ok (.iadd, 1) := by decide +kernel
theorem dL_law_563 : decode cL_law 563 = .ok (.iaload, 1) := by decide +kernel
theorem dL_law_564 : decode cL_law 564 = .ok (.invokevirtual 72, 3) := by decide +kernel
theorem dL_law_567 : decode cL_law 567 = .ok (.aload_n 2, 1) := by decide +kernel
theorem dL_law_568 : decode cL_law 568 = .ok (.aload_n 0, 1) := by decide +kernel
theorem dL_law_569 : decode cL_law 569 = .ok (.iload_n 3, 1) := by decide +kernel
theorem dL_law_570 : decode cL_law 570 = .ok (.iconst 1, 1) := by decide +kernel
theorem dL_law_571 : decode cL_law 571 = .ok (.iadd, 1) := by decide +kernel
theorem dL_law_572 : decode cL_law 572 = .ok (.iaload, 1) := by decide +kernel
theorem dL_law_573 : decode cL_law 573 = .ok (.invokevirtual 75, 3) := by decide +kernel
theorem dL_law_576 : decode cL_law 576 = .ok (.if_icmp .eq 301, 3) := by decide +kernel
theorem dL_law_579 : decode cL_law 579 = .ok (.iconst 0, 1) := by decide +kernel
theorem dL_law_580 : decode cL_law 580 = .ok (.ireturn, 1) := by decide +kernel
theorem dL_law_581 : decode cL_law 581 = .ok (.aload_n 1, 1) := by decide +kernel
theorem dL_law_582 : decode cL_law 582 = .ok (.aload_n 0, 1) := by decide +kernel
theorem dL_law_583 : decode cL_law 583 = .ok (.iload_n 3, 1) := by decide +kernel
theorem dL_law_584 : decode cL_law 584 = .ok (.iconst 1, 1) := by decide +kernel
theorem dL_law_585 : decode cL_law 585 = .ok (.iadd, 1) := by decide +kernel
theorem dL_law_586 : decode cL_law 586 = .ok (.iaload, 1) := by decide +kernel
theorem dL_law_587 : decode cL_law 587 = .ok (.aload_n 0, 1) := by decide +kernel
theorem dL_law_588 : decode cL_law 588 = .ok (.iload_n 3, 1) := by decide +kernel
theorem dL_law_589 : decode cL_law 589 = .ok (.iconst 2, 1) := by decide +kernel
theorem dL_law_590 : decode cL_law 590 = .ok (.iadd, 1) := by decide +kernel
theorem dL_law_591 : decode cL_law 591 = .ok (.iaload, 1) := by decide +kernel
theorem dL_law_592 : decode cL_law 592 = .ok (.invokevirtual 76, 3) := by decide +kernel
theorem dL_law_595 : decode cL_law 595 = .ok (.aload_n 2, 1) := by decide +kernel
theorem dL_law_596 : decode cL_law 596 = .ok (.aload_n 0, 1) := by decide +kernel
theorem dL_law_597 : decode cL_law 597 = .ok (.iload_n 3, 1) := by decide +kernel
theorem dL_law_598 : decode cL_law 598 = .ok (.iconst 1, 1) := by decide +kernel
theorem dL_law_599 : decode cL_law 599 = .ok (.iadd, 1) := by decide +kernel
theorem dL_law_600 : decode cL_law 600 = .ok (.iaload, 1) := by decide +kernel
theorem dL_law_601 : decode cL_law 601 = .ok (.aload_n 0, 1) := by decide +kernel
theorem dL_law_602 : decode cL_law 602 = .ok (.iload_n 3, 1) := by decide +kernel
theorem dL_law_603 : decode cL_law 603 = .ok (.iconst 2, 1) := by decide +kernel
theorem dL_law_604 : decode cL_law 604 = .ok (.iadd, 1) := by decide +kernel
theorem dL_law_605 : decode cL_law 605 = .ok (.iaload, 1) := by decide +kernel
theorem dL_law_606 : decode cL_law 606 = .ok (.invokevirtual 79, 3) := by decide +kernel
theorem dL_law_609 : decode cL_law 609 = .ok (.if_icmp .eq 268, 3) := by decide +kernel
theorem dL_law_612 : decode cL_law 612 = .ok (.iconst 0, 1) := by decide +kernel
theorem dL_law_613 : decode cL_law 613 = .ok (.ireturn, 1) := by decide +kernel
theorem dL_law_614 : decode cL_law 614 = .ok (.aload_n 1, 1) := by decide +kernel
theorem dL_law_615 : decode cL_law 615 = .ok (.aload_n 0, 1) := by decide +kernel
theorem dL_law_616 : decode cL_law 616 = .ok (.iload_n 3, 1) := by decide +kernel
theorem dL_law_617 : decode cL_law 617 = .ok (.iconst 1, 1) := by decide +kernel
theorem dL_law_618 : decode cL_law 618 = .ok (.iadd, 1) := by decide +kernel
theorem dL_law_619 : decode cL_law 619 = .ok (.iaload, 1) := by decide +kernel
theorem dL_law_620 : decode cL_law 620 = .ok (.aload_n 0, 1) := by decide +kernel
theorem dL_law_621 : decode cL_law 621 = .ok (.iload_n 3, 1) := by decide +kernel
theorem dL_law_622 : decode cL_law 622 = .ok (.iconst 2, 1) := by decide +kernel
theorem dL_law_623 : decode cL_law 623 = .ok (.iadd, 1) := by decide +kernel
theorem dL_law_624 : decode cL_law 624 = .ok (.iaload, 1) := by decide +kernel
theorem dL_law_625 : decode cL_law 625 = .ok (.invokevirtual 80, 3) := by decide +kernel
theorem dL_law_628 : decode cL_law 628 = .ok (.aload_n 2, 1) := by decide +kernel
theorem dL_law_629 : decode cL_law 629 = .ok (.aload_n 0, 1) := by decide +kernel
theorem dL_law_630 : decode cL_law 630 = .ok (.iload_n 3, 1) := by decide +kernel
theorem dL_law_631 : decode cL_law 631 = .ok (.iconst 1, 1) := by decide +kernel
theorem dL_law_632 : decode cL_law 632 = .ok (.iadd, 1) := by decide +kernel
theorem dL_law_633 : decode cL_law 633 = .ok (.iaload, 1) := by decide +kernel
theorem dL_law_634 : decode cL_law 634 = .ok (.aload_n 0, 1) := by decide +kernel
theorem dL_law_635 : decode cL_law 635 = .ok (.iload_n 3, 1) := by decide +kernel
theorem dL_law_636 : decode cL_law 636 = .ok (.iconst 2, 1) := by decide +kernel
theorem dL_law_637 : decode cL_law 637 = .ok (.iadd, 1) := by decide +kernel
theorem dL_law_638 : decode cL_law 638 = .ok (.iaload, 1) := by decide +kernel
theorem dL_law_639 : decode cL_law 639 = .ok (.invokevirtual 83, 3) := by decide +kernel
theorem dL_law_642 : decode cL_law 642 = .ok (.if_icmp .eq 235, 3) := by decide +kernel
theorem dL_law_645 : decode cL_law 645 = .ok (.iconst 0, 1) := by decide +kernel
theorem dL_law_646 : decode cL_law 646 = .ok (.ireturn, 1) := by decide +kernel
theorem dL_law_647 : decode cL_law 647 = .ok (.aload_n 1, 1) := by decide +kernel
theorem dL_law_648 : decode cL_law 648 = .ok (.aload_n 0, 1) := by decide +kernel
theorem dL_law_649 : decode cL_law 649 = .ok (.iload_n 3, 1) := by decide +kernel
theorem dL_law_650 : decode cL_law 650 = .ok (.iconst 1, 1) := by decide +kernel
theorem dL_law_651 : decode cL_law 651 = .ok (.iadd, 1) := by decide +kernel
theorem dL_law_652 : decode cL_law 652 = .ok (.iaload, 1) := by decide +kernel
theorem dL_law_653 : decode cL_law 653 = .ok (.aload_n 0, 1) := by decide +kernel
theorem dL_law_654 : decode cL_law 654 = .ok (.iload_n 3, 1) := by decide +kernel
theorem dL_law_655 : decode cL_law 655 = .ok (.iconst 2, 1) := by decide +kernel
theorem dL_law_656 : decode cL_law 656 = .ok (.iadd, 1) := by decide +kernel
theorem dL_law_657 : decode cL_law 657 = .ok (.iaload, 1) := by decide +kernel
theorem dL_law_658 : decode cL_law 658 = .ok (.invokevirtual 84, 3) := by decide +kernel
theorem dL_law_661 : decode cL_law 661 = .ok (.aload_n 2, 1) := by decide +kernel
theorem dL_law_662 : decode cL_law 662 = .ok (.aload_n 0, 1) := by decide +kernel
theorem dL_law_663 : decode cL_law 663 = .ok (.iload_n 3, 1) := by decide +kernel
theorem dL_law_664 : decode cL_law 664 = .ok (.iconst 1, 1) := by decide +kernel
theorem dL_law_665 : decode cL_law 665 = .ok (.iadd, 1) := by decide +kernel
theorem dL_law_666 : decode cL_law 666 = .ok (.iaload, 1) := by decide +kernel
theorem dL_law_667 : decode cL_law 667 = .ok (.aload_n 0, 1) := by decide +kernel
theorem dL_law_668 : decode cL_law 668 = .ok (.iload_n 3, 1) := by decide +kernel
theorem dL_law_669 : decode cL_law 669 = .ok (.iconst 2, 1) := by decide +kernel
theorem dL_law_670 : decode cL_law 670 = .ok (.iadd, 1) := by decide +kernel
theorem dL_law_671 : decode cL_law 671 = .ok (.iaload, 1) := by decide +kernel
theorem dL_law_672 : decode cL_law 672 = .ok (.invokevirtual 87, 3) := by decide +kernel
theorem dL_law_675 : decode cL_law 675 = .ok (.if_icmp .eq 202, 3) := by decide +kernel
theorem dL_law_678 : decode cL_law 678 = .ok (.iconst 0, 1) := by decide +kernel
theorem dL_law_679 : decode cL_law 679 = .ok (.ireturn, 1) := by decide +kernel
theorem dL_law_680 : decode cL_law 680 = .ok (.aload_n 1, 1) := by decide +kernel
theorem dL_law_681 : decode cL_law 681 = .ok (.aload_n 0, 1) := by decide +kernel
theorem dL_law_682 : decode cL_law 682 = .ok (.iload_n 3, 1) := by decide +kernel
theorem dL_law_683 : decode cL_law 683 = .ok (.iconst 1, 1) := by decide +kernel
theorem dL_law_684 : decode cL_law 684 = .ok (.iadd, 1) := by decide +kernel
theorem dL_law_685 : decode cL_law 685 = .ok (.iaload, 1) := by decide +kernel
theorem dL_law_686 : decode cL_law 686 = .ok (.aload_n 0, 1) := by decide +kernel
theorem dL_law_687 : decode cL_law 687 = .ok (.iload_n 3, 1) := by decide +kernel
theorem dL_law_688 : decode cL_law 688 = .ok (.iconst 2, 1) := by decide +kernel
theorem dL_law_689 : decode cL_law 689 = .ok (.iadd, 1) := by decide +kernel
theorem dL_law_690 : decode cL_law 690 = .ok (.iaload, 1) := by decide +kernel
theorem dL_law_691 : decode cL_law 691 = .ok (.invokevirtual 88, 3) := by decide +kernel
theorem dL_law_694 : decode cL_law 694 = .ok (.aload_n 2, 1) := by decide +kernel
theorem dL_law_695 : decode cL_law 695 = .ok (.aload_n 0, 1) := by decide +kernel
theorem dL_law_696 : decode cL_law 696 = .ok (.iload_n 3, 1) := by decide +kernel
theorem dL_law_697 : decode cL_law 697 = .ok (.iconst 1, 1) := by decide +kernel
theorem dL_law_698 : decode cL_law 698 = .ok (.iadd, 1) := by decide +kernel
theorem dL_law_699 : decode cL_law 699 = .ok (.iaload, 1) := by decide +kernel
theorem dL_law_700 : decode cL_law 700 = .ok (.aload_n 0, 1) := by decide +kernel
theorem dL_law_701 : decode cL_law 701 = .ok (.iload_n 3, 1) := by decide +kernel
theorem dL_law_702 : decode cL_law 702 = .ok (.iconst 2, 1) := by decide +kernel
theorem dL_law_703 : decode cL_law 703 = .ok (.iadd, 1) := by decide +kernel
theorem dL_law_704 : decode cL_law 704 = .ok (.iaload, 1) := by decide +kernel
theorem dL_law_705 : decode cL_law 705 = .ok (.invokevirtual 91, 3) := by decide +kernel
theorem dL_law_708 : decode cL_law 708 = .ok (.if_icmp .eq 169, 3) := by decide +kernel
theorem dL_law_711 : decode cL_law 711 = .ok (.iconst 0, 1) := by decide +kernel
theorem dL_law_712 : decode cL_law 712 = .ok (.ireturn, 1) := by decide +kernel
theorem dL_law_713 : decode cL_law 713 = .ok (.aload_n 1, 1) := by decide +kernel
theorem dL_law_714 : decode cL_law 714 = .ok (.aload_n 0, 1) := by decide +kernel
theorem dL_law_715 : decode cL_law 715 = .ok (.iload_n 3, 1) := by decide +kernel
theorem dL_law_716 : decode cL_law 716 = .ok (.iconst 1, 1) := by decide +kernel
theorem dL_law_717 : decode cL_law 717 = .ok (.iadd, 1) := by decide +kernel
theorem dL_law_718 : decode cL_law 718 = .ok (.iaload, 1) := by decide +kernel
theorem dL_law_719 : decode cL_law 719 = .ok (.invokevirtual 92, 3) := by decide +kernel
theorem dL_law_722 : decode cL_law 722 = .ok (.aload_n 2, 1) := by decide +kernel
theorem dL_law_723 : decode cL_law 723 = .ok (.aload_n 0, 1) := by decide +kernel
theorem dL_law_724 : decode cL_law 724 = .ok (.iload_n 3, 1) := by decide +kernel
theorem dL_law_725 : decode cL_law 725 = .ok (.iconst 1, 1) := by decide +kernel
theorem dL_law_726 : decode cL_law 726 = .ok (.iadd, 1) := by decide +kernel
theorem dL_law_727 : decode cL_law 727 = .ok (.iaload, 1) := by decide +kernel
theorem dL_law_728 : decode cL_law 728 = .ok (.invokevirtual 95, 3) := by decide +kernel
theorem dL_law_731 : decode cL_law 731 = .ok (.if_icmp .eq 146, 3) := by decide +kernel
theorem dL_law_734 : decode cL_law 734 = .ok (.iconst 0, 1) := by decide +kernel
theorem dL_law_735 : decode cL_law 735 = .ok (.ireturn, 1) := by decide +kernel
theorem dL_law_736 : decode cL_law 736 = .ok (.aload_n 1, 1) := by decide +kernel
theorem dL_law_737 : decode cL_law 737 = .ok (.aload_n 0, 1) := by decide +kernel
theorem dL_law_738 : decode cL_law 738 = .ok (.iload_n 3, 1) := by decide +kernel
theorem dL_law_739 : decode cL_law 739 = .ok (.iconst 1, 1) := by decide +kernel
theorem dL_law_740 : decode cL_law 740 = .ok (.iadd, 1) := by decide +kernel
theorem dL_law_741 : decode cL_law 741 = .ok (.iaload, 1) := by decide +kernel
theorem dL_law_742 : decode cL_law 742 = .ok (.aload_n 0, 1) := by decide +kernel
theorem dL_law_743 : decode cL_law 743 = .ok (.iload_n 3, 1) := by decide +kernel
theorem dL_law_744 : decode cL_law 744 = .ok (.iconst 2, 1) := by decide +kernel
theorem dL_law_745 : decode cL_law 745 = .ok (.iadd, 1) := by decide +kernel
theorem dL_law_746 : decode cL_law 746 = .ok (.iaload, 1) := by decide +kernel
theorem dL_law_747 : decode cL_law 747 = .ok (.invokevirtual 96, 3) := by decide +kernel
theorem dL_law_750 : decode cL_law 750 = .ok (.aload_n 2, 1) := by decide +kernel
theorem dL_law_751 : decode cL_law 751 = .ok (.aload_n 0, 1) := by decide +kernel
theorem dL_law_752 : decode cL_law 752 = .ok (.iload_n 3, 1) := by decide +kernel
theorem dL_law_753 : decode cL_law 753 = .ok (.iconst 1, 1) := by decide +kernel
theorem dL_law_754 : decode cL_law 754 = .ok (.iadd, 1) := by decide +kernel
theorem dL_law_755 : decode cL_law 755 = .ok (.iaload, 1) := by decide +kernel
theorem dL_law_756 : decode cL_law 756 = .ok (.aload_n 0, 1) := by decide +kernel
theorem dL_law_757 : decode cL_law 757 = .ok (.iload_n 3, 1) := by decide +kernel
theorem dL_law_758 : decode cL_law 758 = .ok (.iconst 2, 1) := by decide +kernel
theorem dL_law_759 : decode cL_law 759 = .ok (.iadd, 1) := by decide +kernel
theorem dL_law_760 : decode cL_law 760 = .ok (.iaload, 1) := by decide +kernel
theorem dL_law_761 : decode cL_law 761 = .ok (.invokevirtual 99, 3) := by decide +kernel
theorem dL_law_764 : decode cL_law 764 = .ok (.if_icmp .eq 113, 3) := by decide +kernel
theorem dL_law_767 : decode cL_law 767 = .ok (.iconst 0, 1) := by decide +kernel
theorem dL_law_768 : decode cL_law 768 = .ok (.ireturn, 1) := by decide +kernel
theorem dL_law_769 : decode cL_law 769 = .ok (.aload_n 1, 1) := by decide +kernel
theorem dL_law_770 : decode cL_law 770 = .ok (.aload_n 0, 1) := by decide +kernel
theorem dL_law_771 : decode cL_law 771 = .ok (.iload_n 3, 1) := by decide +kernel
theorem dL_law_772 : decode cL_law 772 = .ok (.iconst 1, 1) := by decide +kernel
theorem dL_law_773 : decode cL_law 773 = .ok (.iadd, 1) := by decide +kernel
theorem dL_law_774 : decode cL_law 774 = .ok (.iaload, 1) := by decide +kernel
theorem dL_law_775 : decode cL_law 775 = .ok (.invokevirtual 100, 3) := by decide +kernel
theorem dL_law_778 : decode cL_law 778 = .ok (.aload_n 2, 1) := by decide +kernel
theorem dL_law_779 : decode cL_law 779 = .ok (.aload_n 0, 1) := by decide +kernel
theorem dL_law_780 : decode cL_law 780 = .ok (.iload_n 3, 1) := by decide +kernel
theorem dL_law_781 : decode cL_law 781 = .ok (.iconst 1, 1) := by decide +kernel
theorem dL_law_782 : decode cL_law 782 = .ok (.iadd, 1) := by decide +kernel
theorem dL_law_783 : decode cL_law 783 = .ok (.iaload, 1) := by decide +kernel
theorem dL_law_784 : decode cL_law 784 = .ok (.invokevirtual 103, 3) := by decide +kernel
theorem dL_law_787 : decode cL_law 787 = .ok (.if_icmp .eq 90, 3) := by decide +kernel
theorem dL_law_790 : decode cL_law 790 = .ok (.iconst 0, 1) := by decide +kernel
theorem dL_law_791 : decode cL_law 791 = .ok (.ireturn, 1) := by decide +kernel
theorem dL_law_792 : decode cL_law 792 = .ok (.aload_n 1, 1) := by decide +kernel
theorem dL_law_793 : decode cL_law 793 = .ok (.invokevirtual 104, 3) := by decide +kernel
theorem dL_law_796 : decode cL_law 796 = .ok (.aload_n 2, 1) := by decide +kernel
theorem dL_law_797 : decode cL_law 797 = .ok (.invokevirtual 108, 3) := by decide +kernel
theorem dL_law_800 : decode cL_law 800 = .ok (.if_icmp .eq 77, 3) := by decide +kernel
theorem dL_law_803 : decode cL_law 803 = .ok (.iconst 0, 1) := by decide +kernel
theorem dL_law_804 : decode cL_law 804 = .ok (.ireturn, 1) := by decide +kernel
theorem dL_law_805 : decode cL_law 805 = .ok (.aload_n 1, 1) := by decide +kernel
theorem dL_law_806 : decode cL_law 806 = .ok (.aload_n 0, 1) := by decide +kernel
theorem dL_law_807 : decode cL_law 807 = .ok (.iload_n 3, 1) := by decide +kernel
theorem dL_law_808 : decode cL_law 808 = .ok (.iconst 1, 1) := by decide +kernel
theorem dL_law_809 : decode cL_law 809 = .ok (.iadd, 1) := by decide +kernel
theorem dL_law_810 : decode cL_law 810 = .ok (.iaload, 1) := by decide +kernel
theorem dL_law_811 : decode cL_law 811 = .ok (.invokevirtual 109, 3) := by decide +kernel
theorem dL_law_814 : decode cL_law 814 = .ok (.aload_n 2, 1) := by decide +kernel
theorem dL_law_815 : decode cL_law 815 = .ok (.aload_n 0, 1) := by decide +kernel
theorem dL_law_816 : decode cL_law 816 = .ok (.iload_n 3, 1) := by decide +kernel
theorem dL_law_817 : decode cL_law 817 = .ok (.iconst 1, 1) := by decide +kernel
theorem dL_law_818 : decode cL_law 818 = .ok (.iadd, 1) := by decide +kernel
theorem dL_law_819 : decode cL_law 819 = .ok (.iaload, 1) := by decide +kernel
theorem dL_law_820 : decode cL_law 820 = .ok (.invokevirtual 112, 3) := by decide +kernel
theorem dL_law_823 : decode cL_law 823 = .ok (.if_icmp .eq 54, 3) := by decide +kernel
theorem dL_law_826 : decode cL_law 826 = .ok (.iconst 0, 1) := by decide +kernel
theorem dL_law_827 : decode cL_law 827 = .ok (.ireturn, 1) := by decide +kernel
theorem dL_law_828 : decode cL_law 828 = .ok (.aload_n 1, 1) := by decide +kernel
theorem dL_law_829 : decode cL_law 829 = .ok (.invokevirtual 113, 3) := by decide +kernel
theorem dL_law_832 : decode cL_law 832 = .ok (.aload_n 2, 1) := by decide +kernel
theorem dL_law_833 : decode cL_law 833 = .ok (.invokevirtual 116, 3) := by decide +kernel
theorem dL_law_836 : decode cL_law 836 = .ok (.if_icmp .eq 41, 3) := by decide +kernel
theorem dL_law_839 : decode cL_law 839 = .ok (.iconst 0, 1) := by decide +kernel
theorem dL_law_840 : decode cL_law 840 = .ok (.ireturn, 1) := by decide +kernel
theorem dL_law_841 : decode cL_law 841 = .ok (.aload_n 1, 1) := by decide +kernel
theorem dL_law_842 : decode cL_law 842 = .ok (.aload_n 0, 1) := by decide +kernel
theorem dL_law_843 : decode cL_law 843 = .ok (.iload_n 3, 1) := by decide +kernel
theorem dL_law_844 : decode cL_law 844 = .ok (.iconst 1, 1) := by decide +kernel
theorem dL_law_845 : decode cL_law 845 = .ok (.iadd, 1) := by decide +kernel
theorem dL_law_846 : decode cL_law 846 = .ok (.iaload, 1) := by decide +kernel
theorem dL_law_847 : decode cL_law 847 = .ok (.invokevirtual 117, 3) := by decide +kernel
theorem dL_law_850 : decode cL_law 850 = .ok (.aload_n 2, 1) := by decide +kernel
theorem dL_law_851 : decode cL_law 851 = .ok (.aload_n 0, 1) := by decide +kernel
theorem dL_law_852 : decode cL_law 852 = .ok (.iload_n 3, 1) := by decide +kernel
theorem dL_law_853 : decode cL_law 853 = .ok (.iconst 1, 1) := by decide +kernel
theorem dL_law_854 : decode cL_law 854 = .ok (.iadd, 1) := by decide +kernel
theorem dL_law_855 : decode cL_law 855 = .ok (.iaload, 1) := by decide +kernel
theorem dL_law_856 : decode cL_law 856 = .ok (.invokevirtual 120, 3) := by decide +kernel
theorem dL_law_859 : decode cL_law 859 = .ok (.if_icmp .eq 18, 3) := by decide +kernel
theorem dL_law_862 : decode cL_law 862 = .ok (.iconst 0, 1) := by decide +kernel
theorem dL_law_863 : decode cL_law 863 = .ok (.ireturn, 1) := by decide +kernel
theorem dL_law_864 : decode cL_law 864 = .ok (.aload_n 1, 1) := by decide +kernel
theorem dL_law_865 : decode cL_law 865 = .ok (.invokevirtual 121, 3) := by decide +kernel
theorem dL_law_868 : decode cL_law 868 = .ok (.aload_n 2, 1) := by decide +kernel
theorem dL_law_869 : decode cL_law 869 = .ok (.invokevirtual 124, 3) := by decide +kernel
theorem dL_law_872 : decode cL_law 872 = .ok (.if_icmp .eq 5, 3) := by decide +kernel
theorem dL_law_875 : decode cL_law 875 = .ok (.iconst 0, 1) := by decide +kernel
theorem dL_law_876 : decode cL_law 876 = .ok (.ireturn, 1) := by decide +kernel
theorem dL_law_877 : decode cL_law 877 = .ok (.iinc 3 4, 3) := by decide +kernel
theorem dL_law_880 : decode cL_law 880 = .ok (.goto (-862), 3) := by decide +kernel
theorem dL_law_883 : decode cL_law 883 = .ok (.iconst 1, 1) := by decide +kernel
theorem dL_law_884 : decode cL_law 884 = .ok (.ireturn, 1) := by decide +kernel
abbrev vwCl : List vw_C := [(RX0, TX0, 2), (RX1, TX1, 6), (RX2, TX2, 6), (RX3, TX3, 4), (RX4, TX4, 12), (RX5, TX5, 5), (RX6, TX6, 6), (RX7, TX7, 14)]
end
