section
-- ===== PART A: goes FIRST, ahead of the names: the tables' words, and 'selects' of the private methods out of them =====
/-- a private method of a class that the tables say can be made, by its rows of tables_1 -/
def lw_okq (q : MethodName × Nat) : Prop := (q.1.cls ≠ "java/lang/invoke/MethodHandle" ∧ q.1.cls ≠ "java/lang/invoke/VarHandle") ∧ Cond.instantiable q.1.cls q.2 ∈ tables_1 ∧ Cond.privateMethod q.1 ∈ tables_1 ∧ Cond.instanceMethod q.1 ∈ tables_1
theorem lw_p0 : lw_okq (⟨"ZSaves", "fillTape", "(LZSaves$Bytes;)I"⟩, 16) := ⟨⟨by decide +kernel, by decide +kernel⟩, List.mem_of_getElem? (i := 15) (by decide +kernel), List.mem_of_getElem? (i := 317) (by decide +kernel), List.mem_of_getElem? (i := 318) (by decide +kernel)⟩
theorem lw_p1 : lw_okq (⟨"ZSaves", "noStory", "()Z"⟩, 16) := ⟨⟨by decide +kernel, by decide +kernel⟩, List.mem_of_getElem? (i := 15) (by decide +kernel), List.mem_of_getElem? (i := 385) (by decide +kernel), List.mem_of_getElem? (i := 386) (by decide +kernel)⟩
theorem lw_p2 : lw_okq (⟨"ZSaves$Reader", "frontFault", "()I"⟩, 5) := ⟨⟨by decide +kernel, by decide +kernel⟩, List.mem_of_getElem? (i := 23) (by decide +kernel), List.mem_of_getElem? (i := 545) (by decide +kernel), List.mem_of_getElem? (i := 546) (by decide +kernel)⟩
theorem lw_p3 : lw_okq (⟨"ZSaves$Reader", "shapeFault", "()I"⟩, 5) := ⟨⟨by decide +kernel, by decide +kernel⟩, List.mem_of_getElem? (i := 23) (by decide +kernel), List.mem_of_getElem? (i := 559) (by decide +kernel), List.mem_of_getElem? (i := 560) (by decide +kernel)⟩
theorem lw_p4 : lw_okq (⟨"ZSaves$Reader", "readContents", "(ILZSaves$Story;LZSaves$Session;LZSaves$Strangers;)I"⟩, 5) := ⟨⟨by decide +kernel, by decide +kernel⟩, List.mem_of_getElem? (i := 23) (by decide +kernel), List.mem_of_getElem? (i := 564) (by decide +kernel), List.mem_of_getElem? (i := 565) (by decide +kernel)⟩
theorem lw_p5 : lw_okq (⟨"ZSaves$Reader", "readHead", "(ILZSaves$Story;LZSaves$Session;)I"⟩, 5) := ⟨⟨by decide +kernel, by decide +kernel⟩, List.mem_of_getElem? (i := 23) (by decide +kernel), List.mem_of_getElem? (i := 568) (by decide +kernel), List.mem_of_getElem? (i := 569) (by decide +kernel)⟩
theorem lw_p6 : lw_okq (⟨"ZSaves$Reader", "readMemory", "(IILZSaves$Session;)I"⟩, 5) := ⟨⟨by decide +kernel, by decide +kernel⟩, List.mem_of_getElem? (i := 23) (by decide +kernel), List.mem_of_getElem? (i := 576) (by decide +kernel), List.mem_of_getElem? (i := 577) (by decide +kernel)⟩
theorem lw_p7 : lw_okq (⟨"ZSaves$Session", "frameFault", "(LZSaves$Bytes;II)I"⟩, 5) := ⟨⟨by decide +kernel, by decide +kernel⟩, List.mem_of_getElem? (i := 144) (by decide +kernel), List.mem_of_getElem? (i := 595) (by decide +kernel), List.mem_of_getElem? (i := 596) (by decide +kernel)⟩
theorem lw_p8 : lw_okq (⟨"ZSaves$Session", "takeFrame", "(LZSaves$Bytes;I)I"⟩, 5) := ⟨⟨by decide +kernel, by decide +kernel⟩, List.mem_of_getElem? (i := 144) (by decide +kernel), List.mem_of_getElem? (i := 606) (by decide +kernel), List.mem_of_getElem? (i := 607) (by decide +kernel)⟩
theorem lw_p9 : lw_okq (⟨"ZSaves", "turnToSpare", "()V"⟩, 16) := ⟨⟨by decide +kernel, by decide +kernel⟩, List.mem_of_getElem? (i := 15) (by decide +kernel), List.mem_of_getElem? (i := 624) (by decide +kernel), List.mem_of_getElem? (i := 625) (by decide +kernel)⟩
theorem lw_p10 : lw_okq (⟨"ZSaves", "turnToComing", "()V"⟩, 16) := ⟨⟨by decide +kernel, by decide +kernel⟩, List.mem_of_getElem? (i := 15) (by decide +kernel), List.mem_of_getElem? (i := 636) (by decide +kernel), List.mem_of_getElem? (i := 637) (by decide +kernel)⟩
theorem lw_p11 : lw_okq (⟨"ZSaves", "weighNow", "()I"⟩, 16) := ⟨⟨by decide +kernel, by decide +kernel⟩, List.mem_of_getElem? (i := 15) (by decide +kernel), List.mem_of_getElem? (i := 668) (by decide +kernel), List.mem_of_getElem? (i := 669) (by decide +kernel)⟩
theorem lw_p12 : lw_okq (⟨"ZSaves$Kept", "dropEldest", "()V"⟩, 6) := ⟨⟨by decide +kernel, by decide +kernel⟩, List.mem_of_getElem? (i := 114) (by decide +kernel), List.mem_of_getElem? (i := 680) (by decide +kernel), List.mem_of_getElem? (i := 681) (by decide +kernel)⟩
theorem lw_p13 : lw_okq (⟨"ZSavesModel", "four", "(II)V"⟩, 29) := ⟨⟨by decide +kernel, by decide +kernel⟩, List.mem_of_getElem? (i := 714) (by decide +kernel), List.mem_of_getElem? (i := 812) (by decide +kernel), List.mem_of_getElem? (i := 813) (by decide +kernel)⟩
theorem lw_p14 : lw_okq (⟨"ZSavesModel", "begin", "()V"⟩, 29) := ⟨⟨by decide +kernel, by decide +kernel⟩, List.mem_of_getElem? (i := 714) (by decide +kernel), List.mem_of_getElem? (i := 835) (by decide +kernel), List.mem_of_getElem? (i := 836) (by decide +kernel)⟩
theorem lw_p15 : lw_okq (⟨"ZSavesModel", "newest", "()I"⟩, 29) := ⟨⟨by decide +kernel, by decide +kernel⟩, List.mem_of_getElem? (i := 714) (by decide +kernel), List.mem_of_getElem? (i := 856) (by decide +kernel), List.mem_of_getElem? (i := 857) (by decide +kernel)⟩
def lw_privs_1 : List (MethodName × Nat) := [(⟨"ZSaves", "fillTape", "(LZSaves$Bytes;)I"⟩, 16), (⟨"ZSaves", "noStory", "()Z"⟩, 16), (⟨"ZSaves$Reader", "frontFault", "()I"⟩, 5), (⟨"ZSaves$Reader", "shapeFault", "()I"⟩, 5), (⟨"ZSaves$Reader", "readContents", "(ILZSaves$Story;LZSaves$Session;LZSaves$Strangers;)I"⟩, 5), (⟨"ZSaves$Reader", "readHead", "(ILZSaves$Story;LZSaves$Session;)I"⟩, 5), (⟨"ZSaves$Reader", "readMemory", "(IILZSaves$Session;)I"⟩, 5), (⟨"ZSaves$Session", "frameFault", "(LZSaves$Bytes;II)I"⟩, 5), (⟨"ZSaves$Session", "takeFrame", "(LZSaves$Bytes;I)I"⟩, 5), (⟨"ZSaves", "turnToSpare", "()V"⟩, 16), (⟨"ZSaves", "turnToComing", "()V"⟩, 16), (⟨"ZSaves", "weighNow", "()I"⟩, 16), (⟨"ZSaves$Kept", "dropEldest", "()V"⟩, 6), (⟨"ZSavesModel", "four", "(II)V"⟩, 29), (⟨"ZSavesModel", "begin", "()V"⟩, 29), (⟨"ZSavesModel", "newest", "()I"⟩, 29)]
theorem lw_r1 : ∀ q ∈ lw_privs_1, lw_okq q := List.forall_mem_cons.mpr ⟨lw_p0, List.forall_mem_cons.mpr ⟨lw_p1, List.forall_mem_cons.mpr ⟨lw_p2, List.forall_mem_cons.mpr ⟨lw_p3, List.forall_mem_cons.mpr ⟨lw_p4, List.forall_mem_cons.mpr ⟨lw_p5, List.forall_mem_cons.mpr ⟨lw_p6, List.forall_mem_cons.mpr ⟨lw_p7, List.forall_mem_cons.mpr ⟨lw_p8, List.forall_mem_cons.mpr ⟨lw_p9, List.forall_mem_cons.mpr ⟨lw_p10, List.forall_mem_cons.mpr ⟨lw_p11, List.forall_mem_cons.mpr ⟨lw_p12, List.forall_mem_cons.mpr ⟨lw_p13, List.forall_mem_cons.mpr ⟨lw_p14, List.forall_mem_cons.mpr ⟨lw_p15, fun _ h => absurd h List.not_mem_nil⟩⟩⟩⟩⟩⟩⟩⟩⟩⟩⟩⟩⟩⟩⟩⟩
theorem lw_p16 : lw_okq (⟨"ZSavesModel", "number", "(II)V"⟩, 29) := ⟨⟨by decide +kernel, by decide +kernel⟩, List.mem_of_getElem? (i := 714) (by decide +kernel), List.mem_of_getElem? (i := 885) (by decide +kernel), List.mem_of_getElem? (i := 886) (by decide +kernel)⟩
theorem lw_p17 : lw_okq (⟨"ZSavesModel", "makeD", "([I)V"⟩, 29) := ⟨⟨by decide +kernel, by decide +kernel⟩, List.mem_of_getElem? (i := 714) (by decide +kernel), List.mem_of_getElem? (i := 889) (by decide +kernel), List.mem_of_getElem? (i := 890) (by decide +kernel)⟩
theorem lw_p18 : lw_okq (⟨"ZSavesModel", "open", "(I)V"⟩, 29) := ⟨⟨by decide +kernel, by decide +kernel⟩, List.mem_of_getElem? (i := 714) (by decide +kernel), List.mem_of_getElem? (i := 902) (by decide +kernel), List.mem_of_getElem? (i := 903) (by decide +kernel)⟩
theorem lw_p19 : lw_okq (⟨"ZSavesModel", "close", "()V"⟩, 29) := ⟨⟨by decide +kernel, by decide +kernel⟩, List.mem_of_getElem? (i := 714) (by decide +kernel), List.mem_of_getElem? (i := 906) (by decide +kernel), List.mem_of_getElem? (i := 907) (by decide +kernel)⟩
theorem lw_p20 : lw_okq (⟨"ZSavesModel", "patch", "(II)V"⟩, 29) := ⟨⟨by decide +kernel, by decide +kernel⟩, List.mem_of_getElem? (i := 714) (by decide +kernel), List.mem_of_getElem? (i := 910) (by decide +kernel), List.mem_of_getElem? (i := 911) (by decide +kernel)⟩
theorem lw_p21 : lw_okq (⟨"ZSavesModel", "makeB", "([I)V"⟩, 29) := ⟨⟨by decide +kernel, by decide +kernel⟩, List.mem_of_getElem? (i := 714) (by decide +kernel), List.mem_of_getElem? (i := 916) (by decide +kernel), List.mem_of_getElem? (i := 917) (by decide +kernel)⟩
theorem lw_p22 : lw_okq (⟨"ZSavesModel", "readFile", "()Z"⟩, 29) := ⟨⟨by decide +kernel, by decide +kernel⟩, List.mem_of_getElem? (i := 714) (by decide +kernel), List.mem_of_getElem? (i := 925) (by decide +kernel), List.mem_of_getElem? (i := 926) (by decide +kernel)⟩
theorem lw_p23 : lw_okq (⟨"ZSavesModel", "wrong", "(II)Z"⟩, 29) := ⟨⟨by decide +kernel, by decide +kernel⟩, List.mem_of_getElem? (i := 714) (by decide +kernel), List.mem_of_getElem? (i := 929) (by decide +kernel), List.mem_of_getElem? (i := 930) (by decide +kernel)⟩
theorem lw_p24 : lw_okq (⟨"ZSavesModel", "numberAt", "(I)J"⟩, 29) := ⟨⟨by decide +kernel, by decide +kernel⟩, List.mem_of_getElem? (i := 714) (by decide +kernel), List.mem_of_getElem? (i := 933) (by decide +kernel), List.mem_of_getElem? (i := 934) (by decide +kernel)⟩
theorem lw_p25 : lw_okq (⟨"ZSavesModel", "readA", "(III)Z"⟩, 29) := ⟨⟨by decide +kernel, by decide +kernel⟩, List.mem_of_getElem? (i := 714) (by decide +kernel), List.mem_of_getElem? (i := 940) (by decide +kernel), List.mem_of_getElem? (i := 941) (by decide +kernel)⟩
theorem lw_p26 : lw_okq (⟨"ZSavesModel", "readB", "(II)Z"⟩, 29) := ⟨⟨by decide +kernel, by decide +kernel⟩, List.mem_of_getElem? (i := 714) (by decide +kernel), List.mem_of_getElem? (i := 944) (by decide +kernel), List.mem_of_getElem? (i := 945) (by decide +kernel)⟩
theorem lw_p27 : lw_okq (⟨"ZSavesModel", "readC", "(III)Z"⟩, 29) := ⟨⟨by decide +kernel, by decide +kernel⟩, List.mem_of_getElem? (i := 714) (by decide +kernel), List.mem_of_getElem? (i := 948) (by decide +kernel), List.mem_of_getElem? (i := 949) (by decide +kernel)⟩
theorem lw_p28 : lw_okq (⟨"ZSavesModel", "readD", "(II)Z"⟩, 29) := ⟨⟨by decide +kernel, by decide +kernel⟩, List.mem_of_getElem? (i := 714) (by decide +kernel), List.mem_of_getElem? (i := 952) (by decide +kernel), List.mem_of_getElem? (i := 953) (by decide +kernel)⟩
theorem lw_p29 : lw_okq (⟨"ZSavesModel", "bits", "()I"⟩, 29) := ⟨⟨by decide +kernel, by decide +kernel⟩, List.mem_of_getElem? (i := 714) (by decide +kernel), List.mem_of_getElem? (i := 957) (by decide +kernel), List.mem_of_getElem? (i := 958) (by decide +kernel)⟩
theorem lw_p30 : lw_okq (⟨"ZSavesModel", "stay", "(I)V"⟩, 29) := ⟨⟨by decide +kernel, by decide +kernel⟩, List.mem_of_getElem? (i := 714) (by decide +kernel), List.mem_of_getElem? (i := 961) (by decide +kernel), List.mem_of_getElem? (i := 962) (by decide +kernel)⟩
theorem lw_p31 : lw_okq (⟨"ZSavesModel", "weightOf", "([I)I"⟩, 29) := ⟨⟨by decide +kernel, by decide +kernel⟩, List.mem_of_getElem? (i := 714) (by decide +kernel), List.mem_of_getElem? (i := 989) (by decide +kernel), List.mem_of_getElem? (i := 990) (by decide +kernel)⟩
def lw_privs_2 : List (MethodName × Nat) := [(⟨"ZSavesModel", "number", "(II)V"⟩, 29), (⟨"ZSavesModel", "makeD", "([I)V"⟩, 29), (⟨"ZSavesModel", "open", "(I)V"⟩, 29), (⟨"ZSavesModel", "close", "()V"⟩, 29), (⟨"ZSavesModel", "patch", "(II)V"⟩, 29), (⟨"ZSavesModel", "makeB", "([I)V"⟩, 29), (⟨"ZSavesModel", "readFile", "()Z"⟩, 29), (⟨"ZSavesModel", "wrong", "(II)Z"⟩, 29), (⟨"ZSavesModel", "numberAt", "(I)J"⟩, 29), (⟨"ZSavesModel", "readA", "(III)Z"⟩, 29), (⟨"ZSavesModel", "readB", "(II)Z"⟩, 29), (⟨"ZSavesModel", "readC", "(III)Z"⟩, 29), (⟨"ZSavesModel", "readD", "(II)Z"⟩, 29), (⟨"ZSavesModel", "bits", "()I"⟩, 29), (⟨"ZSavesModel", "stay", "(I)V"⟩, 29), (⟨"ZSavesModel", "weightOf", "([I)I"⟩, 29)]
theorem lw_r2 : ∀ q ∈ lw_privs_2, lw_okq q := List.forall_mem_cons.mpr ⟨lw_p16, List.forall_mem_cons.mpr ⟨lw_p17, List.forall_mem_cons.mpr ⟨lw_p18, List.forall_mem_cons.mpr ⟨lw_p19, List.forall_mem_cons.mpr ⟨lw_p20, List.forall_mem_cons.mpr ⟨lw_p21, List.forall_mem_cons.mpr ⟨lw_p22, List.forall_mem_cons.mpr ⟨lw_p23, List.forall_mem_cons.mpr ⟨lw_p24, List.forall_mem_cons.mpr ⟨lw_p25, List.forall_mem_cons.mpr ⟨lw_p26, List.forall_mem_cons.mpr ⟨lw_p27, List.forall_mem_cons.mpr ⟨lw_p28, List.forall_mem_cons.mpr ⟨lw_p29, List.forall_mem_cons.mpr ⟨lw_p30, List.forall_mem_cons.mpr ⟨lw_p31, fun _ h => absurd h List.not_mem_nil⟩⟩⟩⟩⟩⟩⟩⟩⟩⟩⟩⟩⟩⟩⟩⟩
theorem lw_p32 : lw_okq (⟨"ZSavesModel", "eldestGo", "()V"⟩, 29) := ⟨⟨by decide +kernel, by decide +kernel⟩, List.mem_of_getElem? (i := 714) (by decide +kernel), List.mem_of_getElem? (i := 993) (by decide +kernel), List.mem_of_getElem? (i := 994) (by decide +kernel)⟩
theorem lw_p33 : lw_okq (⟨"ZSavesModel", "sum", "()I"⟩, 29) := ⟨⟨by decide +kernel, by decide +kernel⟩, List.mem_of_getElem? (i := 714) (by decide +kernel), List.mem_of_getElem? (i := 997) (by decide +kernel), List.mem_of_getElem? (i := 998) (by decide +kernel)⟩
def lw_privs_3 : List (MethodName × Nat) := [(⟨"ZSavesModel", "eldestGo", "()V"⟩, 29), (⟨"ZSavesModel", "sum", "()I"⟩, 29)]
theorem lw_r3 : ∀ q ∈ lw_privs_3, lw_okq q := List.forall_mem_cons.mpr ⟨lw_p32, List.forall_mem_cons.mpr ⟨lw_p33, fun _ h => absurd h List.not_mem_nil⟩⟩
def lw_privs : List (MethodName × Nat) := lw_privs_1 ++ (lw_privs_2 ++ (lw_privs_3))
def lw_tbl : List Cond := k2_sels lw_privs ++ tables_1
theorem lw_privs_ok : ∀ q ∈ lw_privs, lw_okq q := by
  show ∀ q ∈ lw_privs_1 ++ (lw_privs_2 ++ (lw_privs_3)), lw_okq q
  exact List.forall_mem_append.mpr ⟨lw_r1, List.forall_mem_append.mpr ⟨lw_r2, lw_r3⟩⟩
end
section
/-! ===== BEGIN words of one list among another's, by their places ===== -/
theorem goodIn_r {big : List Cond} (ws : List Cond) (ps : List Nat) (hp : ws = ps.filterMap (fun i => big[i]?)) (h : ws.all goodWord = true) : GoodIn big ws := by
  intro w hw
  have h1 := List.all_eq_true.mp h w hw
  rw [hp] at hw
  obtain ⟨i, -, hi⟩ := List.mem_filterMap.mp hw
  have hm : w ∈ big := by first | exact List.mem_of_getElem? hi | exact List.getElem?_mem hi
  exact ⟨hm, good_of_word h1⟩
theorem goodIn_app {big a b : List Cond} (ha : GoodIn big a) (hb : GoodIn big b) : GoodIn big (a ++ b) := fun w h => (List.mem_append.mp h).elim (ha w) (hb w)
theorem goodIn_ca {big a b : List Cond} {c : Cond} (ha : GoodIn big (c :: a)) (hb : GoodIn big b) : GoodIn big (c :: (a ++ b)) := fun w h => (List.mem_cons.mp h).elim (fun e => ha w (List.mem_cons.mpr (Or.inl e))) (fun h => (List.mem_append.mp h).elim (fun h => ha w (List.mem_cons.mpr (Or.inr h))) (hb w))
theorem goodIn_sub {big ws : List Cond} (hm : ∀ w ∈ ws, w ∈ big) (h : ws.all goodWord = true) : GoodIn big ws := fun w hw => ⟨hm w hw, good_of_word (List.all_eq_true.mp h w hw)⟩
/-! ===== END ===== -/

/-! ===== BEGIN printed: names, fields, word lists, decode rows ===== -/
def RX0 : String := "ZSaves$Bytes"
def TX0 : u_T := fun k => match k with
  | 0 => ("ZSaves$Bytes", "cells", "[I", true)
  | _ => ("ZSaves$Bytes", "size", "I", false)
def tyX0 : Nat → FieldType := fun k => match k with
  | 0 => .array .int
  | _ => .int
abbrev wsX00 : List Cond := u_ws RX0 TX0 2
theorem nmX0 : ∀ a, a < 2 → ∀ b, b < 2 → a ≠ b → (TX0 a).2.1 ≠ (TX0 b).2.1 := by decide +kernel
theorem tyX0_ok : ∀ k, k < 2 → parseFieldDescriptor (TX0 k).2.2.1 = some (tyX0 k) := by decide +kernel
abbrev cX0_init : ByteArray := prog_2_method_1_code
def yX0_init : MethodName := ⟨RX0, "<init>", "(I)V"⟩
abbrev cX0_room : ByteArray := prog_2_method_2_code
def yX0_room : MethodName := ⟨RX0, "room", "()I"⟩
abbrev cX0_at : ByteArray := prog_2_method_3_code
def yX0_at : MethodName := ⟨RX0, "at", "(I)I"⟩
abbrev cX0_number : ByteArray := prog_2_method_4_code
def yX0_number : MethodName := ⟨RX0, "number", "(II)I"⟩
abbrev cX0_add : ByteArray := prog_2_method_5_code
def yX0_add : MethodName := ⟨RX0, "add", "(I)V"⟩
abbrev cX0_addNumber : ByteArray := prog_2_method_6_code
def yX0_addNumber : MethodName := ⟨RX0, "addNumber", "(II)V"⟩
abbrev cX0_addPart : ByteArray := prog_2_method_7_code
def yX0_addPart : MethodName := ⟨RX0, "addPart", "(LZSaves$Bytes;II)V"⟩
abbrev cX0_setNumber : ByteArray := prog_2_method_8_code
def yX0_setNumber : MethodName := ⟨RX0, "setNumber", "(II)V"⟩
abbrev cX0_copyOf : ByteArray := prog_2_method_9_code
def yX0_copyOf : MethodName := ⟨RX0, "copyOf", "(LZSaves$Bytes;)V"⟩
abbrev cX0_keepFirst : ByteArray := prog_2_method_10_code
def yX0_keepFirst : MethodName := ⟨RX0, "keepFirst", "(I)V"⟩
abbrev cX0_dropFirst : ByteArray := prog_2_method_11_code
def yX0_dropFirst : MethodName := ⟨RX0, "dropFirst", "(I)V"⟩
abbrev cX0_clear : ByteArray := prog_2_method_12_code
def yX0_clear : MethodName := ⟨RX0, "clear", "()V"⟩
def RX1 : String := "ZSaves$Frame"
def TX1 : u_T := fun k => match k with
  | 0 => ("ZSaves$Frame", "row", "[I", true)
  | 1 => ("ZSaves$Frame", "back", "I", false)
  | 2 => ("ZSaves$Frame", "result", "I", false)
  | 3 => ("ZSaves$Frame", "arguments", "I", false)
  | 4 => ("ZSaves$Frame", "locals", "I", false)
  | _ => ("ZSaves$Frame", "depth", "I", false)
def tyX1 : Nat → FieldType := fun k => match k with
  | 0 => .array .int
  | 1 => .int
  | 2 => .int
  | 3 => .int
  | 4 => .int
  | _ => .int
abbrev wsX10 : List Cond := u_ws RX1 TX1 6
theorem nmX1 : ∀ a, a < 6 → ∀ b, b < 6 → a ≠ b → (TX1 a).2.1 ≠ (TX1 b).2.1 := by decide +kernel
theorem tyX1_ok : ∀ k, k < 6 → parseFieldDescriptor (TX1 k).2.2.1 = some (tyX1 k) := by decide +kernel
abbrev cX1_init : ByteArray := prog_3_method_1_code
def yX1_init : MethodName := ⟨RX1, "<init>", "()V"⟩
abbrev cX1_begin : ByteArray := prog_3_method_2_code
def yX1_begin : MethodName := ⟨RX1, "begin", "(IIII)V"⟩
abbrev cX1_words : ByteArray := prog_3_method_3_code
def yX1_words : MethodName := ⟨RX1, "words", "()I"⟩
abbrev cX1_wordAt : ByteArray := prog_3_method_4_code
def yX1_wordAt : MethodName := ⟨RX1, "wordAt", "(I)I"⟩
abbrev cX1_setWord : ByteArray := prog_3_method_5_code
def yX1_setWord : MethodName := ⟨RX1, "setWord", "(II)V"⟩
abbrev cX1_stackWord : ByteArray := prog_3_method_6_code
def yX1_stackWord : MethodName := ⟨RX1, "stackWord", "(I)V"⟩
abbrev cX1_tell : ByteArray := prog_3_method_7_code
def yX1_tell : MethodName := ⟨RX1, "tell", "(LZSaves$Bytes;)V"⟩
def RX2 : String := "ZSaves$Kept"
def TX2 : u_T := fun k => match k with
  | 0 => ("ZSaves$Kept", "rows", "LZSaves$Bytes;", true)
  | 1 => ("ZSaves$Kept", "runsSizes", "[I", true)
  | 2 => ("ZSaves$Kept", "sizes", "[I", true)
  | 3 => ("ZSaves$Kept", "pcs", "[I", true)
  | 4 => ("ZSaves$Kept", "count", "I", false)
  | _ => ("ZSaves$Kept", "limit", "I", false)
def tyX2 : Nat → FieldType := fun k => match k with
  | 0 => .object "ZSaves$Bytes"
  | 1 => .array .int
  | 2 => .array .int
  | 3 => .array .int
  | 4 => .int
  | _ => .int
abbrev wsX20 : List Cond := u_ws RX2 TX2 6
theorem nmX2 : ∀ a, a < 6 → ∀ b, b < 6 → a ≠ b → (TX2 a).2.1 ≠ (TX2 b).2.1 := by decide +kernel
theorem tyX2_ok : ∀ k, k < 6 → parseFieldDescriptor (TX2 k).2.2.1 = some (tyX2 k) := by decide +kernel
abbrev cX2_init : ByteArray := prog_4_method_1_code
def yX2_init : MethodName := ⟨RX2, "<init>", "()V"⟩
abbrev cX2_clear : ByteArray := prog_4_method_2_code
def yX2_clear : MethodName := ⟨RX2, "clear", "()V"⟩
abbrev cX2_add : ByteArray := prog_4_method_3_code
def yX2_add : MethodName := ⟨RX2, "add", "(LZSaves$Bytes;II)V"⟩
abbrev cX2_shrink : ByteArray := prog_4_method_4_code
def yX2_shrink : MethodName := ⟨RX2, "shrink", "(II)V"⟩
abbrev cX2_dropEldest : ByteArray := prog_4_method_5_code
def yX2_dropEldest : MethodName := ⟨RX2, "dropEldest", "()V"⟩
abbrev cX2_takeLatest : ByteArray := prog_4_method_6_code
def yX2_takeLatest : MethodName := ⟨RX2, "takeLatest", "(LZSaves$Story;LZSaves$Session;)V"⟩
def RX3 : String := "ZSaves$Reader"
def TX3 : u_T := fun k => match k with
  | 0 => ("ZSaves$Reader", "file", "LZSaves$Bytes;", true)
  | 1 => ("ZSaves$Reader", "headRead", "Z", false)
  | 2 => ("ZSaves$Reader", "memoryRead", "Z", false)
  | 3 => ("ZSaves$Reader", "framesRead", "Z", false)
  | _ => ("ZSaves$Reader", "at", "I", false)
def tyX3 : Nat → FieldType := fun k => match k with
  | 0 => .object "ZSaves$Bytes"
  | 1 => .boolean
  | 2 => .boolean
  | 3 => .boolean
  | _ => .int
abbrev wsX30 : List Cond := u_ws RX3 TX3 5
theorem nmX3 : ∀ a, a < 5 → ∀ b, b < 5 → a ≠ b → (TX3 a).2.1 ≠ (TX3 b).2.1 := by decide +kernel
theorem tyX3_ok : ∀ k, k < 5 → parseFieldDescriptor (TX3 k).2.2.1 = some (tyX3 k) := by decide +kernel
abbrev cX3_init : ByteArray := prog_5_method_1_code
def yX3_init : MethodName := ⟨RX3, "<init>", "()V"⟩
abbrev cX3_readFor : ByteArray := prog_5_method_2_code
def yX3_readFor : MethodName := ⟨RX3, "readFor", "(LZSaves$Story;LZSaves$Session;LZSaves$Strangers;)I"⟩
abbrev cX3_frontFault : ByteArray := prog_5_method_3_code
def yX3_frontFault : MethodName := ⟨RX3, "frontFault", "()I"⟩
abbrev cX3_shapeFault : ByteArray := prog_5_method_4_code
def yX3_shapeFault : MethodName := ⟨RX3, "shapeFault", "()I"⟩
abbrev cX3_readContents : ByteArray := prog_5_method_5_code
def yX3_readContents : MethodName := ⟨RX3, "readContents", "(ILZSaves$Story;LZSaves$Session;LZSaves$Strangers;)I"⟩
abbrev cX3_readHead : ByteArray := prog_5_method_6_code
def yX3_readHead : MethodName := ⟨RX3, "readHead", "(ILZSaves$Story;LZSaves$Session;)I"⟩
abbrev cX3_readMemory : ByteArray := prog_5_method_7_code
def yX3_readMemory : MethodName := ⟨RX3, "readMemory", "(IILZSaves$Session;)I"⟩
def RX4 : String := "ZSaves$Session"
def TX4 : u_T := fun k => match k with
  | 0 => ("ZSaves$Session", "memory", "[I", true)
  | 1 => ("ZSaves$Session", "frames", "[LZSaves$Frame;", true)
  | 2 => ("ZSaves$Session", "size", "I", false)
  | 3 => ("ZSaves$Session", "pc", "I", false)
  | _ => ("ZSaves$Session", "count", "I", false)
def tyX4 : Nat → FieldType := fun k => match k with
  | 0 => .array .int
  | 1 => .array (.object "ZSaves$Frame")
  | 2 => .int
  | 3 => .int
  | _ => .int
abbrev wsX40 : List Cond := u_ws RX4 TX4 5
theorem nmX4 : ∀ a, a < 5 → ∀ b, b < 5 → a ≠ b → (TX4 a).2.1 ≠ (TX4 b).2.1 := by decide +kernel
theorem tyX4_ok : ∀ k, k < 5 → parseFieldDescriptor (TX4 k).2.2.1 = some (tyX4 k) := by decide +kernel
abbrev cX4_init : ByteArray := prog_6_method_1_code
def yX4_init : MethodName := ⟨RX4, "<init>", "()V"⟩
abbrev cX4_begin : ByteArray := prog_6_method_2_code
def yX4_begin : MethodName := ⟨RX4, "begin", "(LZSaves$Story;)V"⟩
abbrev cX4_byteAt : ByteArray := prog_6_method_3_code
def yX4_byteAt : MethodName := ⟨RX4, "byteAt", "(I)I"⟩
abbrev cX4_setByte : ByteArray := prog_6_method_4_code
def yX4_setByte : MethodName := ⟨RX4, "setByte", "(II)V"⟩
abbrev cX4_bits : ByteArray := prog_6_method_5_code
def yX4_bits : MethodName := ⟨RX4, "bits", "()I"⟩
abbrev cX4_setBits : ByteArray := prog_6_method_6_code
def yX4_setBits : MethodName := ⟨RX4, "setBits", "(I)V"⟩
abbrev cX4_frameAt : ByteArray := prog_6_method_7_code
def yX4_frameAt : MethodName := ⟨RX4, "frameAt", "(I)LZSaves$Frame;"⟩
abbrev cX4_newest : ByteArray := prog_6_method_8_code
def yX4_newest : MethodName := ⟨RX4, "newest", "()LZSaves$Frame;"⟩
abbrev cX4_addFrame : ByteArray := prog_6_method_9_code
def yX4_addFrame : MethodName := ⟨RX4, "addFrame", "(IIII)V"⟩
abbrev cX4_tellMemory : ByteArray := prog_6_method_10_code
def yX4_tellMemory : MethodName := ⟨RX4, "tellMemory", "(LZSaves$Bytes;)V"⟩
abbrev cX4_tellRuns : ByteArray := prog_6_method_11_code
def yX4_tellRuns : MethodName := ⟨RX4, "tellRuns", "(LZSaves$Story;LZSaves$Bytes;)V"⟩
abbrev cX4_tellZeros : ByteArray := prog_6_method_12_code
def yX4_tellZeros : MethodName := ⟨RX4, "tellZeros", "(ILZSaves$Bytes;)V"⟩
abbrev cX4_tellFrames : ByteArray := prog_6_method_13_code
def yX4_tellFrames : MethodName := ⟨RX4, "tellFrames", "(LZSaves$Bytes;)V"⟩
abbrev cX4_takeMemory : ByteArray := prog_6_method_14_code
def yX4_takeMemory : MethodName := ⟨RX4, "takeMemory", "(LZSaves$Bytes;I)V"⟩
abbrev cX4_takeRuns : ByteArray := prog_6_method_15_code
def yX4_takeRuns : MethodName := ⟨RX4, "takeRuns", "(LZSaves$Bytes;II)I"⟩
abbrev cX4_takeFrames : ByteArray := prog_6_method_16_code
def yX4_takeFrames : MethodName := ⟨RX4, "takeFrames", "(LZSaves$Bytes;II)I"⟩
abbrev cX4_frameFault : ByteArray := prog_6_method_17_code
def yX4_frameFault : MethodName := ⟨RX4, "frameFault", "(LZSaves$Bytes;II)I"⟩
abbrev cX4_wrongInFirst : ByteArray := prog_6_method_18_code
def yX4_wrongInFirst : MethodName := ⟨RX4, "wrongInFirst", "(LZSaves$Bytes;I)I"⟩
abbrev cX4_wrongInLater : ByteArray := prog_6_method_19_code
def yX4_wrongInLater : MethodName := ⟨RX4, "wrongInLater", "(LZSaves$Bytes;I)I"⟩
abbrev cX4_takeFrame : ByteArray := prog_6_method_20_code
def yX4_takeFrame : MethodName := ⟨RX4, "takeFrame", "(LZSaves$Bytes;I)I"⟩
def RX5 : String := "ZSaves$Story"
def TX5 : u_T := fun k => match k with
  | 0 => ("ZSaves$Story", "head", "[I", true)
  | 1 => ("ZSaves$Story", "bytes", "[I", true)
  | _ => ("ZSaves$Story", "size", "I", false)
def tyX5 : Nat → FieldType := fun k => match k with
  | 0 => .array .int
  | 1 => .array .int
  | _ => .int
abbrev wsX50 : List Cond := u_ws RX5 TX5 3
theorem nmX5 : ∀ a, a < 3 → ∀ b, b < 3 → a ≠ b → (TX5 a).2.1 ≠ (TX5 b).2.1 := by decide +kernel
theorem tyX5_ok : ∀ k, k < 3 → parseFieldDescriptor (TX5 k).2.2.1 = some (tyX5 k) := by decide +kernel
abbrev cX5_init : ByteArray := prog_7_method_1_code
def yX5_init : MethodName := ⟨RX5, "<init>", "()V"⟩
abbrev cX5_takeFrom : ByteArray := prog_7_method_2_code
def yX5_takeFrom : MethodName := ⟨RX5, "takeFrom", "(LZSaves$Bytes;)V"⟩
abbrev cX5_byteAt : ByteArray := prog_7_method_3_code
def yX5_byteAt : MethodName := ⟨RX5, "byteAt", "(I)I"⟩
abbrev cX5_headAt : ByteArray := prog_7_method_4_code
def yX5_headAt : MethodName := ⟨RX5, "headAt", "(I)I"⟩
abbrev cX5_tellHead : ByteArray := prog_7_method_5_code
def yX5_tellHead : MethodName := ⟨RX5, "tellHead", "(LZSaves$Bytes;)V"⟩
def RX6 : String := "ZSaves$Strangers"
def TX6 : u_T := fun k => match k with
  | 0 => ("ZSaves$Strangers", "rows", "LZSaves$Bytes;", true)
  | 1 => ("ZSaves$Strangers", "names", "[I", true)
  | 2 => ("ZSaves$Strangers", "sizes", "[I", true)
  | _ => ("ZSaves$Strangers", "count", "I", false)
def tyX6 : Nat → FieldType := fun k => match k with
  | 0 => .object "ZSaves$Bytes"
  | 1 => .array .int
  | 2 => .array .int
  | _ => .int
abbrev wsX60 : List Cond := u_ws RX6 TX6 4
theorem nmX6 : ∀ a, a < 4 → ∀ b, b < 4 → a ≠ b → (TX6 a).2.1 ≠ (TX6 b).2.1 := by decide +kernel
theorem tyX6_ok : ∀ k, k < 4 → parseFieldDescriptor (TX6 k).2.2.1 = some (tyX6 k) := by decide +kernel
abbrev cX6_init : ByteArray := prog_8_method_1_code
def yX6_init : MethodName := ⟨RX6, "<init>", "()V"⟩
abbrev cX6_clear : ByteArray := prog_8_method_2_code
def yX6_clear : MethodName := ⟨RX6, "clear", "()V"⟩
abbrev cX6_add : ByteArray := prog_8_method_3_code
def yX6_add : MethodName := ⟨RX6, "add", "(ILZSaves$Bytes;II)Z"⟩
def RX7 : String := "ZSaves$Writer"
def TX7 : u_T := fun k => match k with
  | 0 => ("ZSaves$Writer", "file", "LZSaves$Bytes;", true)
  | 1 => ("ZSaves$Writer", "names", "[I", true)
  | 2 => ("ZSaves$Writer", "begins", "[I", true)
  | 3 => ("ZSaves$Writer", "sizes", "[I", true)
  | _ => ("ZSaves$Writer", "count", "I", false)
def tyX7 : Nat → FieldType := fun k => match k with
  | 0 => .object "ZSaves$Bytes"
  | 1 => .array .int
  | 2 => .array .int
  | 3 => .array .int
  | _ => .int
abbrev wsX70 : List Cond := u_ws RX7 TX7 5
theorem nmX7 : ∀ a, a < 5 → ∀ b, b < 5 → a ≠ b → (TX7 a).2.1 ≠ (TX7 b).2.1 := by decide +kernel
theorem tyX7_ok : ∀ k, k < 5 → parseFieldDescriptor (TX7 k).2.2.1 = some (tyX7 k) := by decide +kernel
abbrev cX7_init : ByteArray := prog_9_method_1_code
def yX7_init : MethodName := ⟨RX7, "<init>", "()V"⟩
abbrev cX7_startFile : ByteArray := prog_9_method_2_code
def yX7_startFile : MethodName := ⟨RX7, "startFile", "()V"⟩
abbrev cX7_openChunk : ByteArray := prog_9_method_3_code
def yX7_openChunk : MethodName := ⟨RX7, "openChunk", "(I)V"⟩
abbrev cX7_closeChunk : ByteArray := prog_9_method_4_code
def yX7_closeChunk : MethodName := ⟨RX7, "closeChunk", "()V"⟩
abbrev cX7_addStrangers : ByteArray := prog_9_method_5_code
def yX7_addStrangers : MethodName := ⟨RX7, "addStrangers", "(LZSaves$Strangers;)V"⟩
abbrev cX7_endFile : ByteArray := prog_9_method_6_code
def yX7_endFile : MethodName := ⟨RX7, "endFile", "()V"⟩
abbrev cX7_tellChunk : ByteArray := prog_9_method_7_code
def yX7_tellChunk : MethodName := ⟨RX7, "tellChunk", "(II)I"⟩
def RX8 : String := "ZSaves"
def TX8 : u_T := fun k => match k with
  | 0 => ("ZSaves", "reader", "LZSaves$Reader;", true)
  | 1 => ("ZSaves", "writer", "LZSaves$Writer;", true)
  | 2 => ("ZSaves", "tape", "LZSaves$Bytes;", true)
  | 3 => ("ZSaves", "output", "LZSaves$Bytes;", true)
  | 4 => ("ZSaves", "disk", "LZSaves$Bytes;", true)
  | 5 => ("ZSaves", "work", "LZSaves$Bytes;", true)
  | 6 => ("ZSaves", "tale", "LZSaves$Story;", true)
  | 7 => ("ZSaves", "kept", "LZSaves$Kept;", true)
  | 8 => ("ZSaves", "now", "LZSaves$Session;", false)
  | 9 => ("ZSaves", "spare", "LZSaves$Session;", false)
  | 10 => ("ZSaves", "known", "LZSaves$Strangers;", false)
  | 11 => ("ZSaves", "coming", "LZSaves$Strangers;", false)
  | 12 => ("ZSaves", "written", "Z", false)
  | 13 => ("ZSaves", "cutAt", "I", false)
  | 14 => ("ZSaves", "faultCode", "I", false)
  | _ => ("ZSaves", "faultPlace", "I", false)
def tyX8 : Nat → FieldType := fun k => match k with
  | 0 => .object "ZSaves$Reader"
  | 1 => .object "ZSaves$Writer"
  | 2 => .object "ZSaves$Bytes"
  | 3 => .object "ZSaves$Bytes"
  | 4 => .object "ZSaves$Bytes"
  | 5 => .object "ZSaves$Bytes"
  | 6 => .object "ZSaves$Story"
  | 7 => .object "ZSaves$Kept"
  | 8 => .object "ZSaves$Session"
  | 9 => .object "ZSaves$Session"
  | 10 => .object "ZSaves$Strangers"
  | 11 => .object "ZSaves$Strangers"
  | 12 => .boolean
  | 13 => .int
  | 14 => .int
  | _ => .int
abbrev wsX80 : List Cond := u_ws RX8 TX8 16
theorem nmX8 : ∀ a, a < 16 → ∀ b, b < 16 → a ≠ b → (TX8 a).2.1 ≠ (TX8 b).2.1 := by decide +kernel
theorem tyX8_ok : ∀ k, k < 16 → parseFieldDescriptor (TX8 k).2.2.1 = some (tyX8 k) := by decide +kernel
abbrev cX8_init : ByteArray := prog_1_method_1_code
def yX8_init : MethodName := ⟨RX8, "<init>", "()V"⟩
abbrev cX8_feed : ByteArray := prog_1_method_2_code
def yX8_feed : MethodName := ⟨RX8, "feed", "(IIIII)I"⟩
abbrev cX8_end : ByteArray := prog_1_method_3_code
def yX8_end : MethodName := ⟨RX8, "end", "(I)I"⟩
abbrev cX8_out : ByteArray := prog_1_method_4_code
def yX8_out : MethodName := ⟨RX8, "out", "(I)I"⟩
abbrev cX8_back : ByteArray := prog_1_method_5_code
def yX8_back : MethodName := ⟨RX8, "back", "()I"⟩
abbrev cX8_story : ByteArray := prog_1_method_6_code
def yX8_story : MethodName := ⟨RX8, "story", "()I"⟩
abbrev cX8_poke : ByteArray := prog_1_method_7_code
def yX8_poke : MethodName := ⟨RX8, "poke", "(II)I"⟩
abbrev cX8_peek : ByteArray := prog_1_method_8_code
def yX8_peek : MethodName := ⟨RX8, "peek", "(I)I"⟩
abbrev cX8_jump : ByteArray := prog_1_method_9_code
def yX8_jump : MethodName := ⟨RX8, "jump", "(I)I"⟩
abbrev cX8_call : ByteArray := prog_1_method_10_code
def yX8_call : MethodName := ⟨RX8, "call", "(IIII)I"⟩
abbrev cX8_leave : ByteArray := prog_1_method_11_code
def yX8_leave : MethodName := ⟨RX8, "leave", "()I"⟩
abbrev cX8_local : ByteArray := prog_1_method_12_code
def yX8_local : MethodName := ⟨RX8, "local", "(II)I"⟩
abbrev cX8_push : ByteArray := prog_1_method_13_code
def yX8_push : MethodName := ⟨RX8, "push", "(I)I"⟩
abbrev cX8_pop : ByteArray := prog_1_method_14_code
def yX8_pop : MethodName := ⟨RX8, "pop", "()I"⟩
abbrev cX8_frame : ByteArray := prog_1_method_15_code
def yX8_frame : MethodName := ⟨RX8, "frame", "(II)I"⟩
abbrev cX8_print : ByteArray := prog_1_method_16_code
def yX8_print : MethodName := ⟨RX8, "print", "()J"⟩
abbrev cX8_save : ByteArray := prog_1_method_17_code
def yX8_save : MethodName := ⟨RX8, "save", "(Z)I"⟩
abbrev cX8_restore : ByteArray := prog_1_method_18_code
def yX8_restore : MethodName := ⟨RX8, "restore", "()I"⟩
abbrev cX8_why : ByteArray := prog_1_method_19_code
def yX8_why : MethodName := ⟨RX8, "why", "(I)I"⟩
abbrev cX8_chunk : ByteArray := prog_1_method_20_code
def yX8_chunk : MethodName := ⟨RX8, "chunk", "(II)I"⟩
abbrev cX8_write : ByteArray := prog_1_method_21_code
def yX8_write : MethodName := ⟨RX8, "write", "()I"⟩
abbrev cX8_cut : ByteArray := prog_1_method_22_code
def yX8_cut : MethodName := ⟨RX8, "cut", "(I)I"⟩
abbrev cX8_load : ByteArray := prog_1_method_23_code
def yX8_load : MethodName := ⟨RX8, "load", "()I"⟩
abbrev cX8_keep : ByteArray := prog_1_method_24_code
def yX8_keep : MethodName := ⟨RX8, "keep", "()I"⟩
abbrev cX8_undo : ByteArray := prog_1_method_25_code
def yX8_undo : MethodName := ⟨RX8, "undo", "()I"⟩
abbrev cX8_bound : ByteArray := prog_1_method_26_code
def yX8_bound : MethodName := ⟨RX8, "bound", "(I)I"⟩
abbrev cX8_restart : ByteArray := prog_1_method_27_code
def yX8_restart : MethodName := ⟨RX8, "restart", "()I"⟩
abbrev cX8_told : ByteArray := prog_1_method_28_code
def yX8_told : MethodName := ⟨RX8, "told", "(I)I"⟩
abbrev cX8_noStory : ByteArray := prog_1_method_29_code
def yX8_noStory : MethodName := ⟨RX8, "noStory", "()Z"⟩
abbrev cX8_within : ByteArray := prog_1_method_30_code
def yX8_within : MethodName := ⟨RX8, "within", "(II)Z"⟩
abbrev cX8_printed : ByteArray := prog_1_method_31_code
def yX8_printed : MethodName := ⟨RX8, "printed", "(JI)J"⟩
abbrev cX8_fillTape : ByteArray := prog_1_method_32_code
def yX8_fillTape : MethodName := ⟨RX8, "fillTape", "(LZSaves$Bytes;)I"⟩
abbrev cX8_turnToSpare : ByteArray := prog_1_method_33_code
def yX8_turnToSpare : MethodName := ⟨RX8, "turnToSpare", "()V"⟩
abbrev cX8_turnToComing : ByteArray := prog_1_method_34_code
def yX8_turnToComing : MethodName := ⟨RX8, "turnToComing", "()V"⟩
abbrev cX8_weighNow : ByteArray := prog_1_method_35_code
def yX8_weighNow : MethodName := ⟨RX8, "weighNow", "()I"⟩
abbrev cX8_fault : ByteArray := prog_1_method_36_code
def yX8_fault : MethodName := ⟨RX8, "fault", "(II)I"⟩
def RX9 : String := "ZSavesModel"
def TX9 : u_T := fun k => match k with
  | 0 => ("ZSavesModel", "tape", "[I", true)
  | 1 => ("ZSavesModel", "tapeSize", "I", false)
  | 2 => ("ZSavesModel", "out", "[I", true)
  | 3 => ("ZSavesModel", "outSize", "I", false)
  | 4 => ("ZSavesModel", "disk", "[I", true)
  | 5 => ("ZSavesModel", "diskSize", "I", false)
  | 6 => ("ZSavesModel", "cutAt", "I", false)
  | 7 => ("ZSavesModel", "head", "[I", true)
  | 8 => ("ZSavesModel", "own", "[I", true)
  | 9 => ("ZSavesModel", "size", "I", false)
  | 10 => ("ZSavesModel", "now", "[I", true)
  | 11 => ("ZSavesModel", "read", "[I", true)
  | 12 => ("ZSavesModel", "kept", "[I", true)
  | 13 => ("ZSavesModel", "weight", "[I", true)
  | 14 => ("ZSavesModel", "keeps", "I", false)
  | 15 => ("ZSavesModel", "most", "I", false)
  | 16 => ("ZSavesModel", "strange", "[I", true)
  | 17 => ("ZSavesModel", "strangers", "I", false)
  | 18 => ("ZSavesModel", "newStrange", "[I", true)
  | 19 => ("ZSavesModel", "newStrangers", "I", false)
  | 20 => ("ZSavesModel", "code", "I", false)
  | 21 => ("ZSavesModel", "place", "I", false)
  | 22 => ("ZSavesModel", "chunkName", "[I", true)
  | 23 => ("ZSavesModel", "chunkAt", "[I", true)
  | 24 => ("ZSavesModel", "chunkSize", "[I", true)
  | 25 => ("ZSavesModel", "chunks", "I", false)
  | 26 => ("ZSavesModel", "made", "[I", true)
  | 27 => ("ZSavesModel", "madeSize", "I", false)
  | _ => ("ZSavesModel", "fileSize", "I", false)
def tyX9 : Nat → FieldType := fun k => match k with
  | 0 => .array .int
  | 1 => .int
  | 2 => .array .int
  | 3 => .int
  | 4 => .array .int
  | 5 => .int
  | 6 => .int
  | 7 => .array .int
  | 8 => .array .int
  | 9 => .int
  | 10 => .array .int
  | 11 => .array .int
  | 12 => .array .int
  | 13 => .array .int
  | 14 => .int
  | 15 => .int
  | 16 => .array .int
  | 17 => .int
  | 18 => .array .int
  | 19 => .int
  | 20 => .int
  | 21 => .int
  | 22 => .array .int
  | 23 => .array .int
  | 24 => .array .int
  | 25 => .int
  | 26 => .array .int
  | 27 => .int
  | _ => .int
abbrev wsX90 : List Cond := u_ws RX9 TX9 29
theorem nmX9 : ∀ a, a < 29 → ∀ b, b < 29 → a ≠ b → (TX9 a).2.1 ≠ (TX9 b).2.1 := by decide +kernel
theorem tyX9_ok : ∀ k, k < 29 → parseFieldDescriptor (TX9 k).2.2.1 = some (tyX9 k) := by decide +kernel
abbrev cX9_init : ByteArray := prog_11_method_1_code
def yX9_init : MethodName := ⟨RX9, "<init>", "()V"⟩
abbrev cX9_outside : ByteArray := prog_11_method_2_code
def yX9_outside : MethodName := ⟨RX9, "outside", "(III)Z"⟩
abbrev cX9_feed : ByteArray := prog_11_method_3_code
def yX9_feed : MethodName := ⟨RX9, "feed", "(IIIII)I"⟩
abbrev cX9_four : ByteArray := prog_11_method_4_code
def yX9_four : MethodName := ⟨RX9, "four", "(II)V"⟩
abbrev cX9_end : ByteArray := prog_11_method_5_code
def yX9_end : MethodName := ⟨RX9, "end", "(I)I"⟩
abbrev cX9_out : ByteArray := prog_11_method_6_code
def yX9_out : MethodName := ⟨RX9, "out", "(I)I"⟩
abbrev cX9_back : ByteArray := prog_11_method_7_code
def yX9_back : MethodName := ⟨RX9, "back", "()I"⟩
abbrev cX9_story : ByteArray := prog_11_method_8_code
def yX9_story : MethodName := ⟨RX9, "story", "()I"⟩
abbrev cX9_begin : ByteArray := prog_11_method_9_code
def yX9_begin : MethodName := ⟨RX9, "begin", "()V"⟩
abbrev cX9_bits : ByteArray := prog_11_method_10_code
def yX9_bits : MethodName := ⟨RX9, "bits", "()I"⟩
abbrev cX9_stay : ByteArray := prog_11_method_11_code
def yX9_stay : MethodName := ⟨RX9, "stay", "(I)V"⟩
abbrev cX9_poke : ByteArray := prog_11_method_12_code
def yX9_poke : MethodName := ⟨RX9, "poke", "(II)I"⟩
abbrev cX9_peek : ByteArray := prog_11_method_13_code
def yX9_peek : MethodName := ⟨RX9, "peek", "(I)I"⟩
abbrev cX9_jump : ByteArray := prog_11_method_14_code
def yX9_jump : MethodName := ⟨RX9, "jump", "(I)I"⟩
abbrev cX9_newest : ByteArray := prog_11_method_15_code
def yX9_newest : MethodName := ⟨RX9, "newest", "()I"⟩
abbrev cX9_call : ByteArray := prog_11_method_16_code
def yX9_call : MethodName := ⟨RX9, "call", "(IIII)I"⟩
abbrev cX9_leave : ByteArray := prog_11_method_17_code
def yX9_leave : MethodName := ⟨RX9, "leave", "()I"⟩
abbrev cX9_local : ByteArray := prog_11_method_18_code
def yX9_local : MethodName := ⟨RX9, "local", "(II)I"⟩
abbrev cX9_push : ByteArray := prog_11_method_19_code
def yX9_push : MethodName := ⟨RX9, "push", "(I)I"⟩
abbrev cX9_pop : ByteArray := prog_11_method_20_code
def yX9_pop : MethodName := ⟨RX9, "pop", "()I"⟩
abbrev cX9_frame : ByteArray := prog_11_method_21_code
def yX9_frame : MethodName := ⟨RX9, "frame", "(II)I"⟩
abbrev cX9_number : ByteArray := prog_11_method_22_code
def yX9_number : MethodName := ⟨RX9, "number", "(II)V"⟩
abbrev cX9_makeB : ByteArray := prog_11_method_23_code
def yX9_makeB : MethodName := ⟨RX9, "makeB", "([I)V"⟩
abbrev cX9_makeD : ByteArray := prog_11_method_24_code
def yX9_makeD : MethodName := ⟨RX9, "makeD", "([I)V"⟩
abbrev cX9_weightOf : ByteArray := prog_11_method_25_code
def yX9_weightOf : MethodName := ⟨RX9, "weightOf", "([I)I"⟩
abbrev cX9_print : ByteArray := prog_11_method_26_code
def yX9_print : MethodName := ⟨RX9, "print", "()J"⟩
abbrev cX9_open : ByteArray := prog_11_method_27_code
def yX9_open : MethodName := ⟨RX9, "open", "(I)V"⟩
abbrev cX9_close : ByteArray := prog_11_method_28_code
def yX9_close : MethodName := ⟨RX9, "close", "()V"⟩
abbrev cX9_patch : ByteArray := prog_11_method_29_code
def yX9_patch : MethodName := ⟨RX9, "patch", "(II)V"⟩
abbrev cX9_save : ByteArray := prog_11_method_30_code
def yX9_save : MethodName := ⟨RX9, "save", "(Z)I"⟩
abbrev cX9_wrong : ByteArray := prog_11_method_31_code
def yX9_wrong : MethodName := ⟨RX9, "wrong", "(II)Z"⟩
abbrev cX9_numberAt : ByteArray := prog_11_method_32_code
def yX9_numberAt : MethodName := ⟨RX9, "numberAt", "(I)J"⟩
abbrev cX9_restore : ByteArray := prog_11_method_33_code
def yX9_restore : MethodName := ⟨RX9, "restore", "()I"⟩
abbrev cX9_readFile : ByteArray := prog_11_method_34_code
def yX9_readFile : MethodName := ⟨RX9, "readFile", "()Z"⟩
abbrev cX9_readA : ByteArray := prog_11_method_35_code
def yX9_readA : MethodName := ⟨RX9, "readA", "(III)Z"⟩
abbrev cX9_readB : ByteArray := prog_11_method_36_code
def yX9_readB : MethodName := ⟨RX9, "readB", "(II)Z"⟩
abbrev cX9_readC : ByteArray := prog_11_method_37_code
def yX9_readC : MethodName := ⟨RX9, "readC", "(III)Z"⟩
abbrev cX9_readD : ByteArray := prog_11_method_38_code
def yX9_readD : MethodName := ⟨RX9, "readD", "(II)Z"⟩
abbrev cX9_why : ByteArray := prog_11_method_39_code
def yX9_why : MethodName := ⟨RX9, "why", "(I)I"⟩
abbrev cX9_chunk : ByteArray := prog_11_method_40_code
def yX9_chunk : MethodName := ⟨RX9, "chunk", "(II)I"⟩
abbrev cX9_write : ByteArray := prog_11_method_41_code
def yX9_write : MethodName := ⟨RX9, "write", "()I"⟩
abbrev cX9_cut : ByteArray := prog_11_method_42_code
def yX9_cut : MethodName := ⟨RX9, "cut", "(I)I"⟩
abbrev cX9_load : ByteArray := prog_11_method_43_code
def yX9_load : MethodName := ⟨RX9, "load", "()I"⟩
abbrev cX9_sum : ByteArray := prog_11_method_44_code
def yX9_sum : MethodName := ⟨RX9, "sum", "()I"⟩
abbrev cX9_eldestGo : ByteArray := prog_11_method_45_code
def yX9_eldestGo : MethodName := ⟨RX9, "eldestGo", "()V"⟩
abbrev cX9_keep : ByteArray := prog_11_method_46_code
def yX9_keep : MethodName := ⟨RX9, "keep", "()I"⟩
abbrev cX9_undo : ByteArray := prog_11_method_47_code
def yX9_undo : MethodName := ⟨RX9, "undo", "()I"⟩
abbrev cX9_bound : ByteArray := prog_11_method_48_code
def yX9_bound : MethodName := ⟨RX9, "bound", "(I)I"⟩
abbrev cX9_restart : ByteArray := prog_11_method_49_code
def yX9_restart : MethodName := ⟨RX9, "restart", "()I"⟩
abbrev cX9_told : ByteArray := prog_11_method_50_code
def yX9_told : MethodName := ⟨RX9, "told", "(I)I"⟩
def RJ6 : String := "java/lang/Integer"
def TJ6 : u_T := fun k => match k with
  | _ => ("", "", "", false)
def tyJ6 : Nat → FieldType := fun k => match k with
  | _ => .int
abbrev wsJ60 : List Cond := u_ws RJ6 TJ6 0
theorem nmJ6 : ∀ a, a < 0 → ∀ b, b < 0 → a ≠ b → (TJ6 a).2.1 ≠ (TJ6 b).2.1 := by decide +kernel
theorem tyJ6_ok : ∀ k, k < 0 → parseFieldDescriptor (TJ6 k).2.2.1 = some (tyJ6 k) := by decide +kernel
abbrev cJ6_bitCount_0f7a4 : ByteArray := prog_12_method_49_code
def yJ6_bitCount_0f7a4 : MethodName := ⟨RJ6, "bitCount", "(I)I"⟩
def RJ9 : String := "java/lang/Math"
def TJ9 : u_T := fun k => match k with
  | _ => ("", "", "", false)
def tyJ9 : Nat → FieldType := fun k => match k with
  | _ => .int
abbrev wsJ90 : List Cond := u_ws RJ9 TJ9 0
theorem nmJ9 : ∀ a, a < 0 → ∀ b, b < 0 → a ≠ b → (TJ9 a).2.1 ≠ (TJ9 b).2.1 := by decide +kernel
theorem tyJ9_ok : ∀ k, k < 0 → parseFieldDescriptor (TJ9 k).2.2.1 = some (tyJ9 k) := by decide +kernel
abbrev cJ9_max_7cf53 : ByteArray := prog_13_method_65_code
def yJ9_max_7cf53 : MethodName := ⟨RJ9, "max", "(II)I"⟩
abbrev cJ9_min_7cf53 : ByteArray := prog_13_method_69_code
def yJ9_min_7cf53 : MethodName := ⟨RJ9, "min", "(II)I"⟩
def RJ10 : String := "java/lang/System"
def TJ10 : u_T := fun k => match k with
  | _ => ("", "", "", false)
def tyJ10 : Nat → FieldType := fun k => match k with
  | _ => .int
abbrev wsJ100 : List Cond := u_ws RJ10 TJ10 0
theorem nmJ10 : ∀ a, a < 0 → ∀ b, b < 0 → a ≠ b → (TJ10 a).2.1 ≠ (TJ10 b).2.1 := by decide +kernel
theorem tyJ10_ok : ∀ k, k < 0 → parseFieldDescriptor (TJ10 k).2.2.1 = some (tyJ10 k) := by decide +kernel
def RL : String := "ZSavesLaw"
abbrev cL_law : ByteArray := code
def yL_law : MethodName := ⟨RL, "law", "([I)Z"⟩
abbrev vwCl : List vw_C := [(RX0, TX0, 2), (RX1, TX1, 6), (RX2, TX2, 6), (RX3, TX3, 5), (RX4, TX4, 5), (RX5, TX5, 3), (RX6, TX6, 4), (RX7, TX7, 5), (RX8, TX8, 16), (RX9, TX9, 29)]
end
section
/-! ===== the words of the tables that every method may use, by their places ===== -/
def am_T : List Cond := lw_tbl.filter goodWord
theorem am_T_in {w : Cond} (h : w ∈ am_T) : w ∈ lw_tbl := (List.mem_filter.mp h).1
theorem am_T_good {ws : List Cond} (h : ∀ w ∈ ws, w ∈ am_T) : GoodIn am_T ws := fun w hw => ⟨h w hw, good_of_word (List.mem_filter.mp (h w hw)).2⟩
theorem am_tw {w : Cond} (i : Nat) (h : lw_tbl[i]? = some w) (hg : goodWord w = true) : w ∈ am_T := List.mem_filter.mpr ⟨List.mem_of_getElem? h, hg⟩
theorem tw_0 : (Jvm.Cond.initialized "ZSavesLaw") ∈ am_T := am_tw 34 (by decide +kernel) (by decide +kernel)
theorem tw_1 : (Jvm.Cond.initialized "ZSaves") ∈ am_T := am_tw 35 (by decide +kernel) (by decide +kernel)
theorem tw_2 : (Jvm.Cond.initialized "ZSaves$Reader") ∈ am_T := am_tw 36 (by decide +kernel) (by decide +kernel)
theorem tw_3 : (Jvm.Cond.initialized "ZSaves$Bytes") ∈ am_T := am_tw 37 (by decide +kernel) (by decide +kernel)
theorem tw_4 : (Jvm.Cond.initialized "java/lang/Math") ∈ am_T := am_tw 38 (by decide +kernel) (by decide +kernel)
theorem tw_5 : (Jvm.Cond.initialized "ZSaves$Writer") ∈ am_T := am_tw 39 (by decide +kernel) (by decide +kernel)
theorem tw_6 : (Jvm.Cond.initialized "ZSaves$Story") ∈ am_T := am_tw 40 (by decide +kernel) (by decide +kernel)
theorem tw_7 : (Jvm.Cond.initialized "ZSaves$Kept") ∈ am_T := am_tw 41 (by decide +kernel) (by decide +kernel)
theorem tw_8 : (Jvm.Cond.initialized "ZSaves$Session") ∈ am_T := am_tw 42 (by decide +kernel) (by decide +kernel)
theorem tw_9 : (Jvm.Cond.initialized "ZSaves$Frame") ∈ am_T := am_tw 43 (by decide +kernel) (by decide +kernel)
theorem tw_10 : (Jvm.Cond.initialized "ZSaves$Strangers") ∈ am_T := am_tw 44 (by decide +kernel) (by decide +kernel)
theorem tw_11 : (Jvm.Cond.initialized "ZSavesModel") ∈ am_T := am_tw 45 (by decide +kernel) (by decide +kernel)
theorem tw_12 : (Jvm.Cond.initialized "java/lang/System") ∈ am_T := am_tw 46 (by decide +kernel) (by decide +kernel)
theorem tw_13 : (Jvm.Cond.initialized "java/lang/Integer") ∈ am_T := am_tw 47 (by decide +kernel) (by decide +kernel)
theorem tw_14 : (Jvm.Cond.classLink "ZSavesLaw" (7 : Nat) "ZSaves") ∈ am_T := am_tw 48 (by decide +kernel) (by decide +kernel)
theorem tw_15 : (Jvm.Cond.instantiable "ZSaves" (16 : Nat)) ∈ am_T := am_tw 49 (by decide +kernel) (by decide +kernel)
theorem tw_16 : (Jvm.Cond.methodLink "ZSavesLaw" (9 : Nat) ({ cls := "ZSaves", name := "<init>", desc := "()V" } : Jvm.MethodName)) ∈ am_T := am_tw 50 (by decide +kernel) (by decide +kernel)
theorem tw_17 : (Jvm.Cond.instanceMethod ({ cls := "ZSaves", name := "<init>", desc := "()V" } : Jvm.MethodName)) ∈ am_T := am_tw 51 (by decide +kernel) (by decide +kernel)
theorem tw_18 : (Jvm.Cond.code ({ cls := "ZSaves", name := "<init>", desc := "()V" } : Jvm.MethodName) prog_1_method_1_code (1 : Nat) (Option.none : Option Jvm.ClassFile.FieldType)) ∈ am_T := am_tw 52 (by decide +kernel) (by decide +kernel)
theorem tw_19 : (Jvm.Cond.methodLink "ZSaves" (3 : Nat) ({ cls := "java/lang/Object", name := "<init>", desc := "()V" } : Jvm.MethodName)) ∈ am_T := am_tw 53 (by decide +kernel) (by decide +kernel)
theorem tw_20 : (Jvm.Cond.instanceMethod ({ cls := "java/lang/Object", name := "<init>", desc := "()V" } : Jvm.MethodName)) ∈ am_T := am_tw 54 (by decide +kernel) (by decide +kernel)
theorem tw_21 : (Jvm.Cond.code ({ cls := "java/lang/Object", name := "<init>", desc := "()V" } : Jvm.MethodName) object_method_1_code (1 : Nat) (Option.none : Option Jvm.ClassFile.FieldType)) ∈ am_T := am_tw 55 (by decide +kernel) (by decide +kernel)
theorem tw_22 : (Jvm.Cond.classLink "ZSaves" (9 : Nat) "ZSaves$Reader") ∈ am_T := am_tw 56 (by decide +kernel) (by decide +kernel)
theorem tw_23 : (Jvm.Cond.instantiable "ZSaves$Reader" (5 : Nat)) ∈ am_T := am_tw 57 (by decide +kernel) (by decide +kernel)
theorem tw_25 : (Jvm.Cond.instanceMethod ({ cls := "ZSaves$Reader", name := "<init>", desc := "()V" } : Jvm.MethodName)) ∈ am_T := am_tw 59 (by decide +kernel) (by decide +kernel)
theorem tw_26 : (Jvm.Cond.code ({ cls := "ZSaves$Reader", name := "<init>", desc := "()V" } : Jvm.MethodName) prog_5_method_1_code (1 : Nat) (Option.none : Option Jvm.ClassFile.FieldType)) ∈ am_T := am_tw 60 (by decide +kernel) (by decide +kernel)
theorem tw_27 : (Jvm.Cond.methodLink "ZSaves$Reader" (3 : Nat) ({ cls := "java/lang/Object", name := "<init>", desc := "()V" } : Jvm.MethodName)) ∈ am_T := am_tw 61 (by decide +kernel) (by decide +kernel)
theorem tw_28 : (Jvm.Cond.classLink "ZSaves$Reader" (9 : Nat) "ZSaves$Bytes") ∈ am_T := am_tw 62 (by decide +kernel) (by decide +kernel)
theorem tw_29 : (Jvm.Cond.instantiable "ZSaves$Bytes" (2 : Nat)) ∈ am_T := am_tw 63 (by decide +kernel) (by decide +kernel)
theorem tw_30 : (Jvm.Cond.methodLink "ZSaves$Reader" (11 : Nat) ({ cls := "ZSaves$Bytes", name := "<init>", desc := "(I)V" } : Jvm.MethodName)) ∈ am_T := am_tw 64 (by decide +kernel) (by decide +kernel)
theorem tw_31 : (Jvm.Cond.instanceMethod ({ cls := "ZSaves$Bytes", name := "<init>", desc := "(I)V" } : Jvm.MethodName)) ∈ am_T := am_tw 65 (by decide +kernel) (by decide +kernel)
theorem tw_32 : (Jvm.Cond.code ({ cls := "ZSaves$Bytes", name := "<init>", desc := "(I)V" } : Jvm.MethodName) prog_2_method_1_code (2 : Nat) (Option.none : Option Jvm.ClassFile.FieldType)) ∈ am_T := am_tw 66 (by decide +kernel) (by decide +kernel)
theorem tw_33 : (Jvm.Cond.methodLink "ZSaves$Bytes" (3 : Nat) ({ cls := "java/lang/Object", name := "<init>", desc := "()V" } : Jvm.MethodName)) ∈ am_T := am_tw 67 (by decide +kernel) (by decide +kernel)
theorem tw_34 : (Jvm.Cond.methodLink "ZSaves$Bytes" (9 : Nat) ({ cls := "java/lang/Math", name := "max", desc := "(II)I" } : Jvm.MethodName)) ∈ am_T := am_tw 68 (by decide +kernel) (by decide +kernel)
theorem tw_35 : (Jvm.Cond.static ({ cls := "java/lang/Math", name := "max", desc := "(II)I" } : Jvm.MethodName)) ∈ am_T := am_tw 69 (by decide +kernel) (by decide +kernel)
theorem tw_36 : (Jvm.Cond.code ({ cls := "java/lang/Math", name := "max", desc := "(II)I" } : Jvm.MethodName) prog_13_method_65_code (2 : Nat) (Option.some Jvm.ClassFile.FieldType.int)) ∈ am_T := am_tw 70 (by decide +kernel) (by decide +kernel)
theorem tw_37 : (Jvm.Cond.fieldLink "ZSaves$Bytes" (15 : Nat) "ZSaves$Bytes" "cells" "[I") ∈ am_T := am_tw 71 (by decide +kernel) (by decide +kernel)
theorem tw_38 : (Jvm.Cond.fieldLink "ZSaves$Bytes" (21 : Nat) "ZSaves$Bytes" "size" "I") ∈ am_T := am_tw 72 (by decide +kernel) (by decide +kernel)
theorem tw_44 : (Jvm.Cond.laysFinal "ZSaves$Bytes" "ZSaves$Bytes" "cells" "[I") ∈ am_T := am_tw 78 (by decide +kernel) (by decide +kernel)
theorem tw_46 : (Jvm.Cond.lays "ZSaves$Bytes" "ZSaves$Bytes" "size" "I") ∈ am_T := am_tw 80 (by decide +kernel) (by decide +kernel)
theorem tw_49 : (Jvm.Cond.arrayClass Jvm.ClassFile.FieldType.int) ∈ am_T := am_tw 83 (by decide +kernel) (by decide +kernel)
theorem tw_50 : (Jvm.Cond.fieldLink "ZSaves$Reader" (14 : Nat) "ZSaves$Reader" "file" "LZSaves$Bytes;") ∈ am_T := am_tw 84 (by decide +kernel) (by decide +kernel)
theorem tw_52 : (Jvm.Cond.fieldLink "ZSaves$Reader" (20 : Nat) "ZSaves$Reader" "headRead" "Z") ∈ am_T := am_tw 86 (by decide +kernel) (by decide +kernel)
theorem tw_53 : (Jvm.Cond.fieldLink "ZSaves$Reader" (24 : Nat) "ZSaves$Reader" "memoryRead" "Z") ∈ am_T := am_tw 87 (by decide +kernel) (by decide +kernel)
theorem tw_54 : (Jvm.Cond.fieldLink "ZSaves$Reader" (27 : Nat) "ZSaves$Reader" "framesRead" "Z") ∈ am_T := am_tw 88 (by decide +kernel) (by decide +kernel)
theorem tw_55 : (Jvm.Cond.fieldLink "ZSaves$Reader" (30 : Nat) "ZSaves$Reader" "at" "I") ∈ am_T := am_tw 89 (by decide +kernel) (by decide +kernel)
theorem tw_56 : (Jvm.Cond.laysFinal "ZSaves$Reader" "ZSaves$Reader" "file" "LZSaves$Bytes;") ∈ am_T := am_tw 90 (by decide +kernel) (by decide +kernel)
theorem tw_58 : (Jvm.Cond.lays "ZSaves$Reader" "ZSaves$Reader" "headRead" "Z") ∈ am_T := am_tw 92 (by decide +kernel) (by decide +kernel)
theorem tw_60 : (Jvm.Cond.lays "ZSaves$Reader" "ZSaves$Reader" "memoryRead" "Z") ∈ am_T := am_tw 94 (by decide +kernel) (by decide +kernel)
theorem tw_62 : (Jvm.Cond.lays "ZSaves$Reader" "ZSaves$Reader" "framesRead" "Z") ∈ am_T := am_tw 96 (by decide +kernel) (by decide +kernel)
theorem tw_64 : (Jvm.Cond.lays "ZSaves$Reader" "ZSaves$Reader" "at" "I") ∈ am_T := am_tw 98 (by decide +kernel) (by decide +kernel)
theorem tw_67 : (Jvm.Cond.classLink "ZSaves" (16 : Nat) "ZSaves$Writer") ∈ am_T := am_tw 101 (by decide +kernel) (by decide +kernel)
theorem tw_68 : (Jvm.Cond.instantiable "ZSaves$Writer" (5 : Nat)) ∈ am_T := am_tw 102 (by decide +kernel) (by decide +kernel)
theorem tw_70 : (Jvm.Cond.instanceMethod ({ cls := "ZSaves$Writer", name := "<init>", desc := "()V" } : Jvm.MethodName)) ∈ am_T := am_tw 104 (by decide +kernel) (by decide +kernel)
theorem tw_71 : (Jvm.Cond.code ({ cls := "ZSaves$Writer", name := "<init>", desc := "()V" } : Jvm.MethodName) prog_9_method_1_code (1 : Nat) (Option.none : Option Jvm.ClassFile.FieldType)) ∈ am_T := am_tw 105 (by decide +kernel) (by decide +kernel)
theorem tw_72 : (Jvm.Cond.methodLink "ZSaves$Writer" (3 : Nat) ({ cls := "java/lang/Object", name := "<init>", desc := "()V" } : Jvm.MethodName)) ∈ am_T := am_tw 106 (by decide +kernel) (by decide +kernel)
theorem tw_73 : (Jvm.Cond.classLink "ZSaves$Writer" (9 : Nat) "ZSaves$Bytes") ∈ am_T := am_tw 107 (by decide +kernel) (by decide +kernel)
theorem tw_74 : (Jvm.Cond.methodLink "ZSaves$Writer" (11 : Nat) ({ cls := "ZSaves$Bytes", name := "<init>", desc := "(I)V" } : Jvm.MethodName)) ∈ am_T := am_tw 108 (by decide +kernel) (by decide +kernel)
theorem tw_75 : (Jvm.Cond.fieldLink "ZSaves$Writer" (14 : Nat) "ZSaves$Writer" "file" "LZSaves$Bytes;") ∈ am_T := am_tw 109 (by decide +kernel) (by decide +kernel)
theorem tw_77 : (Jvm.Cond.fieldLink "ZSaves$Writer" (20 : Nat) "ZSaves$Writer" "names" "[I") ∈ am_T := am_tw 111 (by decide +kernel) (by decide +kernel)
theorem tw_78 : (Jvm.Cond.fieldLink "ZSaves$Writer" (24 : Nat) "ZSaves$Writer" "begins" "[I") ∈ am_T := am_tw 112 (by decide +kernel) (by decide +kernel)
theorem tw_79 : (Jvm.Cond.fieldLink "ZSaves$Writer" (27 : Nat) "ZSaves$Writer" "sizes" "[I") ∈ am_T := am_tw 113 (by decide +kernel) (by decide +kernel)
theorem tw_80 : (Jvm.Cond.fieldLink "ZSaves$Writer" (30 : Nat) "ZSaves$Writer" "count" "I") ∈ am_T := am_tw 114 (by decide +kernel) (by decide +kernel)
theorem tw_82 : (Jvm.Cond.laysFinal "ZSaves$Writer" "ZSaves$Writer" "file" "LZSaves$Bytes;") ∈ am_T := am_tw 116 (by decide +kernel) (by decide +kernel)
theorem tw_84 : (Jvm.Cond.laysFinal "ZSaves$Writer" "ZSaves$Writer" "names" "[I") ∈ am_T := am_tw 118 (by decide +kernel) (by decide +kernel)
theorem tw_86 : (Jvm.Cond.laysFinal "ZSaves$Writer" "ZSaves$Writer" "begins" "[I") ∈ am_T := am_tw 120 (by decide +kernel) (by decide +kernel)
theorem tw_88 : (Jvm.Cond.laysFinal "ZSaves$Writer" "ZSaves$Writer" "sizes" "[I") ∈ am_T := am_tw 122 (by decide +kernel) (by decide +kernel)
theorem tw_90 : (Jvm.Cond.lays "ZSaves$Writer" "ZSaves$Writer" "count" "I") ∈ am_T := am_tw 124 (by decide +kernel) (by decide +kernel)
theorem tw_93 : (Jvm.Cond.classLink "ZSaves" (34 : Nat) "ZSaves$Bytes") ∈ am_T := am_tw 127 (by decide +kernel) (by decide +kernel)
theorem tw_94 : (Jvm.Cond.methodLink "ZSaves" (36 : Nat) ({ cls := "ZSaves$Bytes", name := "<init>", desc := "(I)V" } : Jvm.MethodName)) ∈ am_T := am_tw 128 (by decide +kernel) (by decide +kernel)
theorem tw_95 : (Jvm.Cond.classLink "ZSaves" (45 : Nat) "ZSaves$Story") ∈ am_T := am_tw 129 (by decide +kernel) (by decide +kernel)
theorem tw_96 : (Jvm.Cond.instantiable "ZSaves$Story" (3 : Nat)) ∈ am_T := am_tw 130 (by decide +kernel) (by decide +kernel)
theorem tw_98 : (Jvm.Cond.instanceMethod ({ cls := "ZSaves$Story", name := "<init>", desc := "()V" } : Jvm.MethodName)) ∈ am_T := am_tw 132 (by decide +kernel) (by decide +kernel)
theorem tw_99 : (Jvm.Cond.code ({ cls := "ZSaves$Story", name := "<init>", desc := "()V" } : Jvm.MethodName) prog_7_method_1_code (1 : Nat) (Option.none : Option Jvm.ClassFile.FieldType)) ∈ am_T := am_tw 133 (by decide +kernel) (by decide +kernel)
theorem tw_100 : (Jvm.Cond.methodLink "ZSaves$Story" (3 : Nat) ({ cls := "java/lang/Object", name := "<init>", desc := "()V" } : Jvm.MethodName)) ∈ am_T := am_tw 134 (by decide +kernel) (by decide +kernel)
theorem tw_101 : (Jvm.Cond.fieldLink "ZSaves$Story" (9 : Nat) "ZSaves$Story" "head" "[I") ∈ am_T := am_tw 135 (by decide +kernel) (by decide +kernel)
theorem tw_102 : (Jvm.Cond.fieldLink "ZSaves$Story" (15 : Nat) "ZSaves$Story" "bytes" "[I") ∈ am_T := am_tw 136 (by decide +kernel) (by decide +kernel)
theorem tw_103 : (Jvm.Cond.fieldLink "ZSaves$Story" (18 : Nat) "ZSaves$Story" "size" "I") ∈ am_T := am_tw 137 (by decide +kernel) (by decide +kernel)
theorem tw_106 : (Jvm.Cond.laysFinal "ZSaves$Story" "ZSaves$Story" "head" "[I") ∈ am_T := am_tw 140 (by decide +kernel) (by decide +kernel)
theorem tw_108 : (Jvm.Cond.laysFinal "ZSaves$Story" "ZSaves$Story" "bytes" "[I") ∈ am_T := am_tw 142 (by decide +kernel) (by decide +kernel)
theorem tw_110 : (Jvm.Cond.lays "ZSaves$Story" "ZSaves$Story" "size" "I") ∈ am_T := am_tw 144 (by decide +kernel) (by decide +kernel)
theorem tw_113 : (Jvm.Cond.classLink "ZSaves" (52 : Nat) "ZSaves$Kept") ∈ am_T := am_tw 147 (by decide +kernel) (by decide +kernel)
theorem tw_114 : (Jvm.Cond.instantiable "ZSaves$Kept" (6 : Nat)) ∈ am_T := am_tw 148 (by decide +kernel) (by decide +kernel)
theorem tw_116 : (Jvm.Cond.instanceMethod ({ cls := "ZSaves$Kept", name := "<init>", desc := "()V" } : Jvm.MethodName)) ∈ am_T := am_tw 150 (by decide +kernel) (by decide +kernel)
theorem tw_117 : (Jvm.Cond.code ({ cls := "ZSaves$Kept", name := "<init>", desc := "()V" } : Jvm.MethodName) prog_4_method_1_code (1 : Nat) (Option.none : Option Jvm.ClassFile.FieldType)) ∈ am_T := am_tw 151 (by decide +kernel) (by decide +kernel)
theorem tw_118 : (Jvm.Cond.methodLink "ZSaves$Kept" (3 : Nat) ({ cls := "java/lang/Object", name := "<init>", desc := "()V" } : Jvm.MethodName)) ∈ am_T := am_tw 152 (by decide +kernel) (by decide +kernel)
theorem tw_119 : (Jvm.Cond.classLink "ZSaves$Kept" (9 : Nat) "ZSaves$Bytes") ∈ am_T := am_tw 153 (by decide +kernel) (by decide +kernel)
theorem tw_120 : (Jvm.Cond.methodLink "ZSaves$Kept" (11 : Nat) ({ cls := "ZSaves$Bytes", name := "<init>", desc := "(I)V" } : Jvm.MethodName)) ∈ am_T := am_tw 154 (by decide +kernel) (by decide +kernel)
theorem tw_121 : (Jvm.Cond.fieldLink "ZSaves$Kept" (14 : Nat) "ZSaves$Kept" "rows" "LZSaves$Bytes;") ∈ am_T := am_tw 155 (by decide +kernel) (by decide +kernel)
theorem tw_123 : (Jvm.Cond.fieldLink "ZSaves$Kept" (20 : Nat) "ZSaves$Kept" "runsSizes" "[I") ∈ am_T := am_tw 157 (by decide +kernel) (by decide +kernel)
theorem tw_124 : (Jvm.Cond.fieldLink "ZSaves$Kept" (24 : Nat) "ZSaves$Kept" "sizes" "[I") ∈ am_T := am_tw 158 (by decide +kernel) (by decide +kernel)
theorem tw_125 : (Jvm.Cond.fieldLink "ZSaves$Kept" (27 : Nat) "ZSaves$Kept" "pcs" "[I") ∈ am_T := am_tw 159 (by decide +kernel) (by decide +kernel)
theorem tw_126 : (Jvm.Cond.fieldLink "ZSaves$Kept" (30 : Nat) "ZSaves$Kept" "count" "I") ∈ am_T := am_tw 160 (by decide +kernel) (by decide +kernel)
theorem tw_128 : (Jvm.Cond.fieldLink "ZSaves$Kept" (34 : Nat) "ZSaves$Kept" "limit" "I") ∈ am_T := am_tw 162 (by decide +kernel) (by decide +kernel)
theorem tw_130 : (Jvm.Cond.laysFinal "ZSaves$Kept" "ZSaves$Kept" "rows" "LZSaves$Bytes;") ∈ am_T := am_tw 164 (by decide +kernel) (by decide +kernel)
theorem tw_132 : (Jvm.Cond.laysFinal "ZSaves$Kept" "ZSaves$Kept" "runsSizes" "[I") ∈ am_T := am_tw 166 (by decide +kernel) (by decide +kernel)
theorem tw_134 : (Jvm.Cond.laysFinal "ZSaves$Kept" "ZSaves$Kept" "sizes" "[I") ∈ am_T := am_tw 168 (by decide +kernel) (by decide +kernel)
theorem tw_136 : (Jvm.Cond.laysFinal "ZSaves$Kept" "ZSaves$Kept" "pcs" "[I") ∈ am_T := am_tw 170 (by decide +kernel) (by decide +kernel)
theorem tw_138 : (Jvm.Cond.lays "ZSaves$Kept" "ZSaves$Kept" "count" "I") ∈ am_T := am_tw 172 (by decide +kernel) (by decide +kernel)
theorem tw_140 : (Jvm.Cond.lays "ZSaves$Kept" "ZSaves$Kept" "limit" "I") ∈ am_T := am_tw 174 (by decide +kernel) (by decide +kernel)
theorem tw_143 : (Jvm.Cond.classLink "ZSaves" (59 : Nat) "ZSaves$Session") ∈ am_T := am_tw 177 (by decide +kernel) (by decide +kernel)
theorem tw_144 : (Jvm.Cond.instantiable "ZSaves$Session" (5 : Nat)) ∈ am_T := am_tw 178 (by decide +kernel) (by decide +kernel)
theorem tw_145 : (Jvm.Cond.methodLink "ZSaves" (61 : Nat) ({ cls := "ZSaves$Session", name := "<init>", desc := "()V" } : Jvm.MethodName)) ∈ am_T := am_tw 179 (by decide +kernel) (by decide +kernel)
theorem tw_146 : (Jvm.Cond.instanceMethod ({ cls := "ZSaves$Session", name := "<init>", desc := "()V" } : Jvm.MethodName)) ∈ am_T := am_tw 180 (by decide +kernel) (by decide +kernel)
theorem tw_147 : (Jvm.Cond.code ({ cls := "ZSaves$Session", name := "<init>", desc := "()V" } : Jvm.MethodName) prog_6_method_1_code (2 : Nat) (Option.none : Option Jvm.ClassFile.FieldType)) ∈ am_T := am_tw 181 (by decide +kernel) (by decide +kernel)
theorem tw_148 : (Jvm.Cond.methodLink "ZSaves$Session" (3 : Nat) ({ cls := "java/lang/Object", name := "<init>", desc := "()V" } : Jvm.MethodName)) ∈ am_T := am_tw 182 (by decide +kernel) (by decide +kernel)
theorem tw_149 : (Jvm.Cond.classLink "ZSaves$Session" (15 : Nat) "ZSaves$Frame") ∈ am_T := am_tw 183 (by decide +kernel) (by decide +kernel)
theorem tw_151 : (Jvm.Cond.instantiable "ZSaves$Frame" (6 : Nat)) ∈ am_T := am_tw 185 (by decide +kernel) (by decide +kernel)
theorem tw_153 : (Jvm.Cond.instanceMethod ({ cls := "ZSaves$Frame", name := "<init>", desc := "()V" } : Jvm.MethodName)) ∈ am_T := am_tw 187 (by decide +kernel) (by decide +kernel)
theorem tw_154 : (Jvm.Cond.code ({ cls := "ZSaves$Frame", name := "<init>", desc := "()V" } : Jvm.MethodName) prog_3_method_1_code (1 : Nat) (Option.none : Option Jvm.ClassFile.FieldType)) ∈ am_T := am_tw 188 (by decide +kernel) (by decide +kernel)
theorem tw_155 : (Jvm.Cond.methodLink "ZSaves$Frame" (3 : Nat) ({ cls := "java/lang/Object", name := "<init>", desc := "()V" } : Jvm.MethodName)) ∈ am_T := am_tw 189 (by decide +kernel) (by decide +kernel)
theorem tw_156 : (Jvm.Cond.fieldLink "ZSaves$Frame" (9 : Nat) "ZSaves$Frame" "row" "[I") ∈ am_T := am_tw 190 (by decide +kernel) (by decide +kernel)
theorem tw_157 : (Jvm.Cond.fieldLink "ZSaves$Frame" (15 : Nat) "ZSaves$Frame" "back" "I") ∈ am_T := am_tw 191 (by decide +kernel) (by decide +kernel)
theorem tw_159 : (Jvm.Cond.fieldLink "ZSaves$Frame" (19 : Nat) "ZSaves$Frame" "result" "I") ∈ am_T := am_tw 193 (by decide +kernel) (by decide +kernel)
theorem tw_161 : (Jvm.Cond.fieldLink "ZSaves$Frame" (22 : Nat) "ZSaves$Frame" "arguments" "I") ∈ am_T := am_tw 195 (by decide +kernel) (by decide +kernel)
theorem tw_163 : (Jvm.Cond.fieldLink "ZSaves$Frame" (25 : Nat) "ZSaves$Frame" "locals" "I") ∈ am_T := am_tw 197 (by decide +kernel) (by decide +kernel)
theorem tw_165 : (Jvm.Cond.fieldLink "ZSaves$Frame" (28 : Nat) "ZSaves$Frame" "depth" "I") ∈ am_T := am_tw 199 (by decide +kernel) (by decide +kernel)
theorem tw_167 : (Jvm.Cond.laysFinal "ZSaves$Frame" "ZSaves$Frame" "row" "[I") ∈ am_T := am_tw 201 (by decide +kernel) (by decide +kernel)
theorem tw_169 : (Jvm.Cond.lays "ZSaves$Frame" "ZSaves$Frame" "back" "I") ∈ am_T := am_tw 203 (by decide +kernel) (by decide +kernel)
theorem tw_171 : (Jvm.Cond.lays "ZSaves$Frame" "ZSaves$Frame" "result" "I") ∈ am_T := am_tw 205 (by decide +kernel) (by decide +kernel)
theorem tw_173 : (Jvm.Cond.lays "ZSaves$Frame" "ZSaves$Frame" "arguments" "I") ∈ am_T := am_tw 207 (by decide +kernel) (by decide +kernel)
theorem tw_175 : (Jvm.Cond.lays "ZSaves$Frame" "ZSaves$Frame" "locals" "I") ∈ am_T := am_tw 209 (by decide +kernel) (by decide +kernel)
theorem tw_177 : (Jvm.Cond.lays "ZSaves$Frame" "ZSaves$Frame" "depth" "I") ∈ am_T := am_tw 211 (by decide +kernel) (by decide +kernel)
theorem tw_180 : (Jvm.Cond.fieldLink "ZSaves$Session" (9 : Nat) "ZSaves$Session" "memory" "[I") ∈ am_T := am_tw 214 (by decide +kernel) (by decide +kernel)
theorem tw_181 : (Jvm.Cond.fieldLink "ZSaves$Session" (17 : Nat) "ZSaves$Session" "frames" "[LZSaves$Frame;") ∈ am_T := am_tw 215 (by decide +kernel) (by decide +kernel)
theorem tw_182 : (Jvm.Cond.fieldLink "ZSaves$Session" (21 : Nat) "ZSaves$Session" "size" "I") ∈ am_T := am_tw 216 (by decide +kernel) (by decide +kernel)
theorem tw_185 : (Jvm.Cond.fieldLink "ZSaves$Session" (25 : Nat) "ZSaves$Session" "pc" "I") ∈ am_T := am_tw 219 (by decide +kernel) (by decide +kernel)
theorem tw_189 : (Jvm.Cond.fieldLink "ZSaves$Session" (28 : Nat) "ZSaves$Session" "count" "I") ∈ am_T := am_tw 223 (by decide +kernel) (by decide +kernel)
theorem tw_191 : (Jvm.Cond.laysFinal "ZSaves$Session" "ZSaves$Session" "memory" "[I") ∈ am_T := am_tw 225 (by decide +kernel) (by decide +kernel)
theorem tw_193 : (Jvm.Cond.laysFinal "ZSaves$Session" "ZSaves$Session" "frames" "[LZSaves$Frame;") ∈ am_T := am_tw 227 (by decide +kernel) (by decide +kernel)
theorem tw_195 : (Jvm.Cond.lays "ZSaves$Session" "ZSaves$Session" "size" "I") ∈ am_T := am_tw 229 (by decide +kernel) (by decide +kernel)
theorem tw_197 : (Jvm.Cond.lays "ZSaves$Session" "ZSaves$Session" "pc" "I") ∈ am_T := am_tw 231 (by decide +kernel) (by decide +kernel)
theorem tw_199 : (Jvm.Cond.lays "ZSaves$Session" "ZSaves$Session" "count" "I") ∈ am_T := am_tw 233 (by decide +kernel) (by decide +kernel)
theorem tw_202 : (Jvm.Cond.classLink "ZSaves" (69 : Nat) "ZSaves$Strangers") ∈ am_T := am_tw 236 (by decide +kernel) (by decide +kernel)
theorem tw_203 : (Jvm.Cond.instantiable "ZSaves$Strangers" (4 : Nat)) ∈ am_T := am_tw 237 (by decide +kernel) (by decide +kernel)
theorem tw_205 : (Jvm.Cond.instanceMethod ({ cls := "ZSaves$Strangers", name := "<init>", desc := "()V" } : Jvm.MethodName)) ∈ am_T := am_tw 239 (by decide +kernel) (by decide +kernel)
theorem tw_206 : (Jvm.Cond.code ({ cls := "ZSaves$Strangers", name := "<init>", desc := "()V" } : Jvm.MethodName) prog_8_method_1_code (1 : Nat) (Option.none : Option Jvm.ClassFile.FieldType)) ∈ am_T := am_tw 240 (by decide +kernel) (by decide +kernel)
theorem tw_207 : (Jvm.Cond.methodLink "ZSaves$Strangers" (3 : Nat) ({ cls := "java/lang/Object", name := "<init>", desc := "()V" } : Jvm.MethodName)) ∈ am_T := am_tw 241 (by decide +kernel) (by decide +kernel)
theorem tw_208 : (Jvm.Cond.classLink "ZSaves$Strangers" (9 : Nat) "ZSaves$Bytes") ∈ am_T := am_tw 242 (by decide +kernel) (by decide +kernel)
theorem tw_209 : (Jvm.Cond.methodLink "ZSaves$Strangers" (11 : Nat) ({ cls := "ZSaves$Bytes", name := "<init>", desc := "(I)V" } : Jvm.MethodName)) ∈ am_T := am_tw 243 (by decide +kernel) (by decide +kernel)
theorem tw_210 : (Jvm.Cond.fieldLink "ZSaves$Strangers" (14 : Nat) "ZSaves$Strangers" "rows" "LZSaves$Bytes;") ∈ am_T := am_tw 244 (by decide +kernel) (by decide +kernel)
theorem tw_212 : (Jvm.Cond.fieldLink "ZSaves$Strangers" (20 : Nat) "ZSaves$Strangers" "names" "[I") ∈ am_T := am_tw 246 (by decide +kernel) (by decide +kernel)
theorem tw_214 : (Jvm.Cond.fieldLink "ZSaves$Strangers" (24 : Nat) "ZSaves$Strangers" "sizes" "[I") ∈ am_T := am_tw 248 (by decide +kernel) (by decide +kernel)
theorem tw_216 : (Jvm.Cond.fieldLink "ZSaves$Strangers" (27 : Nat) "ZSaves$Strangers" "count" "I") ∈ am_T := am_tw 250 (by decide +kernel) (by decide +kernel)
theorem tw_219 : (Jvm.Cond.laysFinal "ZSaves$Strangers" "ZSaves$Strangers" "rows" "LZSaves$Bytes;") ∈ am_T := am_tw 253 (by decide +kernel) (by decide +kernel)
theorem tw_221 : (Jvm.Cond.laysFinal "ZSaves$Strangers" "ZSaves$Strangers" "names" "[I") ∈ am_T := am_tw 255 (by decide +kernel) (by decide +kernel)
theorem tw_223 : (Jvm.Cond.laysFinal "ZSaves$Strangers" "ZSaves$Strangers" "sizes" "[I") ∈ am_T := am_tw 257 (by decide +kernel) (by decide +kernel)
theorem tw_225 : (Jvm.Cond.lays "ZSaves$Strangers" "ZSaves$Strangers" "count" "I") ∈ am_T := am_tw 259 (by decide +kernel) (by decide +kernel)
theorem tw_228 : (Jvm.Cond.fieldLink "ZSaves" (12 : Nat) "ZSaves" "reader" "LZSaves$Reader;") ∈ am_T := am_tw 262 (by decide +kernel) (by decide +kernel)
theorem tw_229 : (Jvm.Cond.fieldLink "ZSaves" (19 : Nat) "ZSaves" "writer" "LZSaves$Writer;") ∈ am_T := am_tw 263 (by decide +kernel) (by decide +kernel)
theorem tw_230 : (Jvm.Cond.fieldLink "ZSaves" (27 : Nat) "ZSaves" "tape" "LZSaves$Bytes;") ∈ am_T := am_tw 264 (by decide +kernel) (by decide +kernel)
theorem tw_231 : (Jvm.Cond.fieldLink "ZSaves" (31 : Nat) "ZSaves" "output" "LZSaves$Bytes;") ∈ am_T := am_tw 265 (by decide +kernel) (by decide +kernel)
theorem tw_232 : (Jvm.Cond.fieldLink "ZSaves" (39 : Nat) "ZSaves" "disk" "LZSaves$Bytes;") ∈ am_T := am_tw 266 (by decide +kernel) (by decide +kernel)
theorem tw_233 : (Jvm.Cond.fieldLink "ZSaves" (42 : Nat) "ZSaves" "work" "LZSaves$Bytes;") ∈ am_T := am_tw 267 (by decide +kernel) (by decide +kernel)
theorem tw_234 : (Jvm.Cond.fieldLink "ZSaves" (48 : Nat) "ZSaves" "tale" "LZSaves$Story;") ∈ am_T := am_tw 268 (by decide +kernel) (by decide +kernel)
theorem tw_235 : (Jvm.Cond.fieldLink "ZSaves" (55 : Nat) "ZSaves" "kept" "LZSaves$Kept;") ∈ am_T := am_tw 269 (by decide +kernel) (by decide +kernel)
theorem tw_236 : (Jvm.Cond.fieldLink "ZSaves" (62 : Nat) "ZSaves" "now" "LZSaves$Session;") ∈ am_T := am_tw 270 (by decide +kernel) (by decide +kernel)
theorem tw_237 : (Jvm.Cond.fieldLink "ZSaves" (66 : Nat) "ZSaves" "spare" "LZSaves$Session;") ∈ am_T := am_tw 271 (by decide +kernel) (by decide +kernel)
theorem tw_238 : (Jvm.Cond.fieldLink "ZSaves" (72 : Nat) "ZSaves" "known" "LZSaves$Strangers;") ∈ am_T := am_tw 272 (by decide +kernel) (by decide +kernel)
theorem tw_239 : (Jvm.Cond.fieldLink "ZSaves" (76 : Nat) "ZSaves" "coming" "LZSaves$Strangers;") ∈ am_T := am_tw 273 (by decide +kernel) (by decide +kernel)
theorem tw_240 : (Jvm.Cond.fieldLink "ZSaves" (79 : Nat) "ZSaves" "written" "Z") ∈ am_T := am_tw 274 (by decide +kernel) (by decide +kernel)
theorem tw_241 : (Jvm.Cond.fieldLink "ZSaves" (83 : Nat) "ZSaves" "cutAt" "I") ∈ am_T := am_tw 275 (by decide +kernel) (by decide +kernel)
theorem tw_242 : (Jvm.Cond.fieldLink "ZSaves" (87 : Nat) "ZSaves" "faultCode" "I") ∈ am_T := am_tw 276 (by decide +kernel) (by decide +kernel)
theorem tw_243 : (Jvm.Cond.fieldLink "ZSaves" (90 : Nat) "ZSaves" "faultPlace" "I") ∈ am_T := am_tw 277 (by decide +kernel) (by decide +kernel)
theorem tw_244 : (Jvm.Cond.laysFinal "ZSaves" "ZSaves" "reader" "LZSaves$Reader;") ∈ am_T := am_tw 278 (by decide +kernel) (by decide +kernel)
theorem tw_246 : (Jvm.Cond.laysFinal "ZSaves" "ZSaves" "writer" "LZSaves$Writer;") ∈ am_T := am_tw 280 (by decide +kernel) (by decide +kernel)
theorem tw_248 : (Jvm.Cond.laysFinal "ZSaves" "ZSaves" "tape" "LZSaves$Bytes;") ∈ am_T := am_tw 282 (by decide +kernel) (by decide +kernel)
theorem tw_250 : (Jvm.Cond.laysFinal "ZSaves" "ZSaves" "output" "LZSaves$Bytes;") ∈ am_T := am_tw 284 (by decide +kernel) (by decide +kernel)
theorem tw_252 : (Jvm.Cond.laysFinal "ZSaves" "ZSaves" "disk" "LZSaves$Bytes;") ∈ am_T := am_tw 286 (by decide +kernel) (by decide +kernel)
theorem tw_254 : (Jvm.Cond.laysFinal "ZSaves" "ZSaves" "work" "LZSaves$Bytes;") ∈ am_T := am_tw 288 (by decide +kernel) (by decide +kernel)
theorem tw_256 : (Jvm.Cond.laysFinal "ZSaves" "ZSaves" "tale" "LZSaves$Story;") ∈ am_T := am_tw 290 (by decide +kernel) (by decide +kernel)
theorem tw_258 : (Jvm.Cond.laysFinal "ZSaves" "ZSaves" "kept" "LZSaves$Kept;") ∈ am_T := am_tw 292 (by decide +kernel) (by decide +kernel)
theorem tw_260 : (Jvm.Cond.lays "ZSaves" "ZSaves" "now" "LZSaves$Session;") ∈ am_T := am_tw 294 (by decide +kernel) (by decide +kernel)
theorem tw_262 : (Jvm.Cond.lays "ZSaves" "ZSaves" "spare" "LZSaves$Session;") ∈ am_T := am_tw 296 (by decide +kernel) (by decide +kernel)
theorem tw_264 : (Jvm.Cond.lays "ZSaves" "ZSaves" "known" "LZSaves$Strangers;") ∈ am_T := am_tw 298 (by decide +kernel) (by decide +kernel)
theorem tw_266 : (Jvm.Cond.lays "ZSaves" "ZSaves" "coming" "LZSaves$Strangers;") ∈ am_T := am_tw 300 (by decide +kernel) (by decide +kernel)
theorem tw_268 : (Jvm.Cond.lays "ZSaves" "ZSaves" "written" "Z") ∈ am_T := am_tw 302 (by decide +kernel) (by decide +kernel)
theorem tw_270 : (Jvm.Cond.lays "ZSaves" "ZSaves" "cutAt" "I") ∈ am_T := am_tw 304 (by decide +kernel) (by decide +kernel)
theorem tw_272 : (Jvm.Cond.lays "ZSaves" "ZSaves" "faultCode" "I") ∈ am_T := am_tw 306 (by decide +kernel) (by decide +kernel)
theorem tw_274 : (Jvm.Cond.lays "ZSaves" "ZSaves" "faultPlace" "I") ∈ am_T := am_tw 308 (by decide +kernel) (by decide +kernel)
theorem tw_277 : (Jvm.Cond.methodLink "ZSavesLaw" (13 : Nat) ({ cls := "ZSaves", name := "feed", desc := "(IIIII)I" } : Jvm.MethodName)) ∈ am_T := am_tw 311 (by decide +kernel) (by decide +kernel)
theorem tw_278 : (Jvm.Cond.instanceMethod ({ cls := "ZSaves", name := "feed", desc := "(IIIII)I" } : Jvm.MethodName)) ∈ am_T := am_tw 312 (by decide +kernel) (by decide +kernel)
theorem tw_279 : (Jvm.Cond.selects "ZSaves" ({ cls := "ZSaves", name := "feed", desc := "(IIIII)I" } : Jvm.MethodName) ({ cls := "ZSaves", name := "feed", desc := "(IIIII)I" } : Jvm.MethodName)) ∈ am_T := am_tw 313 (by decide +kernel) (by decide +kernel)
theorem tw_280 : (Jvm.Cond.code ({ cls := "ZSaves", name := "feed", desc := "(IIIII)I" } : Jvm.MethodName) prog_1_method_2_code (6 : Nat) (Option.some Jvm.ClassFile.FieldType.int)) ∈ am_T := am_tw 314 (by decide +kernel) (by decide +kernel)
theorem tw_281 : (Jvm.Cond.methodLink "ZSaves" (93 : Nat) ({ cls := "ZSaves$Bytes", name := "room", desc := "()I" } : Jvm.MethodName)) ∈ am_T := am_tw 315 (by decide +kernel) (by decide +kernel)
theorem tw_282 : (Jvm.Cond.instanceMethod ({ cls := "ZSaves$Bytes", name := "room", desc := "()I" } : Jvm.MethodName)) ∈ am_T := am_tw 316 (by decide +kernel) (by decide +kernel)
theorem tw_283 : (Jvm.Cond.selects "ZSaves$Bytes" ({ cls := "ZSaves$Bytes", name := "room", desc := "()I" } : Jvm.MethodName) ({ cls := "ZSaves$Bytes", name := "room", desc := "()I" } : Jvm.MethodName)) ∈ am_T := am_tw 317 (by decide +kernel) (by decide +kernel)
theorem tw_284 : (Jvm.Cond.code ({ cls := "ZSaves$Bytes", name := "room", desc := "()I" } : Jvm.MethodName) prog_2_method_2_code (1 : Nat) (Option.some Jvm.ClassFile.FieldType.int)) ∈ am_T := am_tw 318 (by decide +kernel) (by decide +kernel)
theorem tw_285 : (Jvm.Cond.methodLink "ZSaves" (97 : Nat) ({ cls := "ZSaves$Bytes", name := "addNumber", desc := "(II)V" } : Jvm.MethodName)) ∈ am_T := am_tw 319 (by decide +kernel) (by decide +kernel)
theorem tw_286 : (Jvm.Cond.instanceMethod ({ cls := "ZSaves$Bytes", name := "addNumber", desc := "(II)V" } : Jvm.MethodName)) ∈ am_T := am_tw 320 (by decide +kernel) (by decide +kernel)
theorem tw_287 : (Jvm.Cond.selects "ZSaves$Bytes" ({ cls := "ZSaves$Bytes", name := "addNumber", desc := "(II)V" } : Jvm.MethodName) ({ cls := "ZSaves$Bytes", name := "addNumber", desc := "(II)V" } : Jvm.MethodName)) ∈ am_T := am_tw 321 (by decide +kernel) (by decide +kernel)
theorem tw_288 : (Jvm.Cond.code ({ cls := "ZSaves$Bytes", name := "addNumber", desc := "(II)V" } : Jvm.MethodName) prog_2_method_6_code (4 : Nat) (Option.none : Option Jvm.ClassFile.FieldType)) ∈ am_T := am_tw 322 (by decide +kernel) (by decide +kernel)
theorem tw_289 : (Jvm.Cond.methodLink "ZSaves$Bytes" (29 : Nat) ({ cls := "ZSaves$Bytes", name := "add", desc := "(I)V" } : Jvm.MethodName)) ∈ am_T := am_tw 323 (by decide +kernel) (by decide +kernel)
theorem tw_290 : (Jvm.Cond.instanceMethod ({ cls := "ZSaves$Bytes", name := "add", desc := "(I)V" } : Jvm.MethodName)) ∈ am_T := am_tw 324 (by decide +kernel) (by decide +kernel)
theorem tw_291 : (Jvm.Cond.selects "ZSaves$Bytes" ({ cls := "ZSaves$Bytes", name := "add", desc := "(I)V" } : Jvm.MethodName) ({ cls := "ZSaves$Bytes", name := "add", desc := "(I)V" } : Jvm.MethodName)) ∈ am_T := am_tw 325 (by decide +kernel) (by decide +kernel)
theorem tw_292 : (Jvm.Cond.code ({ cls := "ZSaves$Bytes", name := "add", desc := "(I)V" } : Jvm.MethodName) prog_2_method_5_code (2 : Nat) (Option.none : Option Jvm.ClassFile.FieldType)) ∈ am_T := am_tw 326 (by decide +kernel) (by decide +kernel)
theorem tw_293 : (Jvm.Cond.methodLink "ZSavesLaw" (18 : Nat) ({ cls := "ZSaves", name := "end", desc := "(I)I" } : Jvm.MethodName)) ∈ am_T := am_tw 327 (by decide +kernel) (by decide +kernel)
theorem tw_294 : (Jvm.Cond.instanceMethod ({ cls := "ZSaves", name := "end", desc := "(I)I" } : Jvm.MethodName)) ∈ am_T := am_tw 328 (by decide +kernel) (by decide +kernel)
theorem tw_295 : (Jvm.Cond.selects "ZSaves" ({ cls := "ZSaves", name := "end", desc := "(I)I" } : Jvm.MethodName) ({ cls := "ZSaves", name := "end", desc := "(I)I" } : Jvm.MethodName)) ∈ am_T := am_tw 329 (by decide +kernel) (by decide +kernel)
theorem tw_296 : (Jvm.Cond.code ({ cls := "ZSaves", name := "end", desc := "(I)I" } : Jvm.MethodName) prog_1_method_3_code (3 : Nat) (Option.some Jvm.ClassFile.FieldType.int)) ∈ am_T := am_tw 330 (by decide +kernel) (by decide +kernel)
theorem tw_297 : (Jvm.Cond.methodLink "ZSaves" (104 : Nat) ({ cls := "ZSaves", name := "within", desc := "(II)Z" } : Jvm.MethodName)) ∈ am_T := am_tw 331 (by decide +kernel) (by decide +kernel)
theorem tw_298 : (Jvm.Cond.static ({ cls := "ZSaves", name := "within", desc := "(II)Z" } : Jvm.MethodName)) ∈ am_T := am_tw 332 (by decide +kernel) (by decide +kernel)
theorem tw_299 : (Jvm.Cond.code ({ cls := "ZSaves", name := "within", desc := "(II)Z" } : Jvm.MethodName) prog_1_method_30_code (2 : Nat) (Option.some Jvm.ClassFile.FieldType.boolean)) ∈ am_T := am_tw 333 (by decide +kernel) (by decide +kernel)
theorem tw_300 : (Jvm.Cond.methodLink "ZSaves" (108 : Nat) ({ cls := "ZSaves$Bytes", name := "keepFirst", desc := "(I)V" } : Jvm.MethodName)) ∈ am_T := am_tw 334 (by decide +kernel) (by decide +kernel)
theorem tw_301 : (Jvm.Cond.instanceMethod ({ cls := "ZSaves$Bytes", name := "keepFirst", desc := "(I)V" } : Jvm.MethodName)) ∈ am_T := am_tw 335 (by decide +kernel) (by decide +kernel)
theorem tw_302 : (Jvm.Cond.selects "ZSaves$Bytes" ({ cls := "ZSaves$Bytes", name := "keepFirst", desc := "(I)V" } : Jvm.MethodName) ({ cls := "ZSaves$Bytes", name := "keepFirst", desc := "(I)V" } : Jvm.MethodName)) ∈ am_T := am_tw 336 (by decide +kernel) (by decide +kernel)
theorem tw_303 : (Jvm.Cond.code ({ cls := "ZSaves$Bytes", name := "keepFirst", desc := "(I)V" } : Jvm.MethodName) prog_2_method_10_code (2 : Nat) (Option.none : Option Jvm.ClassFile.FieldType)) ∈ am_T := am_tw 337 (by decide +kernel) (by decide +kernel)
theorem tw_304 : (Jvm.Cond.methodLink "ZSavesLaw" (23 : Nat) ({ cls := "ZSaves", name := "out", desc := "(I)I" } : Jvm.MethodName)) ∈ am_T := am_tw 338 (by decide +kernel) (by decide +kernel)
theorem tw_305 : (Jvm.Cond.instanceMethod ({ cls := "ZSaves", name := "out", desc := "(I)I" } : Jvm.MethodName)) ∈ am_T := am_tw 339 (by decide +kernel) (by decide +kernel)
theorem tw_306 : (Jvm.Cond.selects "ZSaves" ({ cls := "ZSaves", name := "out", desc := "(I)I" } : Jvm.MethodName) ({ cls := "ZSaves", name := "out", desc := "(I)I" } : Jvm.MethodName)) ∈ am_T := am_tw 340 (by decide +kernel) (by decide +kernel)
theorem tw_307 : (Jvm.Cond.code ({ cls := "ZSaves", name := "out", desc := "(I)I" } : Jvm.MethodName) prog_1_method_4_code (2 : Nat) (Option.some Jvm.ClassFile.FieldType.int)) ∈ am_T := am_tw 341 (by decide +kernel) (by decide +kernel)
theorem tw_308 : (Jvm.Cond.methodLink "ZSaves" (111 : Nat) ({ cls := "ZSaves$Bytes", name := "at", desc := "(I)I" } : Jvm.MethodName)) ∈ am_T := am_tw 342 (by decide +kernel) (by decide +kernel)
theorem tw_309 : (Jvm.Cond.instanceMethod ({ cls := "ZSaves$Bytes", name := "at", desc := "(I)I" } : Jvm.MethodName)) ∈ am_T := am_tw 343 (by decide +kernel) (by decide +kernel)
theorem tw_310 : (Jvm.Cond.selects "ZSaves$Bytes" ({ cls := "ZSaves$Bytes", name := "at", desc := "(I)I" } : Jvm.MethodName) ({ cls := "ZSaves$Bytes", name := "at", desc := "(I)I" } : Jvm.MethodName)) ∈ am_T := am_tw 344 (by decide +kernel) (by decide +kernel)
theorem tw_311 : (Jvm.Cond.code ({ cls := "ZSaves$Bytes", name := "at", desc := "(I)I" } : Jvm.MethodName) prog_2_method_3_code (2 : Nat) (Option.some Jvm.ClassFile.FieldType.int)) ∈ am_T := am_tw 345 (by decide +kernel) (by decide +kernel)
theorem tw_312 : (Jvm.Cond.methodLink "ZSavesLaw" (27 : Nat) ({ cls := "ZSaves", name := "back", desc := "()I" } : Jvm.MethodName)) ∈ am_T := am_tw 346 (by decide +kernel) (by decide +kernel)
theorem tw_313 : (Jvm.Cond.instanceMethod ({ cls := "ZSaves", name := "back", desc := "()I" } : Jvm.MethodName)) ∈ am_T := am_tw 347 (by decide +kernel) (by decide +kernel)
theorem tw_314 : (Jvm.Cond.selects "ZSaves" ({ cls := "ZSaves", name := "back", desc := "()I" } : Jvm.MethodName) ({ cls := "ZSaves", name := "back", desc := "()I" } : Jvm.MethodName)) ∈ am_T := am_tw 348 (by decide +kernel) (by decide +kernel)
theorem tw_315 : (Jvm.Cond.code ({ cls := "ZSaves", name := "back", desc := "()I" } : Jvm.MethodName) prog_1_method_5_code (1 : Nat) (Option.some Jvm.ClassFile.FieldType.int)) ∈ am_T := am_tw 349 (by decide +kernel) (by decide +kernel)
theorem tw_316 : (Jvm.Cond.methodLink "ZSaves" (115 : Nat) ({ cls := "ZSaves", name := "fillTape", desc := "(LZSaves$Bytes;)I" } : Jvm.MethodName)) ∈ am_T := am_tw 350 (by decide +kernel) (by decide +kernel)
theorem tw_318 : (Jvm.Cond.instanceMethod ({ cls := "ZSaves", name := "fillTape", desc := "(LZSaves$Bytes;)I" } : Jvm.MethodName)) ∈ am_T := am_tw 352 (by decide +kernel) (by decide +kernel)
theorem tw_319 : (Jvm.Cond.code ({ cls := "ZSaves", name := "fillTape", desc := "(LZSaves$Bytes;)I" } : Jvm.MethodName) prog_1_method_32_code (2 : Nat) (Option.some Jvm.ClassFile.FieldType.int)) ∈ am_T := am_tw 353 (by decide +kernel) (by decide +kernel)
theorem tw_320 : (Jvm.Cond.methodLink "ZSaves" (246 : Nat) ({ cls := "ZSaves$Bytes", name := "copyOf", desc := "(LZSaves$Bytes;)V" } : Jvm.MethodName)) ∈ am_T := am_tw 354 (by decide +kernel) (by decide +kernel)
theorem tw_321 : (Jvm.Cond.instanceMethod ({ cls := "ZSaves$Bytes", name := "copyOf", desc := "(LZSaves$Bytes;)V" } : Jvm.MethodName)) ∈ am_T := am_tw 355 (by decide +kernel) (by decide +kernel)
theorem tw_322 : (Jvm.Cond.selects "ZSaves$Bytes" ({ cls := "ZSaves$Bytes", name := "copyOf", desc := "(LZSaves$Bytes;)V" } : Jvm.MethodName) ({ cls := "ZSaves$Bytes", name := "copyOf", desc := "(LZSaves$Bytes;)V" } : Jvm.MethodName)) ∈ am_T := am_tw 356 (by decide +kernel) (by decide +kernel)
theorem tw_323 : (Jvm.Cond.code ({ cls := "ZSaves$Bytes", name := "copyOf", desc := "(LZSaves$Bytes;)V" } : Jvm.MethodName) prog_2_method_9_code (2 : Nat) (Option.none : Option Jvm.ClassFile.FieldType)) ∈ am_T := am_tw 357 (by decide +kernel) (by decide +kernel)
theorem tw_324 : (Jvm.Cond.methodLink "ZSaves$Bytes" (43 : Nat) ({ cls := "ZSaves$Bytes", name := "clear", desc := "()V" } : Jvm.MethodName)) ∈ am_T := am_tw 358 (by decide +kernel) (by decide +kernel)
theorem tw_325 : (Jvm.Cond.instanceMethod ({ cls := "ZSaves$Bytes", name := "clear", desc := "()V" } : Jvm.MethodName)) ∈ am_T := am_tw 359 (by decide +kernel) (by decide +kernel)
theorem tw_326 : (Jvm.Cond.selects "ZSaves$Bytes" ({ cls := "ZSaves$Bytes", name := "clear", desc := "()V" } : Jvm.MethodName) ({ cls := "ZSaves$Bytes", name := "clear", desc := "()V" } : Jvm.MethodName)) ∈ am_T := am_tw 360 (by decide +kernel) (by decide +kernel)
theorem tw_327 : (Jvm.Cond.code ({ cls := "ZSaves$Bytes", name := "clear", desc := "()V" } : Jvm.MethodName) prog_2_method_12_code (1 : Nat) (Option.none : Option Jvm.ClassFile.FieldType)) ∈ am_T := am_tw 361 (by decide +kernel) (by decide +kernel)
theorem tw_328 : (Jvm.Cond.methodLink "ZSaves$Bytes" (46 : Nat) ({ cls := "ZSaves$Bytes", name := "addPart", desc := "(LZSaves$Bytes;II)V" } : Jvm.MethodName)) ∈ am_T := am_tw 362 (by decide +kernel) (by decide +kernel)
theorem tw_329 : (Jvm.Cond.instanceMethod ({ cls := "ZSaves$Bytes", name := "addPart", desc := "(LZSaves$Bytes;II)V" } : Jvm.MethodName)) ∈ am_T := am_tw 363 (by decide +kernel) (by decide +kernel)
theorem tw_330 : (Jvm.Cond.selects "ZSaves$Bytes" ({ cls := "ZSaves$Bytes", name := "addPart", desc := "(LZSaves$Bytes;II)V" } : Jvm.MethodName) ({ cls := "ZSaves$Bytes", name := "addPart", desc := "(LZSaves$Bytes;II)V" } : Jvm.MethodName)) ∈ am_T := am_tw 364 (by decide +kernel) (by decide +kernel)
theorem tw_331 : (Jvm.Cond.code ({ cls := "ZSaves$Bytes", name := "addPart", desc := "(LZSaves$Bytes;II)V" } : Jvm.MethodName) prog_2_method_7_code (4 : Nat) (Option.none : Option Jvm.ClassFile.FieldType)) ∈ am_T := am_tw 365 (by decide +kernel) (by decide +kernel)
theorem tw_332 : (Jvm.Cond.methodLink "ZSaves$Bytes" (33 : Nat) ({ cls := "ZSaves$Bytes", name := "room", desc := "()I" } : Jvm.MethodName)) ∈ am_T := am_tw 366 (by decide +kernel) (by decide +kernel)
theorem tw_333 : (Jvm.Cond.methodLink "ZSaves$Bytes" (37 : Nat) ({ cls := "java/lang/System", name := "arraycopy", desc := "(Ljava/lang/Object;ILjava/lang/Object;II)V" } : Jvm.MethodName)) ∈ am_T := am_tw 367 (by decide +kernel) (by decide +kernel)
theorem tw_334 : (Jvm.Cond.static ({ cls := "java/lang/System", name := "arraycopy", desc := "(Ljava/lang/Object;ILjava/lang/Object;II)V" } : Jvm.MethodName)) ∈ am_T := am_tw 368 (by decide +kernel) (by decide +kernel)
theorem tw_335 : (Jvm.Cond.native ({ cls := "java/lang/System", name := "arraycopy", desc := "(Ljava/lang/Object;ILjava/lang/Object;II)V" } : Jvm.MethodName)) ∈ am_T := am_tw 369 (by decide +kernel) (by decide +kernel)
theorem tw_336 : (Jvm.Cond.methodLink "ZSavesLaw" (32 : Nat) ({ cls := "ZSaves", name := "story", desc := "()I" } : Jvm.MethodName)) ∈ am_T := am_tw 370 (by decide +kernel) (by decide +kernel)
theorem tw_337 : (Jvm.Cond.instanceMethod ({ cls := "ZSaves", name := "story", desc := "()I" } : Jvm.MethodName)) ∈ am_T := am_tw 371 (by decide +kernel) (by decide +kernel)
theorem tw_338 : (Jvm.Cond.selects "ZSaves" ({ cls := "ZSaves", name := "story", desc := "()I" } : Jvm.MethodName) ({ cls := "ZSaves", name := "story", desc := "()I" } : Jvm.MethodName)) ∈ am_T := am_tw 372 (by decide +kernel) (by decide +kernel)
theorem tw_339 : (Jvm.Cond.code ({ cls := "ZSaves", name := "story", desc := "()I" } : Jvm.MethodName) prog_1_method_6_code (3 : Nat) (Option.some Jvm.ClassFile.FieldType.int)) ∈ am_T := am_tw 373 (by decide +kernel) (by decide +kernel)
theorem tw_340 : (Jvm.Cond.methodLink "ZSaves" (119 : Nat) ({ cls := "ZSaves$Story", name := "takeFrom", desc := "(LZSaves$Bytes;)V" } : Jvm.MethodName)) ∈ am_T := am_tw 374 (by decide +kernel) (by decide +kernel)
theorem tw_341 : (Jvm.Cond.instanceMethod ({ cls := "ZSaves$Story", name := "takeFrom", desc := "(LZSaves$Bytes;)V" } : Jvm.MethodName)) ∈ am_T := am_tw 375 (by decide +kernel) (by decide +kernel)
theorem tw_342 : (Jvm.Cond.selects "ZSaves$Story" ({ cls := "ZSaves$Story", name := "takeFrom", desc := "(LZSaves$Bytes;)V" } : Jvm.MethodName) ({ cls := "ZSaves$Story", name := "takeFrom", desc := "(LZSaves$Bytes;)V" } : Jvm.MethodName)) ∈ am_T := am_tw 376 (by decide +kernel) (by decide +kernel)
theorem tw_343 : (Jvm.Cond.code ({ cls := "ZSaves$Story", name := "takeFrom", desc := "(LZSaves$Bytes;)V" } : Jvm.MethodName) prog_7_method_2_code (3 : Nat) (Option.none : Option Jvm.ClassFile.FieldType)) ∈ am_T := am_tw 377 (by decide +kernel) (by decide +kernel)
theorem tw_344 : (Jvm.Cond.methodLink "ZSaves$Story" (22 : Nat) ({ cls := "ZSaves$Bytes", name := "at", desc := "(I)I" } : Jvm.MethodName)) ∈ am_T := am_tw 378 (by decide +kernel) (by decide +kernel)
theorem tw_345 : (Jvm.Cond.methodLink "ZSaves$Story" (29 : Nat) ({ cls := "java/lang/Math", name := "min", desc := "(II)I" } : Jvm.MethodName)) ∈ am_T := am_tw 379 (by decide +kernel) (by decide +kernel)
theorem tw_346 : (Jvm.Cond.static ({ cls := "java/lang/Math", name := "min", desc := "(II)I" } : Jvm.MethodName)) ∈ am_T := am_tw 380 (by decide +kernel) (by decide +kernel)
theorem tw_347 : (Jvm.Cond.code ({ cls := "java/lang/Math", name := "min", desc := "(II)I" } : Jvm.MethodName) prog_13_method_69_code (2 : Nat) (Option.some Jvm.ClassFile.FieldType.int)) ∈ am_T := am_tw 381 (by decide +kernel) (by decide +kernel)
theorem tw_348 : (Jvm.Cond.methodLink "ZSaves$Story" (35 : Nat) ({ cls := "java/lang/Math", name := "max", desc := "(II)I" } : Jvm.MethodName)) ∈ am_T := am_tw 382 (by decide +kernel) (by decide +kernel)
theorem tw_349 : (Jvm.Cond.methodLink "ZSaves" (123 : Nat) ({ cls := "ZSaves$Session", name := "begin", desc := "(LZSaves$Story;)V" } : Jvm.MethodName)) ∈ am_T := am_tw 383 (by decide +kernel) (by decide +kernel)
theorem tw_350 : (Jvm.Cond.instanceMethod ({ cls := "ZSaves$Session", name := "begin", desc := "(LZSaves$Story;)V" } : Jvm.MethodName)) ∈ am_T := am_tw 384 (by decide +kernel) (by decide +kernel)
theorem tw_351 : (Jvm.Cond.selects "ZSaves$Session" ({ cls := "ZSaves$Session", name := "begin", desc := "(LZSaves$Story;)V" } : Jvm.MethodName) ({ cls := "ZSaves$Session", name := "begin", desc := "(LZSaves$Story;)V" } : Jvm.MethodName)) ∈ am_T := am_tw 385 (by decide +kernel) (by decide +kernel)
theorem tw_352 : (Jvm.Cond.code ({ cls := "ZSaves$Session", name := "begin", desc := "(LZSaves$Story;)V" } : Jvm.MethodName) prog_6_method_2_code (3 : Nat) (Option.none : Option Jvm.ClassFile.FieldType)) ∈ am_T := am_tw 386 (by decide +kernel) (by decide +kernel)
theorem tw_353 : (Jvm.Cond.methodLink "ZSaves$Session" (35 : Nat) ({ cls := "ZSaves$Story", name := "byteAt", desc := "(I)I" } : Jvm.MethodName)) ∈ am_T := am_tw 387 (by decide +kernel) (by decide +kernel)
theorem tw_354 : (Jvm.Cond.instanceMethod ({ cls := "ZSaves$Story", name := "byteAt", desc := "(I)I" } : Jvm.MethodName)) ∈ am_T := am_tw 388 (by decide +kernel) (by decide +kernel)
theorem tw_355 : (Jvm.Cond.selects "ZSaves$Story" ({ cls := "ZSaves$Story", name := "byteAt", desc := "(I)I" } : Jvm.MethodName) ({ cls := "ZSaves$Story", name := "byteAt", desc := "(I)I" } : Jvm.MethodName)) ∈ am_T := am_tw 389 (by decide +kernel) (by decide +kernel)
theorem tw_356 : (Jvm.Cond.code ({ cls := "ZSaves$Story", name := "byteAt", desc := "(I)I" } : Jvm.MethodName) prog_7_method_3_code (2 : Nat) (Option.some Jvm.ClassFile.FieldType.int)) ∈ am_T := am_tw 390 (by decide +kernel) (by decide +kernel)
theorem tw_357 : (Jvm.Cond.methodLink "ZSaves$Session" (39 : Nat) ({ cls := "ZSaves$Session", name := "setByte", desc := "(II)V" } : Jvm.MethodName)) ∈ am_T := am_tw 391 (by decide +kernel) (by decide +kernel)
theorem tw_358 : (Jvm.Cond.instanceMethod ({ cls := "ZSaves$Session", name := "setByte", desc := "(II)V" } : Jvm.MethodName)) ∈ am_T := am_tw 392 (by decide +kernel) (by decide +kernel)
theorem tw_359 : (Jvm.Cond.selects "ZSaves$Session" ({ cls := "ZSaves$Session", name := "setByte", desc := "(II)V" } : Jvm.MethodName) ({ cls := "ZSaves$Session", name := "setByte", desc := "(II)V" } : Jvm.MethodName)) ∈ am_T := am_tw 393 (by decide +kernel) (by decide +kernel)
theorem tw_360 : (Jvm.Cond.code ({ cls := "ZSaves$Session", name := "setByte", desc := "(II)V" } : Jvm.MethodName) prog_6_method_4_code (3 : Nat) (Option.none : Option Jvm.ClassFile.FieldType)) ∈ am_T := am_tw 394 (by decide +kernel) (by decide +kernel)
theorem tw_361 : (Jvm.Cond.methodLink "ZSaves$Session" (43 : Nat) ({ cls := "ZSaves$Session", name := "addFrame", desc := "(IIII)V" } : Jvm.MethodName)) ∈ am_T := am_tw 395 (by decide +kernel) (by decide +kernel)
theorem tw_362 : (Jvm.Cond.instanceMethod ({ cls := "ZSaves$Session", name := "addFrame", desc := "(IIII)V" } : Jvm.MethodName)) ∈ am_T := am_tw 396 (by decide +kernel) (by decide +kernel)
theorem tw_363 : (Jvm.Cond.selects "ZSaves$Session" ({ cls := "ZSaves$Session", name := "addFrame", desc := "(IIII)V" } : Jvm.MethodName) ({ cls := "ZSaves$Session", name := "addFrame", desc := "(IIII)V" } : Jvm.MethodName)) ∈ am_T := am_tw 397 (by decide +kernel) (by decide +kernel)
theorem tw_364 : (Jvm.Cond.code ({ cls := "ZSaves$Session", name := "addFrame", desc := "(IIII)V" } : Jvm.MethodName) prog_6_method_9_code (5 : Nat) (Option.none : Option Jvm.ClassFile.FieldType)) ∈ am_T := am_tw 398 (by decide +kernel) (by decide +kernel)
theorem tw_365 : (Jvm.Cond.methodLink "ZSaves$Session" (52 : Nat) ({ cls := "ZSaves$Frame", name := "begin", desc := "(IIII)V" } : Jvm.MethodName)) ∈ am_T := am_tw 399 (by decide +kernel) (by decide +kernel)
theorem tw_366 : (Jvm.Cond.instanceMethod ({ cls := "ZSaves$Frame", name := "begin", desc := "(IIII)V" } : Jvm.MethodName)) ∈ am_T := am_tw 400 (by decide +kernel) (by decide +kernel)
theorem tw_367 : (Jvm.Cond.selects "ZSaves$Frame" ({ cls := "ZSaves$Frame", name := "begin", desc := "(IIII)V" } : Jvm.MethodName) ({ cls := "ZSaves$Frame", name := "begin", desc := "(IIII)V" } : Jvm.MethodName)) ∈ am_T := am_tw 401 (by decide +kernel) (by decide +kernel)
theorem tw_368 : (Jvm.Cond.code ({ cls := "ZSaves$Frame", name := "begin", desc := "(IIII)V" } : Jvm.MethodName) prog_3_method_2_code (6 : Nat) (Option.none : Option Jvm.ClassFile.FieldType)) ∈ am_T := am_tw 402 (by decide +kernel) (by decide +kernel)
theorem tw_369 : (Jvm.Cond.methodLink "ZSaves" (127 : Nat) ({ cls := "ZSaves$Strangers", name := "clear", desc := "()V" } : Jvm.MethodName)) ∈ am_T := am_tw 403 (by decide +kernel) (by decide +kernel)
theorem tw_370 : (Jvm.Cond.instanceMethod ({ cls := "ZSaves$Strangers", name := "clear", desc := "()V" } : Jvm.MethodName)) ∈ am_T := am_tw 404 (by decide +kernel) (by decide +kernel)
theorem tw_371 : (Jvm.Cond.selects "ZSaves$Strangers" ({ cls := "ZSaves$Strangers", name := "clear", desc := "()V" } : Jvm.MethodName) ({ cls := "ZSaves$Strangers", name := "clear", desc := "()V" } : Jvm.MethodName)) ∈ am_T := am_tw 405 (by decide +kernel) (by decide +kernel)
theorem tw_372 : (Jvm.Cond.code ({ cls := "ZSaves$Strangers", name := "clear", desc := "()V" } : Jvm.MethodName) prog_8_method_2_code (1 : Nat) (Option.none : Option Jvm.ClassFile.FieldType)) ∈ am_T := am_tw 406 (by decide +kernel) (by decide +kernel)
theorem tw_373 : (Jvm.Cond.methodLink "ZSaves$Strangers" (31 : Nat) ({ cls := "ZSaves$Bytes", name := "clear", desc := "()V" } : Jvm.MethodName)) ∈ am_T := am_tw 407 (by decide +kernel) (by decide +kernel)
theorem tw_374 : (Jvm.Cond.methodLink "ZSaves" (130 : Nat) ({ cls := "ZSaves$Kept", name := "clear", desc := "()V" } : Jvm.MethodName)) ∈ am_T := am_tw 408 (by decide +kernel) (by decide +kernel)
theorem tw_375 : (Jvm.Cond.instanceMethod ({ cls := "ZSaves$Kept", name := "clear", desc := "()V" } : Jvm.MethodName)) ∈ am_T := am_tw 409 (by decide +kernel) (by decide +kernel)
theorem tw_376 : (Jvm.Cond.selects "ZSaves$Kept" ({ cls := "ZSaves$Kept", name := "clear", desc := "()V" } : Jvm.MethodName) ({ cls := "ZSaves$Kept", name := "clear", desc := "()V" } : Jvm.MethodName)) ∈ am_T := am_tw 410 (by decide +kernel) (by decide +kernel)
theorem tw_377 : (Jvm.Cond.code ({ cls := "ZSaves$Kept", name := "clear", desc := "()V" } : Jvm.MethodName) prog_4_method_2_code (1 : Nat) (Option.none : Option Jvm.ClassFile.FieldType)) ∈ am_T := am_tw 411 (by decide +kernel) (by decide +kernel)
theorem tw_378 : (Jvm.Cond.methodLink "ZSaves$Kept" (37 : Nat) ({ cls := "ZSaves$Bytes", name := "clear", desc := "()V" } : Jvm.MethodName)) ∈ am_T := am_tw 412 (by decide +kernel) (by decide +kernel)
theorem tw_379 : (Jvm.Cond.methodLink "ZSaves" (131 : Nat) ({ cls := "ZSaves$Bytes", name := "clear", desc := "()V" } : Jvm.MethodName)) ∈ am_T := am_tw 413 (by decide +kernel) (by decide +kernel)
theorem tw_380 : (Jvm.Cond.methodLink "ZSavesLaw" (36 : Nat) ({ cls := "ZSaves", name := "poke", desc := "(II)I" } : Jvm.MethodName)) ∈ am_T := am_tw 414 (by decide +kernel) (by decide +kernel)
theorem tw_381 : (Jvm.Cond.instanceMethod ({ cls := "ZSaves", name := "poke", desc := "(II)I" } : Jvm.MethodName)) ∈ am_T := am_tw 415 (by decide +kernel) (by decide +kernel)
theorem tw_382 : (Jvm.Cond.selects "ZSaves" ({ cls := "ZSaves", name := "poke", desc := "(II)I" } : Jvm.MethodName) ({ cls := "ZSaves", name := "poke", desc := "(II)I" } : Jvm.MethodName)) ∈ am_T := am_tw 416 (by decide +kernel) (by decide +kernel)
theorem tw_383 : (Jvm.Cond.code ({ cls := "ZSaves", name := "poke", desc := "(II)I" } : Jvm.MethodName) prog_1_method_7_code (4 : Nat) (Option.some Jvm.ClassFile.FieldType.int)) ∈ am_T := am_tw 417 (by decide +kernel) (by decide +kernel)
theorem tw_384 : (Jvm.Cond.methodLink "ZSaves" (132 : Nat) ({ cls := "ZSaves", name := "noStory", desc := "()Z" } : Jvm.MethodName)) ∈ am_T := am_tw 418 (by decide +kernel) (by decide +kernel)
theorem tw_386 : (Jvm.Cond.instanceMethod ({ cls := "ZSaves", name := "noStory", desc := "()Z" } : Jvm.MethodName)) ∈ am_T := am_tw 420 (by decide +kernel) (by decide +kernel)
theorem tw_387 : (Jvm.Cond.code ({ cls := "ZSaves", name := "noStory", desc := "()Z" } : Jvm.MethodName) prog_1_method_29_code (1 : Nat) (Option.some Jvm.ClassFile.FieldType.boolean)) ∈ am_T := am_tw 421 (by decide +kernel) (by decide +kernel)
theorem tw_388 : (Jvm.Cond.methodLink "ZSaves" (137 : Nat) ({ cls := "ZSaves$Session", name := "byteAt", desc := "(I)I" } : Jvm.MethodName)) ∈ am_T := am_tw 422 (by decide +kernel) (by decide +kernel)
theorem tw_389 : (Jvm.Cond.instanceMethod ({ cls := "ZSaves$Session", name := "byteAt", desc := "(I)I" } : Jvm.MethodName)) ∈ am_T := am_tw 423 (by decide +kernel) (by decide +kernel)
theorem tw_390 : (Jvm.Cond.selects "ZSaves$Session" ({ cls := "ZSaves$Session", name := "byteAt", desc := "(I)I" } : Jvm.MethodName) ({ cls := "ZSaves$Session", name := "byteAt", desc := "(I)I" } : Jvm.MethodName)) ∈ am_T := am_tw 424 (by decide +kernel) (by decide +kernel)
theorem tw_391 : (Jvm.Cond.code ({ cls := "ZSaves$Session", name := "byteAt", desc := "(I)I" } : Jvm.MethodName) prog_6_method_3_code (2 : Nat) (Option.some Jvm.ClassFile.FieldType.int)) ∈ am_T := am_tw 425 (by decide +kernel) (by decide +kernel)
theorem tw_392 : (Jvm.Cond.methodLink "ZSaves" (140 : Nat) ({ cls := "ZSaves$Session", name := "setByte", desc := "(II)V" } : Jvm.MethodName)) ∈ am_T := am_tw 426 (by decide +kernel) (by decide +kernel)
theorem tw_393 : (Jvm.Cond.methodLink "ZSavesLaw" (41 : Nat) ({ cls := "ZSaves", name := "peek", desc := "(I)I" } : Jvm.MethodName)) ∈ am_T := am_tw 427 (by decide +kernel) (by decide +kernel)
theorem tw_394 : (Jvm.Cond.instanceMethod ({ cls := "ZSaves", name := "peek", desc := "(I)I" } : Jvm.MethodName)) ∈ am_T := am_tw 428 (by decide +kernel) (by decide +kernel)
theorem tw_395 : (Jvm.Cond.selects "ZSaves" ({ cls := "ZSaves", name := "peek", desc := "(I)I" } : Jvm.MethodName) ({ cls := "ZSaves", name := "peek", desc := "(I)I" } : Jvm.MethodName)) ∈ am_T := am_tw 429 (by decide +kernel) (by decide +kernel)
theorem tw_396 : (Jvm.Cond.code ({ cls := "ZSaves", name := "peek", desc := "(I)I" } : Jvm.MethodName) prog_1_method_8_code (2 : Nat) (Option.some Jvm.ClassFile.FieldType.int)) ∈ am_T := am_tw 430 (by decide +kernel) (by decide +kernel)
theorem tw_397 : (Jvm.Cond.methodLink "ZSavesLaw" (45 : Nat) ({ cls := "ZSaves", name := "jump", desc := "(I)I" } : Jvm.MethodName)) ∈ am_T := am_tw 431 (by decide +kernel) (by decide +kernel)
theorem tw_398 : (Jvm.Cond.instanceMethod ({ cls := "ZSaves", name := "jump", desc := "(I)I" } : Jvm.MethodName)) ∈ am_T := am_tw 432 (by decide +kernel) (by decide +kernel)
theorem tw_399 : (Jvm.Cond.selects "ZSaves" ({ cls := "ZSaves", name := "jump", desc := "(I)I" } : Jvm.MethodName) ({ cls := "ZSaves", name := "jump", desc := "(I)I" } : Jvm.MethodName)) ∈ am_T := am_tw 433 (by decide +kernel) (by decide +kernel)
theorem tw_400 : (Jvm.Cond.code ({ cls := "ZSaves", name := "jump", desc := "(I)I" } : Jvm.MethodName) prog_1_method_9_code (3 : Nat) (Option.some Jvm.ClassFile.FieldType.int)) ∈ am_T := am_tw 434 (by decide +kernel) (by decide +kernel)
theorem tw_401 : (Jvm.Cond.constant "ZSaves" (143 : Nat) (16777215 : Int32)) ∈ am_T := am_tw 435 (by decide +kernel) (by decide +kernel)
theorem tw_402 : (Jvm.Cond.methodLink "ZSavesLaw" (49 : Nat) ({ cls := "ZSaves", name := "call", desc := "(IIII)I" } : Jvm.MethodName)) ∈ am_T := am_tw 436 (by decide +kernel) (by decide +kernel)
theorem tw_403 : (Jvm.Cond.instanceMethod ({ cls := "ZSaves", name := "call", desc := "(IIII)I" } : Jvm.MethodName)) ∈ am_T := am_tw 437 (by decide +kernel) (by decide +kernel)
theorem tw_404 : (Jvm.Cond.selects "ZSaves" ({ cls := "ZSaves", name := "call", desc := "(IIII)I" } : Jvm.MethodName) ({ cls := "ZSaves", name := "call", desc := "(IIII)I" } : Jvm.MethodName)) ∈ am_T := am_tw 438 (by decide +kernel) (by decide +kernel)
theorem tw_405 : (Jvm.Cond.code ({ cls := "ZSaves", name := "call", desc := "(IIII)I" } : Jvm.MethodName) prog_1_method_10_code (6 : Nat) (Option.some Jvm.ClassFile.FieldType.int)) ∈ am_T := am_tw 439 (by decide +kernel) (by decide +kernel)
theorem tw_406 : (Jvm.Cond.methodLink "ZSaves" (150 : Nat) ({ cls := "ZSaves$Session", name := "addFrame", desc := "(IIII)V" } : Jvm.MethodName)) ∈ am_T := am_tw 440 (by decide +kernel) (by decide +kernel)
theorem tw_407 : (Jvm.Cond.methodLink "ZSavesLaw" (54 : Nat) ({ cls := "ZSaves", name := "leave", desc := "()I" } : Jvm.MethodName)) ∈ am_T := am_tw 441 (by decide +kernel) (by decide +kernel)
theorem tw_408 : (Jvm.Cond.instanceMethod ({ cls := "ZSaves", name := "leave", desc := "()I" } : Jvm.MethodName)) ∈ am_T := am_tw 442 (by decide +kernel) (by decide +kernel)
theorem tw_409 : (Jvm.Cond.selects "ZSaves" ({ cls := "ZSaves", name := "leave", desc := "()I" } : Jvm.MethodName) ({ cls := "ZSaves", name := "leave", desc := "()I" } : Jvm.MethodName)) ∈ am_T := am_tw 443 (by decide +kernel) (by decide +kernel)
theorem tw_410 : (Jvm.Cond.code ({ cls := "ZSaves", name := "leave", desc := "()I" } : Jvm.MethodName) prog_1_method_11_code (2 : Nat) (Option.some Jvm.ClassFile.FieldType.int)) ∈ am_T := am_tw 444 (by decide +kernel) (by decide +kernel)
theorem tw_411 : (Jvm.Cond.methodLink "ZSaves" (154 : Nat) ({ cls := "ZSaves$Session", name := "newest", desc := "()LZSaves$Frame;" } : Jvm.MethodName)) ∈ am_T := am_tw 445 (by decide +kernel) (by decide +kernel)
theorem tw_412 : (Jvm.Cond.instanceMethod ({ cls := "ZSaves$Session", name := "newest", desc := "()LZSaves$Frame;" } : Jvm.MethodName)) ∈ am_T := am_tw 446 (by decide +kernel) (by decide +kernel)
theorem tw_413 : (Jvm.Cond.selects "ZSaves$Session" ({ cls := "ZSaves$Session", name := "newest", desc := "()LZSaves$Frame;" } : Jvm.MethodName) ({ cls := "ZSaves$Session", name := "newest", desc := "()LZSaves$Frame;" } : Jvm.MethodName)) ∈ am_T := am_tw 447 (by decide +kernel) (by decide +kernel)
theorem tw_414 : (Jvm.Cond.code ({ cls := "ZSaves$Session", name := "newest", desc := "()LZSaves$Frame;" } : Jvm.MethodName) prog_6_method_8_code (1 : Nat) (Option.some (Jvm.ClassFile.FieldType.object "ZSaves$Frame"))) ∈ am_T := am_tw 448 (by decide +kernel) (by decide +kernel)
theorem tw_415 : (Jvm.Cond.methodLink "ZSaves$Session" (48 : Nat) ({ cls := "ZSaves$Session", name := "frameAt", desc := "(I)LZSaves$Frame;" } : Jvm.MethodName)) ∈ am_T := am_tw 449 (by decide +kernel) (by decide +kernel)
theorem tw_416 : (Jvm.Cond.instanceMethod ({ cls := "ZSaves$Session", name := "frameAt", desc := "(I)LZSaves$Frame;" } : Jvm.MethodName)) ∈ am_T := am_tw 450 (by decide +kernel) (by decide +kernel)
theorem tw_417 : (Jvm.Cond.selects "ZSaves$Session" ({ cls := "ZSaves$Session", name := "frameAt", desc := "(I)LZSaves$Frame;" } : Jvm.MethodName) ({ cls := "ZSaves$Session", name := "frameAt", desc := "(I)LZSaves$Frame;" } : Jvm.MethodName)) ∈ am_T := am_tw 451 (by decide +kernel) (by decide +kernel)
theorem tw_418 : (Jvm.Cond.code ({ cls := "ZSaves$Session", name := "frameAt", desc := "(I)LZSaves$Frame;" } : Jvm.MethodName) prog_6_method_7_code (2 : Nat) (Option.some (Jvm.ClassFile.FieldType.object "ZSaves$Frame"))) ∈ am_T := am_tw 452 (by decide +kernel) (by decide +kernel)
theorem tw_419 : (Jvm.Cond.methodLink "ZSavesLaw" (58 : Nat) ({ cls := "ZSaves", name := "local", desc := "(II)I" } : Jvm.MethodName)) ∈ am_T := am_tw 453 (by decide +kernel) (by decide +kernel)
theorem tw_420 : (Jvm.Cond.instanceMethod ({ cls := "ZSaves", name := "local", desc := "(II)I" } : Jvm.MethodName)) ∈ am_T := am_tw 454 (by decide +kernel) (by decide +kernel)
theorem tw_421 : (Jvm.Cond.selects "ZSaves" ({ cls := "ZSaves", name := "local", desc := "(II)I" } : Jvm.MethodName) ({ cls := "ZSaves", name := "local", desc := "(II)I" } : Jvm.MethodName)) ∈ am_T := am_tw 455 (by decide +kernel) (by decide +kernel)
theorem tw_422 : (Jvm.Cond.code ({ cls := "ZSaves", name := "local", desc := "(II)I" } : Jvm.MethodName) prog_1_method_12_code (5 : Nat) (Option.some Jvm.ClassFile.FieldType.int)) ∈ am_T := am_tw 456 (by decide +kernel) (by decide +kernel)
theorem tw_423 : (Jvm.Cond.constant "ZSaves" (166 : Nat) (65535 : Int32)) ∈ am_T := am_tw 457 (by decide +kernel) (by decide +kernel)
theorem tw_424 : (Jvm.Cond.methodLink "ZSaves" (167 : Nat) ({ cls := "ZSaves$Frame", name := "wordAt", desc := "(I)I" } : Jvm.MethodName)) ∈ am_T := am_tw 458 (by decide +kernel) (by decide +kernel)
theorem tw_425 : (Jvm.Cond.instanceMethod ({ cls := "ZSaves$Frame", name := "wordAt", desc := "(I)I" } : Jvm.MethodName)) ∈ am_T := am_tw 459 (by decide +kernel) (by decide +kernel)
theorem tw_426 : (Jvm.Cond.selects "ZSaves$Frame" ({ cls := "ZSaves$Frame", name := "wordAt", desc := "(I)I" } : Jvm.MethodName) ({ cls := "ZSaves$Frame", name := "wordAt", desc := "(I)I" } : Jvm.MethodName)) ∈ am_T := am_tw 460 (by decide +kernel) (by decide +kernel)
theorem tw_427 : (Jvm.Cond.code ({ cls := "ZSaves$Frame", name := "wordAt", desc := "(I)I" } : Jvm.MethodName) prog_3_method_4_code (2 : Nat) (Option.some Jvm.ClassFile.FieldType.int)) ∈ am_T := am_tw 461 (by decide +kernel) (by decide +kernel)
theorem tw_428 : (Jvm.Cond.methodLink "ZSaves" (170 : Nat) ({ cls := "ZSaves$Frame", name := "setWord", desc := "(II)V" } : Jvm.MethodName)) ∈ am_T := am_tw 462 (by decide +kernel) (by decide +kernel)
theorem tw_429 : (Jvm.Cond.instanceMethod ({ cls := "ZSaves$Frame", name := "setWord", desc := "(II)V" } : Jvm.MethodName)) ∈ am_T := am_tw 463 (by decide +kernel) (by decide +kernel)
theorem tw_430 : (Jvm.Cond.selects "ZSaves$Frame" ({ cls := "ZSaves$Frame", name := "setWord", desc := "(II)V" } : Jvm.MethodName) ({ cls := "ZSaves$Frame", name := "setWord", desc := "(II)V" } : Jvm.MethodName)) ∈ am_T := am_tw 464 (by decide +kernel) (by decide +kernel)
theorem tw_431 : (Jvm.Cond.code ({ cls := "ZSaves$Frame", name := "setWord", desc := "(II)V" } : Jvm.MethodName) prog_3_method_5_code (3 : Nat) (Option.none : Option Jvm.ClassFile.FieldType)) ∈ am_T := am_tw 465 (by decide +kernel) (by decide +kernel)
theorem tw_432 : (Jvm.Cond.methodLink "ZSavesLaw" (62 : Nat) ({ cls := "ZSaves", name := "push", desc := "(I)I" } : Jvm.MethodName)) ∈ am_T := am_tw 466 (by decide +kernel) (by decide +kernel)
theorem tw_433 : (Jvm.Cond.instanceMethod ({ cls := "ZSaves", name := "push", desc := "(I)I" } : Jvm.MethodName)) ∈ am_T := am_tw 467 (by decide +kernel) (by decide +kernel)
theorem tw_434 : (Jvm.Cond.selects "ZSaves" ({ cls := "ZSaves", name := "push", desc := "(I)I" } : Jvm.MethodName) ({ cls := "ZSaves", name := "push", desc := "(I)I" } : Jvm.MethodName)) ∈ am_T := am_tw 468 (by decide +kernel) (by decide +kernel)
theorem tw_435 : (Jvm.Cond.code ({ cls := "ZSaves", name := "push", desc := "(I)I" } : Jvm.MethodName) prog_1_method_13_code (3 : Nat) (Option.some Jvm.ClassFile.FieldType.int)) ∈ am_T := am_tw 469 (by decide +kernel) (by decide +kernel)
theorem tw_436 : (Jvm.Cond.methodLink "ZSaves" (176 : Nat) ({ cls := "ZSaves$Frame", name := "stackWord", desc := "(I)V" } : Jvm.MethodName)) ∈ am_T := am_tw 470 (by decide +kernel) (by decide +kernel)
theorem tw_437 : (Jvm.Cond.instanceMethod ({ cls := "ZSaves$Frame", name := "stackWord", desc := "(I)V" } : Jvm.MethodName)) ∈ am_T := am_tw 471 (by decide +kernel) (by decide +kernel)
theorem tw_438 : (Jvm.Cond.selects "ZSaves$Frame" ({ cls := "ZSaves$Frame", name := "stackWord", desc := "(I)V" } : Jvm.MethodName) ({ cls := "ZSaves$Frame", name := "stackWord", desc := "(I)V" } : Jvm.MethodName)) ∈ am_T := am_tw 472 (by decide +kernel) (by decide +kernel)
theorem tw_439 : (Jvm.Cond.code ({ cls := "ZSaves$Frame", name := "stackWord", desc := "(I)V" } : Jvm.MethodName) prog_3_method_6_code (2 : Nat) (Option.none : Option Jvm.ClassFile.FieldType)) ∈ am_T := am_tw 473 (by decide +kernel) (by decide +kernel)
theorem tw_440 : (Jvm.Cond.methodLink "ZSaves$Frame" (31 : Nat) ({ cls := "ZSaves$Frame", name := "setWord", desc := "(II)V" } : Jvm.MethodName)) ∈ am_T := am_tw 474 (by decide +kernel) (by decide +kernel)
theorem tw_441 : (Jvm.Cond.methodLink "ZSavesLaw" (66 : Nat) ({ cls := "ZSaves", name := "pop", desc := "()I" } : Jvm.MethodName)) ∈ am_T := am_tw 475 (by decide +kernel) (by decide +kernel)
theorem tw_442 : (Jvm.Cond.instanceMethod ({ cls := "ZSaves", name := "pop", desc := "()I" } : Jvm.MethodName)) ∈ am_T := am_tw 476 (by decide +kernel) (by decide +kernel)
theorem tw_443 : (Jvm.Cond.selects "ZSaves" ({ cls := "ZSaves", name := "pop", desc := "()I" } : Jvm.MethodName) ({ cls := "ZSaves", name := "pop", desc := "()I" } : Jvm.MethodName)) ∈ am_T := am_tw 477 (by decide +kernel) (by decide +kernel)
theorem tw_444 : (Jvm.Cond.code ({ cls := "ZSaves", name := "pop", desc := "()I" } : Jvm.MethodName) prog_1_method_14_code (3 : Nat) (Option.some Jvm.ClassFile.FieldType.int)) ∈ am_T := am_tw 478 (by decide +kernel) (by decide +kernel)
theorem tw_445 : (Jvm.Cond.methodLink "ZSaves" (179 : Nat) ({ cls := "ZSaves$Frame", name := "words", desc := "()I" } : Jvm.MethodName)) ∈ am_T := am_tw 479 (by decide +kernel) (by decide +kernel)
theorem tw_446 : (Jvm.Cond.instanceMethod ({ cls := "ZSaves$Frame", name := "words", desc := "()I" } : Jvm.MethodName)) ∈ am_T := am_tw 480 (by decide +kernel) (by decide +kernel)
theorem tw_447 : (Jvm.Cond.selects "ZSaves$Frame" ({ cls := "ZSaves$Frame", name := "words", desc := "()I" } : Jvm.MethodName) ({ cls := "ZSaves$Frame", name := "words", desc := "()I" } : Jvm.MethodName)) ∈ am_T := am_tw 481 (by decide +kernel) (by decide +kernel)
theorem tw_448 : (Jvm.Cond.code ({ cls := "ZSaves$Frame", name := "words", desc := "()I" } : Jvm.MethodName) prog_3_method_3_code (1 : Nat) (Option.some Jvm.ClassFile.FieldType.int)) ∈ am_T := am_tw 482 (by decide +kernel) (by decide +kernel)
theorem tw_449 : (Jvm.Cond.methodLink "ZSavesLaw" (70 : Nat) ({ cls := "ZSaves", name := "frame", desc := "(II)I" } : Jvm.MethodName)) ∈ am_T := am_tw 483 (by decide +kernel) (by decide +kernel)
theorem tw_450 : (Jvm.Cond.instanceMethod ({ cls := "ZSaves", name := "frame", desc := "(II)I" } : Jvm.MethodName)) ∈ am_T := am_tw 484 (by decide +kernel) (by decide +kernel)
theorem tw_451 : (Jvm.Cond.selects "ZSaves" ({ cls := "ZSaves", name := "frame", desc := "(II)I" } : Jvm.MethodName) ({ cls := "ZSaves", name := "frame", desc := "(II)I" } : Jvm.MethodName)) ∈ am_T := am_tw 485 (by decide +kernel) (by decide +kernel)
theorem tw_452 : (Jvm.Cond.code ({ cls := "ZSaves", name := "frame", desc := "(II)I" } : Jvm.MethodName) prog_1_method_15_code (4 : Nat) (Option.some Jvm.ClassFile.FieldType.int)) ∈ am_T := am_tw 486 (by decide +kernel) (by decide +kernel)
theorem tw_453 : (Jvm.Cond.methodLink "ZSaves" (182 : Nat) ({ cls := "ZSaves$Session", name := "frameAt", desc := "(I)LZSaves$Frame;" } : Jvm.MethodName)) ∈ am_T := am_tw 487 (by decide +kernel) (by decide +kernel)
theorem tw_454 : (Jvm.Cond.methodLink "ZSavesLaw" (74 : Nat) ({ cls := "ZSaves", name := "print", desc := "()J" } : Jvm.MethodName)) ∈ am_T := am_tw 488 (by decide +kernel) (by decide +kernel)
theorem tw_455 : (Jvm.Cond.instanceMethod ({ cls := "ZSaves", name := "print", desc := "()J" } : Jvm.MethodName)) ∈ am_T := am_tw 489 (by decide +kernel) (by decide +kernel)
theorem tw_456 : (Jvm.Cond.selects "ZSaves" ({ cls := "ZSaves", name := "print", desc := "()J" } : Jvm.MethodName) ({ cls := "ZSaves", name := "print", desc := "()J" } : Jvm.MethodName)) ∈ am_T := am_tw 490 (by decide +kernel) (by decide +kernel)
theorem tw_457 : (Jvm.Cond.code ({ cls := "ZSaves", name := "print", desc := "()J" } : Jvm.MethodName) prog_1_method_16_code (4 : Nat) (Option.some Jvm.ClassFile.FieldType.long)) ∈ am_T := am_tw 491 (by decide +kernel) (by decide +kernel)
theorem tw_458 : (Jvm.Cond.constantLong "ZSaves" (192 : Nat) (-3750763034362895579 : Int64)) ∈ am_T := am_tw 492 (by decide +kernel) (by decide +kernel)
theorem tw_459 : (Jvm.Cond.methodLink "ZSaves" (194 : Nat) ({ cls := "ZSaves", name := "printed", desc := "(JI)J" } : Jvm.MethodName)) ∈ am_T := am_tw 493 (by decide +kernel) (by decide +kernel)
theorem tw_460 : (Jvm.Cond.static ({ cls := "ZSaves", name := "printed", desc := "(JI)J" } : Jvm.MethodName)) ∈ am_T := am_tw 494 (by decide +kernel) (by decide +kernel)
theorem tw_461 : (Jvm.Cond.code ({ cls := "ZSaves", name := "printed", desc := "(JI)J" } : Jvm.MethodName) prog_1_method_31_code (3 : Nat) (Option.some Jvm.ClassFile.FieldType.long)) ∈ am_T := am_tw 495 (by decide +kernel) (by decide +kernel)
theorem tw_462 : (Jvm.Cond.constantLong "ZSaves" (272 : Nat) (1099511628211 : Int64)) ∈ am_T := am_tw 496 (by decide +kernel) (by decide +kernel)
theorem tw_463 : (Jvm.Cond.methodLink "ZSaves" (198 : Nat) ({ cls := "ZSaves$Session", name := "tellFrames", desc := "(LZSaves$Bytes;)V" } : Jvm.MethodName)) ∈ am_T := am_tw 497 (by decide +kernel) (by decide +kernel)
theorem tw_464 : (Jvm.Cond.instanceMethod ({ cls := "ZSaves$Session", name := "tellFrames", desc := "(LZSaves$Bytes;)V" } : Jvm.MethodName)) ∈ am_T := am_tw 498 (by decide +kernel) (by decide +kernel)
theorem tw_465 : (Jvm.Cond.selects "ZSaves$Session" ({ cls := "ZSaves$Session", name := "tellFrames", desc := "(LZSaves$Bytes;)V" } : Jvm.MethodName) ({ cls := "ZSaves$Session", name := "tellFrames", desc := "(LZSaves$Bytes;)V" } : Jvm.MethodName)) ∈ am_T := am_tw 499 (by decide +kernel) (by decide +kernel)
theorem tw_466 : (Jvm.Cond.code ({ cls := "ZSaves$Session", name := "tellFrames", desc := "(LZSaves$Bytes;)V" } : Jvm.MethodName) prog_6_method_13_code (4 : Nat) (Option.none : Option Jvm.ClassFile.FieldType)) ∈ am_T := am_tw 500 (by decide +kernel) (by decide +kernel)
theorem tw_467 : (Jvm.Cond.methodLink "ZSaves$Session" (71 : Nat) ({ cls := "ZSaves$Frame", name := "tell", desc := "(LZSaves$Bytes;)V" } : Jvm.MethodName)) ∈ am_T := am_tw 501 (by decide +kernel) (by decide +kernel)
theorem tw_468 : (Jvm.Cond.instanceMethod ({ cls := "ZSaves$Frame", name := "tell", desc := "(LZSaves$Bytes;)V" } : Jvm.MethodName)) ∈ am_T := am_tw 502 (by decide +kernel) (by decide +kernel)
theorem tw_469 : (Jvm.Cond.selects "ZSaves$Frame" ({ cls := "ZSaves$Frame", name := "tell", desc := "(LZSaves$Bytes;)V" } : Jvm.MethodName) ({ cls := "ZSaves$Frame", name := "tell", desc := "(LZSaves$Bytes;)V" } : Jvm.MethodName)) ∈ am_T := am_tw 503 (by decide +kernel) (by decide +kernel)
theorem tw_470 : (Jvm.Cond.code ({ cls := "ZSaves$Frame", name := "tell", desc := "(LZSaves$Bytes;)V" } : Jvm.MethodName) prog_3_method_7_code (4 : Nat) (Option.none : Option Jvm.ClassFile.FieldType)) ∈ am_T := am_tw 504 (by decide +kernel) (by decide +kernel)
theorem tw_471 : (Jvm.Cond.methodLink "ZSaves$Frame" (35 : Nat) ({ cls := "ZSaves$Bytes", name := "addNumber", desc := "(II)V" } : Jvm.MethodName)) ∈ am_T := am_tw 505 (by decide +kernel) (by decide +kernel)
theorem tw_472 : (Jvm.Cond.methodLink "ZSaves$Frame" (40 : Nat) ({ cls := "ZSaves$Bytes", name := "add", desc := "(I)V" } : Jvm.MethodName)) ∈ am_T := am_tw 506 (by decide +kernel) (by decide +kernel)
theorem tw_473 : (Jvm.Cond.methodLink "ZSaves$Frame" (44 : Nat) ({ cls := "ZSaves$Frame", name := "words", desc := "()I" } : Jvm.MethodName)) ∈ am_T := am_tw 507 (by decide +kernel) (by decide +kernel)
theorem tw_474 : (Jvm.Cond.methodLink "ZSaves$Frame" (48 : Nat) ({ cls := "ZSaves$Frame", name := "wordAt", desc := "(I)I" } : Jvm.MethodName)) ∈ am_T := am_tw 508 (by decide +kernel) (by decide +kernel)
theorem tw_475 : (Jvm.Cond.methodLink "ZSavesLaw" (79 : Nat) ({ cls := "ZSaves", name := "save", desc := "(Z)I" } : Jvm.MethodName)) ∈ am_T := am_tw 509 (by decide +kernel) (by decide +kernel)
theorem tw_476 : (Jvm.Cond.instanceMethod ({ cls := "ZSaves", name := "save", desc := "(Z)I" } : Jvm.MethodName)) ∈ am_T := am_tw 510 (by decide +kernel) (by decide +kernel)
theorem tw_477 : (Jvm.Cond.selects "ZSaves" ({ cls := "ZSaves", name := "save", desc := "(Z)I" } : Jvm.MethodName) ({ cls := "ZSaves", name := "save", desc := "(Z)I" } : Jvm.MethodName)) ∈ am_T := am_tw 511 (by decide +kernel) (by decide +kernel)
theorem tw_478 : (Jvm.Cond.code ({ cls := "ZSaves", name := "save", desc := "(Z)I" } : Jvm.MethodName) prog_1_method_17_code (2 : Nat) (Option.some Jvm.ClassFile.FieldType.int)) ∈ am_T := am_tw 512 (by decide +kernel) (by decide +kernel)
theorem tw_479 : (Jvm.Cond.methodLink "ZSaves" (201 : Nat) ({ cls := "ZSaves$Writer", name := "startFile", desc := "()V" } : Jvm.MethodName)) ∈ am_T := am_tw 513 (by decide +kernel) (by decide +kernel)
theorem tw_480 : (Jvm.Cond.instanceMethod ({ cls := "ZSaves$Writer", name := "startFile", desc := "()V" } : Jvm.MethodName)) ∈ am_T := am_tw 514 (by decide +kernel) (by decide +kernel)
theorem tw_481 : (Jvm.Cond.selects "ZSaves$Writer" ({ cls := "ZSaves$Writer", name := "startFile", desc := "()V" } : Jvm.MethodName) ({ cls := "ZSaves$Writer", name := "startFile", desc := "()V" } : Jvm.MethodName)) ∈ am_T := am_tw 515 (by decide +kernel) (by decide +kernel)
theorem tw_482 : (Jvm.Cond.code ({ cls := "ZSaves$Writer", name := "startFile", desc := "()V" } : Jvm.MethodName) prog_9_method_2_code (1 : Nat) (Option.none : Option Jvm.ClassFile.FieldType)) ∈ am_T := am_tw 516 (by decide +kernel) (by decide +kernel)
theorem tw_483 : (Jvm.Cond.methodLink "ZSaves$Writer" (34 : Nat) ({ cls := "ZSaves$Bytes", name := "clear", desc := "()V" } : Jvm.MethodName)) ∈ am_T := am_tw 517 (by decide +kernel) (by decide +kernel)
theorem tw_484 : (Jvm.Cond.constant "ZSaves$Writer" (37 : Nat) (1179603533 : Int32)) ∈ am_T := am_tw 518 (by decide +kernel) (by decide +kernel)
theorem tw_485 : (Jvm.Cond.methodLink "ZSaves$Writer" (38 : Nat) ({ cls := "ZSaves$Bytes", name := "addNumber", desc := "(II)V" } : Jvm.MethodName)) ∈ am_T := am_tw 519 (by decide +kernel) (by decide +kernel)
theorem tw_486 : (Jvm.Cond.constant "ZSaves$Writer" (42 : Nat) (1229347411 : Int32)) ∈ am_T := am_tw 520 (by decide +kernel) (by decide +kernel)
theorem tw_487 : (Jvm.Cond.constant "ZSaves" (204 : Nat) (1229351012 : Int32)) ∈ am_T := am_tw 521 (by decide +kernel) (by decide +kernel)
theorem tw_488 : (Jvm.Cond.methodLink "ZSaves" (205 : Nat) ({ cls := "ZSaves$Writer", name := "openChunk", desc := "(I)V" } : Jvm.MethodName)) ∈ am_T := am_tw 522 (by decide +kernel) (by decide +kernel)
theorem tw_489 : (Jvm.Cond.instanceMethod ({ cls := "ZSaves$Writer", name := "openChunk", desc := "(I)V" } : Jvm.MethodName)) ∈ am_T := am_tw 523 (by decide +kernel) (by decide +kernel)
theorem tw_490 : (Jvm.Cond.selects "ZSaves$Writer" ({ cls := "ZSaves$Writer", name := "openChunk", desc := "(I)V" } : Jvm.MethodName) ({ cls := "ZSaves$Writer", name := "openChunk", desc := "(I)V" } : Jvm.MethodName)) ∈ am_T := am_tw 524 (by decide +kernel) (by decide +kernel)
theorem tw_491 : (Jvm.Cond.code ({ cls := "ZSaves$Writer", name := "openChunk", desc := "(I)V" } : Jvm.MethodName) prog_9_method_3_code (2 : Nat) (Option.none : Option Jvm.ClassFile.FieldType)) ∈ am_T := am_tw 525 (by decide +kernel) (by decide +kernel)
theorem tw_492 : (Jvm.Cond.methodLink "ZSaves" (208 : Nat) ({ cls := "ZSaves$Story", name := "tellHead", desc := "(LZSaves$Bytes;)V" } : Jvm.MethodName)) ∈ am_T := am_tw 526 (by decide +kernel) (by decide +kernel)
theorem tw_493 : (Jvm.Cond.instanceMethod ({ cls := "ZSaves$Story", name := "tellHead", desc := "(LZSaves$Bytes;)V" } : Jvm.MethodName)) ∈ am_T := am_tw 527 (by decide +kernel) (by decide +kernel)
theorem tw_494 : (Jvm.Cond.selects "ZSaves$Story" ({ cls := "ZSaves$Story", name := "tellHead", desc := "(LZSaves$Bytes;)V" } : Jvm.MethodName) ({ cls := "ZSaves$Story", name := "tellHead", desc := "(LZSaves$Bytes;)V" } : Jvm.MethodName)) ∈ am_T := am_tw 528 (by decide +kernel) (by decide +kernel)
theorem tw_495 : (Jvm.Cond.code ({ cls := "ZSaves$Story", name := "tellHead", desc := "(LZSaves$Bytes;)V" } : Jvm.MethodName) prog_7_method_5_code (3 : Nat) (Option.none : Option Jvm.ClassFile.FieldType)) ∈ am_T := am_tw 529 (by decide +kernel) (by decide +kernel)
theorem tw_496 : (Jvm.Cond.methodLink "ZSaves$Story" (38 : Nat) ({ cls := "ZSaves$Bytes", name := "add", desc := "(I)V" } : Jvm.MethodName)) ∈ am_T := am_tw 530 (by decide +kernel) (by decide +kernel)
theorem tw_497 : (Jvm.Cond.methodLink "ZSaves" (211 : Nat) ({ cls := "ZSaves$Writer", name := "closeChunk", desc := "()V" } : Jvm.MethodName)) ∈ am_T := am_tw 531 (by decide +kernel) (by decide +kernel)
theorem tw_498 : (Jvm.Cond.instanceMethod ({ cls := "ZSaves$Writer", name := "closeChunk", desc := "()V" } : Jvm.MethodName)) ∈ am_T := am_tw 532 (by decide +kernel) (by decide +kernel)
theorem tw_499 : (Jvm.Cond.selects "ZSaves$Writer" ({ cls := "ZSaves$Writer", name := "closeChunk", desc := "()V" } : Jvm.MethodName) ({ cls := "ZSaves$Writer", name := "closeChunk", desc := "()V" } : Jvm.MethodName)) ∈ am_T := am_tw 533 (by decide +kernel) (by decide +kernel)
theorem tw_500 : (Jvm.Cond.code ({ cls := "ZSaves$Writer", name := "closeChunk", desc := "()V" } : Jvm.MethodName) prog_9_method_4_code (2 : Nat) (Option.none : Option Jvm.ClassFile.FieldType)) ∈ am_T := am_tw 534 (by decide +kernel) (by decide +kernel)
theorem tw_501 : (Jvm.Cond.methodLink "ZSaves$Writer" (46 : Nat) ({ cls := "ZSaves$Bytes", name := "setNumber", desc := "(II)V" } : Jvm.MethodName)) ∈ am_T := am_tw 535 (by decide +kernel) (by decide +kernel)
theorem tw_502 : (Jvm.Cond.instanceMethod ({ cls := "ZSaves$Bytes", name := "setNumber", desc := "(II)V" } : Jvm.MethodName)) ∈ am_T := am_tw 536 (by decide +kernel) (by decide +kernel)
theorem tw_503 : (Jvm.Cond.selects "ZSaves$Bytes" ({ cls := "ZSaves$Bytes", name := "setNumber", desc := "(II)V" } : Jvm.MethodName) ({ cls := "ZSaves$Bytes", name := "setNumber", desc := "(II)V" } : Jvm.MethodName)) ∈ am_T := am_tw 537 (by decide +kernel) (by decide +kernel)
theorem tw_504 : (Jvm.Cond.code ({ cls := "ZSaves$Bytes", name := "setNumber", desc := "(II)V" } : Jvm.MethodName) prog_2_method_8_code (4 : Nat) (Option.none : Option Jvm.ClassFile.FieldType)) ∈ am_T := am_tw 538 (by decide +kernel) (by decide +kernel)
theorem tw_505 : (Jvm.Cond.methodLink "ZSaves$Writer" (49 : Nat) ({ cls := "ZSaves$Bytes", name := "add", desc := "(I)V" } : Jvm.MethodName)) ∈ am_T := am_tw 539 (by decide +kernel) (by decide +kernel)
theorem tw_506 : (Jvm.Cond.constant "ZSaves" (214 : Nat) (1431135597 : Int32)) ∈ am_T := am_tw 540 (by decide +kernel) (by decide +kernel)
theorem tw_507 : (Jvm.Cond.constant "ZSaves" (215 : Nat) (1129145709 : Int32)) ∈ am_T := am_tw 541 (by decide +kernel) (by decide +kernel)
theorem tw_508 : (Jvm.Cond.methodLink "ZSaves" (216 : Nat) ({ cls := "ZSaves$Session", name := "tellMemory", desc := "(LZSaves$Bytes;)V" } : Jvm.MethodName)) ∈ am_T := am_tw 542 (by decide +kernel) (by decide +kernel)
theorem tw_509 : (Jvm.Cond.instanceMethod ({ cls := "ZSaves$Session", name := "tellMemory", desc := "(LZSaves$Bytes;)V" } : Jvm.MethodName)) ∈ am_T := am_tw 543 (by decide +kernel) (by decide +kernel)
theorem tw_510 : (Jvm.Cond.selects "ZSaves$Session" ({ cls := "ZSaves$Session", name := "tellMemory", desc := "(LZSaves$Bytes;)V" } : Jvm.MethodName) ({ cls := "ZSaves$Session", name := "tellMemory", desc := "(LZSaves$Bytes;)V" } : Jvm.MethodName)) ∈ am_T := am_tw 544 (by decide +kernel) (by decide +kernel)
theorem tw_511 : (Jvm.Cond.code ({ cls := "ZSaves$Session", name := "tellMemory", desc := "(LZSaves$Bytes;)V" } : Jvm.MethodName) prog_6_method_10_code (3 : Nat) (Option.none : Option Jvm.ClassFile.FieldType)) ∈ am_T := am_tw 545 (by decide +kernel) (by decide +kernel)
theorem tw_512 : (Jvm.Cond.methodLink "ZSaves$Session" (47 : Nat) ({ cls := "ZSaves$Session", name := "byteAt", desc := "(I)I" } : Jvm.MethodName)) ∈ am_T := am_tw 546 (by decide +kernel) (by decide +kernel)
theorem tw_513 : (Jvm.Cond.methodLink "ZSaves$Session" (55 : Nat) ({ cls := "ZSaves$Bytes", name := "add", desc := "(I)V" } : Jvm.MethodName)) ∈ am_T := am_tw 547 (by decide +kernel) (by decide +kernel)
theorem tw_514 : (Jvm.Cond.methodLink "ZSaves" (219 : Nat) ({ cls := "ZSaves$Session", name := "tellRuns", desc := "(LZSaves$Story;LZSaves$Bytes;)V" } : Jvm.MethodName)) ∈ am_T := am_tw 548 (by decide +kernel) (by decide +kernel)
theorem tw_515 : (Jvm.Cond.instanceMethod ({ cls := "ZSaves$Session", name := "tellRuns", desc := "(LZSaves$Story;LZSaves$Bytes;)V" } : Jvm.MethodName)) ∈ am_T := am_tw 549 (by decide +kernel) (by decide +kernel)
theorem tw_516 : (Jvm.Cond.selects "ZSaves$Session" ({ cls := "ZSaves$Session", name := "tellRuns", desc := "(LZSaves$Story;LZSaves$Bytes;)V" } : Jvm.MethodName) ({ cls := "ZSaves$Session", name := "tellRuns", desc := "(LZSaves$Story;LZSaves$Bytes;)V" } : Jvm.MethodName)) ∈ am_T := am_tw 550 (by decide +kernel) (by decide +kernel)
theorem tw_517 : (Jvm.Cond.code ({ cls := "ZSaves$Session", name := "tellRuns", desc := "(LZSaves$Story;LZSaves$Bytes;)V" } : Jvm.MethodName) prog_6_method_11_code (6 : Nat) (Option.none : Option Jvm.ClassFile.FieldType)) ∈ am_T := am_tw 551 (by decide +kernel) (by decide +kernel)
theorem tw_518 : (Jvm.Cond.methodLink "ZSaves$Session" (61 : Nat) ({ cls := "ZSaves$Session", name := "tellZeros", desc := "(ILZSaves$Bytes;)V" } : Jvm.MethodName)) ∈ am_T := am_tw 552 (by decide +kernel) (by decide +kernel)
theorem tw_519 : (Jvm.Cond.static ({ cls := "ZSaves$Session", name := "tellZeros", desc := "(ILZSaves$Bytes;)V" } : Jvm.MethodName)) ∈ am_T := am_tw 553 (by decide +kernel) (by decide +kernel)
theorem tw_520 : (Jvm.Cond.code ({ cls := "ZSaves$Session", name := "tellZeros", desc := "(ILZSaves$Bytes;)V" } : Jvm.MethodName) prog_6_method_12_code (3 : Nat) (Option.none : Option Jvm.ClassFile.FieldType)) ∈ am_T := am_tw 554 (by decide +kernel) (by decide +kernel)
theorem tw_521 : (Jvm.Cond.methodLink "ZSaves$Session" (65 : Nat) ({ cls := "java/lang/Math", name := "min", desc := "(II)I" } : Jvm.MethodName)) ∈ am_T := am_tw 555 (by decide +kernel) (by decide +kernel)
theorem tw_522 : (Jvm.Cond.constant "ZSaves" (223 : Nat) (1400138611 : Int32)) ∈ am_T := am_tw 556 (by decide +kernel) (by decide +kernel)
theorem tw_523 : (Jvm.Cond.methodLink "ZSaves" (224 : Nat) ({ cls := "ZSaves$Writer", name := "addStrangers", desc := "(LZSaves$Strangers;)V" } : Jvm.MethodName)) ∈ am_T := am_tw 557 (by decide +kernel) (by decide +kernel)
theorem tw_524 : (Jvm.Cond.instanceMethod ({ cls := "ZSaves$Writer", name := "addStrangers", desc := "(LZSaves$Strangers;)V" } : Jvm.MethodName)) ∈ am_T := am_tw 558 (by decide +kernel) (by decide +kernel)
theorem tw_525 : (Jvm.Cond.selects "ZSaves$Writer" ({ cls := "ZSaves$Writer", name := "addStrangers", desc := "(LZSaves$Strangers;)V" } : Jvm.MethodName) ({ cls := "ZSaves$Writer", name := "addStrangers", desc := "(LZSaves$Strangers;)V" } : Jvm.MethodName)) ∈ am_T := am_tw 559 (by decide +kernel) (by decide +kernel)
theorem tw_526 : (Jvm.Cond.code ({ cls := "ZSaves$Writer", name := "addStrangers", desc := "(LZSaves$Strangers;)V" } : Jvm.MethodName) prog_9_method_5_code (4 : Nat) (Option.none : Option Jvm.ClassFile.FieldType)) ∈ am_T := am_tw 560 (by decide +kernel) (by decide +kernel)
theorem tw_527 : (Jvm.Cond.methodLink "ZSaves$Writer" (56 : Nat) ({ cls := "ZSaves$Writer", name := "openChunk", desc := "(I)V" } : Jvm.MethodName)) ∈ am_T := am_tw 561 (by decide +kernel) (by decide +kernel)
theorem tw_528 : (Jvm.Cond.methodLink "ZSaves$Writer" (63 : Nat) ({ cls := "ZSaves$Bytes", name := "addPart", desc := "(LZSaves$Bytes;II)V" } : Jvm.MethodName)) ∈ am_T := am_tw 562 (by decide +kernel) (by decide +kernel)
theorem tw_529 : (Jvm.Cond.methodLink "ZSaves$Writer" (67 : Nat) ({ cls := "ZSaves$Writer", name := "closeChunk", desc := "()V" } : Jvm.MethodName)) ∈ am_T := am_tw 563 (by decide +kernel) (by decide +kernel)
theorem tw_530 : (Jvm.Cond.methodLink "ZSaves" (228 : Nat) ({ cls := "ZSaves$Writer", name := "endFile", desc := "()V" } : Jvm.MethodName)) ∈ am_T := am_tw 564 (by decide +kernel) (by decide +kernel)
theorem tw_531 : (Jvm.Cond.instanceMethod ({ cls := "ZSaves$Writer", name := "endFile", desc := "()V" } : Jvm.MethodName)) ∈ am_T := am_tw 565 (by decide +kernel) (by decide +kernel)
theorem tw_532 : (Jvm.Cond.selects "ZSaves$Writer" ({ cls := "ZSaves$Writer", name := "endFile", desc := "()V" } : Jvm.MethodName) ({ cls := "ZSaves$Writer", name := "endFile", desc := "()V" } : Jvm.MethodName)) ∈ am_T := am_tw 566 (by decide +kernel) (by decide +kernel)
theorem tw_533 : (Jvm.Cond.code ({ cls := "ZSaves$Writer", name := "endFile", desc := "()V" } : Jvm.MethodName) prog_9_method_6_code (1 : Nat) (Option.none : Option Jvm.ClassFile.FieldType)) ∈ am_T := am_tw 567 (by decide +kernel) (by decide +kernel)
theorem tw_534 : (Jvm.Cond.methodLink "ZSavesLaw" (84 : Nat) ({ cls := "ZSaves", name := "restore", desc := "()I" } : Jvm.MethodName)) ∈ am_T := am_tw 568 (by decide +kernel) (by decide +kernel)
theorem tw_535 : (Jvm.Cond.instanceMethod ({ cls := "ZSaves", name := "restore", desc := "()I" } : Jvm.MethodName)) ∈ am_T := am_tw 569 (by decide +kernel) (by decide +kernel)
theorem tw_536 : (Jvm.Cond.selects "ZSaves" ({ cls := "ZSaves", name := "restore", desc := "()I" } : Jvm.MethodName) ({ cls := "ZSaves", name := "restore", desc := "()I" } : Jvm.MethodName)) ∈ am_T := am_tw 570 (by decide +kernel) (by decide +kernel)
theorem tw_537 : (Jvm.Cond.code ({ cls := "ZSaves", name := "restore", desc := "()I" } : Jvm.MethodName) prog_1_method_18_code (2 : Nat) (Option.some Jvm.ClassFile.FieldType.int)) ∈ am_T := am_tw 571 (by decide +kernel) (by decide +kernel)
theorem tw_538 : (Jvm.Cond.methodLink "ZSaves" (231 : Nat) ({ cls := "ZSaves$Reader", name := "readFor", desc := "(LZSaves$Story;LZSaves$Session;LZSaves$Strangers;)I" } : Jvm.MethodName)) ∈ am_T := am_tw 572 (by decide +kernel) (by decide +kernel)
theorem tw_539 : (Jvm.Cond.instanceMethod ({ cls := "ZSaves$Reader", name := "readFor", desc := "(LZSaves$Story;LZSaves$Session;LZSaves$Strangers;)I" } : Jvm.MethodName)) ∈ am_T := am_tw 573 (by decide +kernel) (by decide +kernel)
theorem tw_540 : (Jvm.Cond.selects "ZSaves$Reader" ({ cls := "ZSaves$Reader", name := "readFor", desc := "(LZSaves$Story;LZSaves$Session;LZSaves$Strangers;)I" } : Jvm.MethodName) ({ cls := "ZSaves$Reader", name := "readFor", desc := "(LZSaves$Story;LZSaves$Session;LZSaves$Strangers;)I" } : Jvm.MethodName)) ∈ am_T := am_tw 574 (by decide +kernel) (by decide +kernel)
theorem tw_541 : (Jvm.Cond.code ({ cls := "ZSaves$Reader", name := "readFor", desc := "(LZSaves$Story;LZSaves$Session;LZSaves$Strangers;)I" } : Jvm.MethodName) prog_5_method_2_code (7 : Nat) (Option.some Jvm.ClassFile.FieldType.int)) ∈ am_T := am_tw 575 (by decide +kernel) (by decide +kernel)
theorem tw_542 : (Jvm.Cond.methodLink "ZSaves$Reader" (34 : Nat) ({ cls := "ZSaves$Session", name := "begin", desc := "(LZSaves$Story;)V" } : Jvm.MethodName)) ∈ am_T := am_tw 576 (by decide +kernel) (by decide +kernel)
theorem tw_543 : (Jvm.Cond.methodLink "ZSaves$Reader" (40 : Nat) ({ cls := "ZSaves$Strangers", name := "clear", desc := "()V" } : Jvm.MethodName)) ∈ am_T := am_tw 577 (by decide +kernel) (by decide +kernel)
theorem tw_544 : (Jvm.Cond.methodLink "ZSaves$Reader" (45 : Nat) ({ cls := "ZSaves$Reader", name := "frontFault", desc := "()I" } : Jvm.MethodName)) ∈ am_T := am_tw 578 (by decide +kernel) (by decide +kernel)
theorem tw_546 : (Jvm.Cond.instanceMethod ({ cls := "ZSaves$Reader", name := "frontFault", desc := "()I" } : Jvm.MethodName)) ∈ am_T := am_tw 580 (by decide +kernel) (by decide +kernel)
theorem tw_547 : (Jvm.Cond.code ({ cls := "ZSaves$Reader", name := "frontFault", desc := "()I" } : Jvm.MethodName) prog_5_method_3_code (1 : Nat) (Option.some Jvm.ClassFile.FieldType.int)) ∈ am_T := am_tw 581 (by decide +kernel) (by decide +kernel)
theorem tw_549 : (Jvm.Cond.static ({ cls := "ZSaves", name := "fault", desc := "(II)I" } : Jvm.MethodName)) ∈ am_T := am_tw 583 (by decide +kernel) (by decide +kernel)
theorem tw_550 : (Jvm.Cond.code ({ cls := "ZSaves", name := "fault", desc := "(II)I" } : Jvm.MethodName) prog_1_method_36_code (2 : Nat) (Option.some Jvm.ClassFile.FieldType.int)) ∈ am_T := am_tw 584 (by decide +kernel) (by decide +kernel)
theorem tw_551 : (Jvm.Cond.methodLink "ZSaves$Reader" (55 : Nat) ({ cls := "ZSaves$Bytes", name := "number", desc := "(II)I" } : Jvm.MethodName)) ∈ am_T := am_tw 585 (by decide +kernel) (by decide +kernel)
theorem tw_552 : (Jvm.Cond.instanceMethod ({ cls := "ZSaves$Bytes", name := "number", desc := "(II)I" } : Jvm.MethodName)) ∈ am_T := am_tw 586 (by decide +kernel) (by decide +kernel)
theorem tw_553 : (Jvm.Cond.selects "ZSaves$Bytes" ({ cls := "ZSaves$Bytes", name := "number", desc := "(II)I" } : Jvm.MethodName) ({ cls := "ZSaves$Bytes", name := "number", desc := "(II)I" } : Jvm.MethodName)) ∈ am_T := am_tw 587 (by decide +kernel) (by decide +kernel)
theorem tw_554 : (Jvm.Cond.code ({ cls := "ZSaves$Bytes", name := "number", desc := "(II)I" } : Jvm.MethodName) prog_2_method_4_code (5 : Nat) (Option.some Jvm.ClassFile.FieldType.int)) ∈ am_T := am_tw 588 (by decide +kernel) (by decide +kernel)
theorem tw_555 : (Jvm.Cond.methodLink "ZSaves$Bytes" (25 : Nat) ({ cls := "ZSaves$Bytes", name := "at", desc := "(I)I" } : Jvm.MethodName)) ∈ am_T := am_tw 589 (by decide +kernel) (by decide +kernel)
theorem tw_556 : (Jvm.Cond.constant "ZSaves$Reader" (66 : Nat) (1179603533 : Int32)) ∈ am_T := am_tw 590 (by decide +kernel) (by decide +kernel)
theorem tw_557 : (Jvm.Cond.constant "ZSaves$Reader" (67 : Nat) (1229347411 : Int32)) ∈ am_T := am_tw 591 (by decide +kernel) (by decide +kernel)
theorem tw_558 : (Jvm.Cond.methodLink "ZSaves$Reader" (52 : Nat) ({ cls := "ZSaves$Reader", name := "shapeFault", desc := "()I" } : Jvm.MethodName)) ∈ am_T := am_tw 592 (by decide +kernel) (by decide +kernel)
theorem tw_560 : (Jvm.Cond.instanceMethod ({ cls := "ZSaves$Reader", name := "shapeFault", desc := "()I" } : Jvm.MethodName)) ∈ am_T := am_tw 594 (by decide +kernel) (by decide +kernel)
theorem tw_561 : (Jvm.Cond.code ({ cls := "ZSaves$Reader", name := "shapeFault", desc := "()I" } : Jvm.MethodName) prog_5_method_4_code (4 : Nat) (Option.some Jvm.ClassFile.FieldType.int)) ∈ am_T := am_tw 595 (by decide +kernel) (by decide +kernel)
theorem tw_562 : (Jvm.Cond.methodLink "ZSaves$Reader" (68 : Nat) ({ cls := "ZSaves$Bytes", name := "at", desc := "(I)I" } : Jvm.MethodName)) ∈ am_T := am_tw 596 (by decide +kernel) (by decide +kernel)
theorem tw_563 : (Jvm.Cond.methodLink "ZSaves$Reader" (59 : Nat) ({ cls := "ZSaves$Reader", name := "readContents", desc := "(ILZSaves$Story;LZSaves$Session;LZSaves$Strangers;)I" } : Jvm.MethodName)) ∈ am_T := am_tw 597 (by decide +kernel) (by decide +kernel)
theorem tw_565 : (Jvm.Cond.instanceMethod ({ cls := "ZSaves$Reader", name := "readContents", desc := "(ILZSaves$Story;LZSaves$Session;LZSaves$Strangers;)I" } : Jvm.MethodName)) ∈ am_T := am_tw 599 (by decide +kernel) (by decide +kernel)
theorem tw_566 : (Jvm.Cond.code ({ cls := "ZSaves$Reader", name := "readContents", desc := "(ILZSaves$Story;LZSaves$Session;LZSaves$Strangers;)I" } : Jvm.MethodName) prog_5_method_5_code (7 : Nat) (Option.some Jvm.ClassFile.FieldType.int)) ∈ am_T := am_tw 600 (by decide +kernel) (by decide +kernel)
theorem tw_567 : (Jvm.Cond.methodLink "ZSaves$Reader" (71 : Nat) ({ cls := "ZSaves$Reader", name := "readHead", desc := "(ILZSaves$Story;LZSaves$Session;)I" } : Jvm.MethodName)) ∈ am_T := am_tw 601 (by decide +kernel) (by decide +kernel)
theorem tw_569 : (Jvm.Cond.instanceMethod ({ cls := "ZSaves$Reader", name := "readHead", desc := "(ILZSaves$Story;LZSaves$Session;)I" } : Jvm.MethodName)) ∈ am_T := am_tw 603 (by decide +kernel) (by decide +kernel)
theorem tw_570 : (Jvm.Cond.code ({ cls := "ZSaves$Reader", name := "readHead", desc := "(ILZSaves$Story;LZSaves$Session;)I" } : Jvm.MethodName) prog_5_method_6_code (6 : Nat) (Option.some Jvm.ClassFile.FieldType.int)) ∈ am_T := am_tw 604 (by decide +kernel) (by decide +kernel)
theorem tw_571 : (Jvm.Cond.methodLink "ZSaves$Reader" (87 : Nat) ({ cls := "ZSaves$Story", name := "headAt", desc := "(I)I" } : Jvm.MethodName)) ∈ am_T := am_tw 605 (by decide +kernel) (by decide +kernel)
theorem tw_572 : (Jvm.Cond.instanceMethod ({ cls := "ZSaves$Story", name := "headAt", desc := "(I)I" } : Jvm.MethodName)) ∈ am_T := am_tw 606 (by decide +kernel) (by decide +kernel)
theorem tw_573 : (Jvm.Cond.selects "ZSaves$Story" ({ cls := "ZSaves$Story", name := "headAt", desc := "(I)I" } : Jvm.MethodName) ({ cls := "ZSaves$Story", name := "headAt", desc := "(I)I" } : Jvm.MethodName)) ∈ am_T := am_tw 607 (by decide +kernel) (by decide +kernel)
theorem tw_574 : (Jvm.Cond.code ({ cls := "ZSaves$Story", name := "headAt", desc := "(I)I" } : Jvm.MethodName) prog_7_method_4_code (2 : Nat) (Option.some Jvm.ClassFile.FieldType.int)) ∈ am_T := am_tw 608 (by decide +kernel) (by decide +kernel)
theorem tw_575 : (Jvm.Cond.methodLink "ZSaves$Reader" (75 : Nat) ({ cls := "ZSaves$Reader", name := "readMemory", desc := "(IILZSaves$Session;)I" } : Jvm.MethodName)) ∈ am_T := am_tw 609 (by decide +kernel) (by decide +kernel)
theorem tw_577 : (Jvm.Cond.instanceMethod ({ cls := "ZSaves$Reader", name := "readMemory", desc := "(IILZSaves$Session;)I" } : Jvm.MethodName)) ∈ am_T := am_tw 611 (by decide +kernel) (by decide +kernel)
theorem tw_578 : (Jvm.Cond.code ({ cls := "ZSaves$Reader", name := "readMemory", desc := "(IILZSaves$Session;)I" } : Jvm.MethodName) prog_5_method_7_code (5 : Nat) (Option.some Jvm.ClassFile.FieldType.int)) ∈ am_T := am_tw 612 (by decide +kernel) (by decide +kernel)
theorem tw_579 : (Jvm.Cond.constant "ZSaves$Reader" (95 : Nat) (1129145709 : Int32)) ∈ am_T := am_tw 613 (by decide +kernel) (by decide +kernel)
theorem tw_580 : (Jvm.Cond.methodLink "ZSaves$Reader" (96 : Nat) ({ cls := "ZSaves$Session", name := "takeRuns", desc := "(LZSaves$Bytes;II)I" } : Jvm.MethodName)) ∈ am_T := am_tw 614 (by decide +kernel) (by decide +kernel)
theorem tw_581 : (Jvm.Cond.instanceMethod ({ cls := "ZSaves$Session", name := "takeRuns", desc := "(LZSaves$Bytes;II)I" } : Jvm.MethodName)) ∈ am_T := am_tw 615 (by decide +kernel) (by decide +kernel)
theorem tw_582 : (Jvm.Cond.selects "ZSaves$Session" ({ cls := "ZSaves$Session", name := "takeRuns", desc := "(LZSaves$Bytes;II)I" } : Jvm.MethodName) ({ cls := "ZSaves$Session", name := "takeRuns", desc := "(LZSaves$Bytes;II)I" } : Jvm.MethodName)) ∈ am_T := am_tw 616 (by decide +kernel) (by decide +kernel)
theorem tw_583 : (Jvm.Cond.code ({ cls := "ZSaves$Session", name := "takeRuns", desc := "(LZSaves$Bytes;II)I" } : Jvm.MethodName) prog_6_method_15_code (8 : Nat) (Option.some Jvm.ClassFile.FieldType.int)) ∈ am_T := am_tw 617 (by decide +kernel) (by decide +kernel)
theorem tw_584 : (Jvm.Cond.methodLink "ZSaves$Session" (75 : Nat) ({ cls := "ZSaves$Bytes", name := "at", desc := "(I)I" } : Jvm.MethodName)) ∈ am_T := am_tw 618 (by decide +kernel) (by decide +kernel)
theorem tw_586 : (Jvm.Cond.methodLink "ZSaves$Reader" (100 : Nat) ({ cls := "ZSaves$Session", name := "takeMemory", desc := "(LZSaves$Bytes;I)V" } : Jvm.MethodName)) ∈ am_T := am_tw 620 (by decide +kernel) (by decide +kernel)
theorem tw_587 : (Jvm.Cond.instanceMethod ({ cls := "ZSaves$Session", name := "takeMemory", desc := "(LZSaves$Bytes;I)V" } : Jvm.MethodName)) ∈ am_T := am_tw 621 (by decide +kernel) (by decide +kernel)
theorem tw_588 : (Jvm.Cond.selects "ZSaves$Session" ({ cls := "ZSaves$Session", name := "takeMemory", desc := "(LZSaves$Bytes;I)V" } : Jvm.MethodName) ({ cls := "ZSaves$Session", name := "takeMemory", desc := "(LZSaves$Bytes;I)V" } : Jvm.MethodName)) ∈ am_T := am_tw 622 (by decide +kernel) (by decide +kernel)
theorem tw_589 : (Jvm.Cond.code ({ cls := "ZSaves$Session", name := "takeMemory", desc := "(LZSaves$Bytes;I)V" } : Jvm.MethodName) prog_6_method_14_code (4 : Nat) (Option.none : Option Jvm.ClassFile.FieldType)) ∈ am_T := am_tw 623 (by decide +kernel) (by decide +kernel)
theorem tw_590 : (Jvm.Cond.methodLink "ZSaves$Reader" (79 : Nat) ({ cls := "ZSaves$Session", name := "takeFrames", desc := "(LZSaves$Bytes;II)I" } : Jvm.MethodName)) ∈ am_T := am_tw 624 (by decide +kernel) (by decide +kernel)
theorem tw_591 : (Jvm.Cond.instanceMethod ({ cls := "ZSaves$Session", name := "takeFrames", desc := "(LZSaves$Bytes;II)I" } : Jvm.MethodName)) ∈ am_T := am_tw 625 (by decide +kernel) (by decide +kernel)
theorem tw_592 : (Jvm.Cond.selects "ZSaves$Session" ({ cls := "ZSaves$Session", name := "takeFrames", desc := "(LZSaves$Bytes;II)I" } : Jvm.MethodName) ({ cls := "ZSaves$Session", name := "takeFrames", desc := "(LZSaves$Bytes;II)I" } : Jvm.MethodName)) ∈ am_T := am_tw 626 (by decide +kernel) (by decide +kernel)
theorem tw_593 : (Jvm.Cond.code ({ cls := "ZSaves$Session", name := "takeFrames", desc := "(LZSaves$Bytes;II)I" } : Jvm.MethodName) prog_6_method_16_code (7 : Nat) (Option.some Jvm.ClassFile.FieldType.int)) ∈ am_T := am_tw 627 (by decide +kernel) (by decide +kernel)
theorem tw_594 : (Jvm.Cond.methodLink "ZSaves$Session" (81 : Nat) ({ cls := "ZSaves$Session", name := "frameFault", desc := "(LZSaves$Bytes;II)I" } : Jvm.MethodName)) ∈ am_T := am_tw 628 (by decide +kernel) (by decide +kernel)
theorem tw_596 : (Jvm.Cond.instanceMethod ({ cls := "ZSaves$Session", name := "frameFault", desc := "(LZSaves$Bytes;II)I" } : Jvm.MethodName)) ∈ am_T := am_tw 630 (by decide +kernel) (by decide +kernel)
theorem tw_597 : (Jvm.Cond.code ({ cls := "ZSaves$Session", name := "frameFault", desc := "(LZSaves$Bytes;II)I" } : Jvm.MethodName) prog_6_method_17_code (7 : Nat) (Option.some Jvm.ClassFile.FieldType.int)) ∈ am_T := am_tw 631 (by decide +kernel) (by decide +kernel)
theorem tw_598 : (Jvm.Cond.methodLink "ZSaves$Session" (89 : Nat) ({ cls := "ZSaves$Session", name := "wrongInFirst", desc := "(LZSaves$Bytes;I)I" } : Jvm.MethodName)) ∈ am_T := am_tw 632 (by decide +kernel) (by decide +kernel)
theorem tw_599 : (Jvm.Cond.static ({ cls := "ZSaves$Session", name := "wrongInFirst", desc := "(LZSaves$Bytes;I)I" } : Jvm.MethodName)) ∈ am_T := am_tw 633 (by decide +kernel) (by decide +kernel)
theorem tw_600 : (Jvm.Cond.code ({ cls := "ZSaves$Session", name := "wrongInFirst", desc := "(LZSaves$Bytes;I)I" } : Jvm.MethodName) prog_6_method_18_code (3 : Nat) (Option.some Jvm.ClassFile.FieldType.int)) ∈ am_T := am_tw 634 (by decide +kernel) (by decide +kernel)
theorem tw_601 : (Jvm.Cond.methodLink "ZSaves$Session" (92 : Nat) ({ cls := "ZSaves$Session", name := "wrongInLater", desc := "(LZSaves$Bytes;I)I" } : Jvm.MethodName)) ∈ am_T := am_tw 635 (by decide +kernel) (by decide +kernel)
theorem tw_602 : (Jvm.Cond.static ({ cls := "ZSaves$Session", name := "wrongInLater", desc := "(LZSaves$Bytes;I)I" } : Jvm.MethodName)) ∈ am_T := am_tw 636 (by decide +kernel) (by decide +kernel)
theorem tw_603 : (Jvm.Cond.code ({ cls := "ZSaves$Session", name := "wrongInLater", desc := "(LZSaves$Bytes;I)I" } : Jvm.MethodName) prog_6_method_19_code (5 : Nat) (Option.some Jvm.ClassFile.FieldType.int)) ∈ am_T := am_tw 637 (by decide +kernel) (by decide +kernel)
theorem tw_604 : (Jvm.Cond.methodLink "ZSaves$Session" (95 : Nat) ({ cls := "ZSaves$Bytes", name := "number", desc := "(II)I" } : Jvm.MethodName)) ∈ am_T := am_tw 638 (by decide +kernel) (by decide +kernel)
theorem tw_605 : (Jvm.Cond.methodLink "ZSaves$Session" (85 : Nat) ({ cls := "ZSaves$Session", name := "takeFrame", desc := "(LZSaves$Bytes;I)I" } : Jvm.MethodName)) ∈ am_T := am_tw 639 (by decide +kernel) (by decide +kernel)
theorem tw_607 : (Jvm.Cond.instanceMethod ({ cls := "ZSaves$Session", name := "takeFrame", desc := "(LZSaves$Bytes;I)I" } : Jvm.MethodName)) ∈ am_T := am_tw 641 (by decide +kernel) (by decide +kernel)
theorem tw_608 : (Jvm.Cond.code ({ cls := "ZSaves$Session", name := "takeFrame", desc := "(LZSaves$Bytes;I)I" } : Jvm.MethodName) prog_6_method_20_code (11 : Nat) (Option.some Jvm.ClassFile.FieldType.int)) ∈ am_T := am_tw 642 (by decide +kernel) (by decide +kernel)
theorem tw_609 : (Jvm.Cond.methodLink "ZSaves$Session" (98 : Nat) ({ cls := "java/lang/Integer", name := "bitCount", desc := "(I)I" } : Jvm.MethodName)) ∈ am_T := am_tw 643 (by decide +kernel) (by decide +kernel)
theorem tw_610 : (Jvm.Cond.static ({ cls := "java/lang/Integer", name := "bitCount", desc := "(I)I" } : Jvm.MethodName)) ∈ am_T := am_tw 644 (by decide +kernel) (by decide +kernel)
theorem tw_611 : (Jvm.Cond.code ({ cls := "java/lang/Integer", name := "bitCount", desc := "(I)I" } : Jvm.MethodName) prog_12_method_49_code (1 : Nat) (Option.some Jvm.ClassFile.FieldType.int)) ∈ am_T := am_tw 645 (by decide +kernel) (by decide +kernel)
theorem tw_612 : (Jvm.Cond.constant "java/lang/Integer" (265 : Nat) (1431655765 : Int32)) ∈ am_T := am_tw 646 (by decide +kernel) (by decide +kernel)
theorem tw_613 : (Jvm.Cond.constant "java/lang/Integer" (266 : Nat) (858993459 : Int32)) ∈ am_T := am_tw 647 (by decide +kernel) (by decide +kernel)
theorem tw_614 : (Jvm.Cond.constant "java/lang/Integer" (267 : Nat) (252645135 : Int32)) ∈ am_T := am_tw 648 (by decide +kernel) (by decide +kernel)
theorem tw_615 : (Jvm.Cond.methodLink "ZSaves$Session" (103 : Nat) ({ cls := "ZSaves$Session", name := "newest", desc := "()LZSaves$Frame;" } : Jvm.MethodName)) ∈ am_T := am_tw 649 (by decide +kernel) (by decide +kernel)
theorem tw_616 : (Jvm.Cond.methodLink "ZSaves$Session" (107 : Nat) ({ cls := "ZSaves$Frame", name := "setWord", desc := "(II)V" } : Jvm.MethodName)) ∈ am_T := am_tw 650 (by decide +kernel) (by decide +kernel)
theorem tw_617 : (Jvm.Cond.methodLink "ZSaves$Session" (110 : Nat) ({ cls := "ZSaves$Frame", name := "stackWord", desc := "(I)V" } : Jvm.MethodName)) ∈ am_T := am_tw 651 (by decide +kernel) (by decide +kernel)
theorem tw_618 : (Jvm.Cond.methodLink "ZSaves$Reader" (83 : Nat) ({ cls := "ZSaves$Strangers", name := "add", desc := "(ILZSaves$Bytes;II)Z" } : Jvm.MethodName)) ∈ am_T := am_tw 652 (by decide +kernel) (by decide +kernel)
theorem tw_619 : (Jvm.Cond.instanceMethod ({ cls := "ZSaves$Strangers", name := "add", desc := "(ILZSaves$Bytes;II)Z" } : Jvm.MethodName)) ∈ am_T := am_tw 653 (by decide +kernel) (by decide +kernel)
theorem tw_620 : (Jvm.Cond.selects "ZSaves$Strangers" ({ cls := "ZSaves$Strangers", name := "add", desc := "(ILZSaves$Bytes;II)Z" } : Jvm.MethodName) ({ cls := "ZSaves$Strangers", name := "add", desc := "(ILZSaves$Bytes;II)Z" } : Jvm.MethodName)) ∈ am_T := am_tw 654 (by decide +kernel) (by decide +kernel)
theorem tw_621 : (Jvm.Cond.code ({ cls := "ZSaves$Strangers", name := "add", desc := "(ILZSaves$Bytes;II)Z" } : Jvm.MethodName) prog_8_method_3_code (5 : Nat) (Option.some Jvm.ClassFile.FieldType.boolean)) ∈ am_T := am_tw 655 (by decide +kernel) (by decide +kernel)
theorem tw_622 : (Jvm.Cond.methodLink "ZSaves$Strangers" (34 : Nat) ({ cls := "ZSaves$Bytes", name := "addPart", desc := "(LZSaves$Bytes;II)V" } : Jvm.MethodName)) ∈ am_T := am_tw 656 (by decide +kernel) (by decide +kernel)
theorem tw_623 : (Jvm.Cond.methodLink "ZSaves" (235 : Nat) ({ cls := "ZSaves", name := "turnToSpare", desc := "()V" } : Jvm.MethodName)) ∈ am_T := am_tw 657 (by decide +kernel) (by decide +kernel)
theorem tw_625 : (Jvm.Cond.instanceMethod ({ cls := "ZSaves", name := "turnToSpare", desc := "()V" } : Jvm.MethodName)) ∈ am_T := am_tw 659 (by decide +kernel) (by decide +kernel)
theorem tw_626 : (Jvm.Cond.code ({ cls := "ZSaves", name := "turnToSpare", desc := "()V" } : Jvm.MethodName) prog_1_method_33_code (2 : Nat) (Option.none : Option Jvm.ClassFile.FieldType)) ∈ am_T := am_tw 660 (by decide +kernel) (by decide +kernel)
theorem tw_627 : (Jvm.Cond.methodLink "ZSaves" (274 : Nat) ({ cls := "ZSaves$Session", name := "bits", desc := "()I" } : Jvm.MethodName)) ∈ am_T := am_tw 661 (by decide +kernel) (by decide +kernel)
theorem tw_628 : (Jvm.Cond.instanceMethod ({ cls := "ZSaves$Session", name := "bits", desc := "()I" } : Jvm.MethodName)) ∈ am_T := am_tw 662 (by decide +kernel) (by decide +kernel)
theorem tw_629 : (Jvm.Cond.selects "ZSaves$Session" ({ cls := "ZSaves$Session", name := "bits", desc := "()I" } : Jvm.MethodName) ({ cls := "ZSaves$Session", name := "bits", desc := "()I" } : Jvm.MethodName)) ∈ am_T := am_tw 663 (by decide +kernel) (by decide +kernel)
theorem tw_630 : (Jvm.Cond.code ({ cls := "ZSaves$Session", name := "bits", desc := "()I" } : Jvm.MethodName) prog_6_method_5_code (1 : Nat) (Option.some Jvm.ClassFile.FieldType.int)) ∈ am_T := am_tw 664 (by decide +kernel) (by decide +kernel)
theorem tw_631 : (Jvm.Cond.methodLink "ZSaves" (277 : Nat) ({ cls := "ZSaves$Session", name := "setBits", desc := "(I)V" } : Jvm.MethodName)) ∈ am_T := am_tw 665 (by decide +kernel) (by decide +kernel)
theorem tw_632 : (Jvm.Cond.instanceMethod ({ cls := "ZSaves$Session", name := "setBits", desc := "(I)V" } : Jvm.MethodName)) ∈ am_T := am_tw 666 (by decide +kernel) (by decide +kernel)
theorem tw_633 : (Jvm.Cond.selects "ZSaves$Session" ({ cls := "ZSaves$Session", name := "setBits", desc := "(I)V" } : Jvm.MethodName) ({ cls := "ZSaves$Session", name := "setBits", desc := "(I)V" } : Jvm.MethodName)) ∈ am_T := am_tw 667 (by decide +kernel) (by decide +kernel)
theorem tw_634 : (Jvm.Cond.code ({ cls := "ZSaves$Session", name := "setBits", desc := "(I)V" } : Jvm.MethodName) prog_6_method_6_code (2 : Nat) (Option.none : Option Jvm.ClassFile.FieldType)) ∈ am_T := am_tw 668 (by decide +kernel) (by decide +kernel)
theorem tw_635 : (Jvm.Cond.methodLink "ZSaves" (238 : Nat) ({ cls := "ZSaves", name := "turnToComing", desc := "()V" } : Jvm.MethodName)) ∈ am_T := am_tw 669 (by decide +kernel) (by decide +kernel)
theorem tw_637 : (Jvm.Cond.instanceMethod ({ cls := "ZSaves", name := "turnToComing", desc := "()V" } : Jvm.MethodName)) ∈ am_T := am_tw 671 (by decide +kernel) (by decide +kernel)
theorem tw_638 : (Jvm.Cond.code ({ cls := "ZSaves", name := "turnToComing", desc := "()V" } : Jvm.MethodName) prog_1_method_34_code (2 : Nat) (Option.none : Option Jvm.ClassFile.FieldType)) ∈ am_T := am_tw 672 (by decide +kernel) (by decide +kernel)
theorem tw_639 : (Jvm.Cond.methodLink "ZSavesLaw" (88 : Nat) ({ cls := "ZSaves", name := "why", desc := "(I)I" } : Jvm.MethodName)) ∈ am_T := am_tw 673 (by decide +kernel) (by decide +kernel)
theorem tw_640 : (Jvm.Cond.instanceMethod ({ cls := "ZSaves", name := "why", desc := "(I)I" } : Jvm.MethodName)) ∈ am_T := am_tw 674 (by decide +kernel) (by decide +kernel)
theorem tw_641 : (Jvm.Cond.selects "ZSaves" ({ cls := "ZSaves", name := "why", desc := "(I)I" } : Jvm.MethodName) ({ cls := "ZSaves", name := "why", desc := "(I)I" } : Jvm.MethodName)) ∈ am_T := am_tw 675 (by decide +kernel) (by decide +kernel)
theorem tw_642 : (Jvm.Cond.code ({ cls := "ZSaves", name := "why", desc := "(I)I" } : Jvm.MethodName) prog_1_method_19_code (2 : Nat) (Option.some Jvm.ClassFile.FieldType.int)) ∈ am_T := am_tw 676 (by decide +kernel) (by decide +kernel)
theorem tw_643 : (Jvm.Cond.methodLink "ZSavesLaw" (92 : Nat) ({ cls := "ZSaves", name := "chunk", desc := "(II)I" } : Jvm.MethodName)) ∈ am_T := am_tw 677 (by decide +kernel) (by decide +kernel)
theorem tw_644 : (Jvm.Cond.instanceMethod ({ cls := "ZSaves", name := "chunk", desc := "(II)I" } : Jvm.MethodName)) ∈ am_T := am_tw 678 (by decide +kernel) (by decide +kernel)
theorem tw_645 : (Jvm.Cond.selects "ZSaves" ({ cls := "ZSaves", name := "chunk", desc := "(II)I" } : Jvm.MethodName) ({ cls := "ZSaves", name := "chunk", desc := "(II)I" } : Jvm.MethodName)) ∈ am_T := am_tw 679 (by decide +kernel) (by decide +kernel)
theorem tw_646 : (Jvm.Cond.code ({ cls := "ZSaves", name := "chunk", desc := "(II)I" } : Jvm.MethodName) prog_1_method_20_code (3 : Nat) (Option.some Jvm.ClassFile.FieldType.int)) ∈ am_T := am_tw 680 (by decide +kernel) (by decide +kernel)
theorem tw_647 : (Jvm.Cond.methodLink "ZSaves" (242 : Nat) ({ cls := "ZSaves$Writer", name := "tellChunk", desc := "(II)I" } : Jvm.MethodName)) ∈ am_T := am_tw 681 (by decide +kernel) (by decide +kernel)
theorem tw_648 : (Jvm.Cond.instanceMethod ({ cls := "ZSaves$Writer", name := "tellChunk", desc := "(II)I" } : Jvm.MethodName)) ∈ am_T := am_tw 682 (by decide +kernel) (by decide +kernel)
theorem tw_649 : (Jvm.Cond.selects "ZSaves$Writer" ({ cls := "ZSaves$Writer", name := "tellChunk", desc := "(II)I" } : Jvm.MethodName) ({ cls := "ZSaves$Writer", name := "tellChunk", desc := "(II)I" } : Jvm.MethodName)) ∈ am_T := am_tw 683 (by decide +kernel) (by decide +kernel)
theorem tw_650 : (Jvm.Cond.code ({ cls := "ZSaves$Writer", name := "tellChunk", desc := "(II)I" } : Jvm.MethodName) prog_9_method_7_code (3 : Nat) (Option.some Jvm.ClassFile.FieldType.int)) ∈ am_T := am_tw 684 (by decide +kernel) (by decide +kernel)
theorem tw_651 : (Jvm.Cond.methodLink "ZSavesLaw" (96 : Nat) ({ cls := "ZSaves", name := "write", desc := "()I" } : Jvm.MethodName)) ∈ am_T := am_tw 685 (by decide +kernel) (by decide +kernel)
theorem tw_652 : (Jvm.Cond.instanceMethod ({ cls := "ZSaves", name := "write", desc := "()I" } : Jvm.MethodName)) ∈ am_T := am_tw 686 (by decide +kernel) (by decide +kernel)
theorem tw_653 : (Jvm.Cond.selects "ZSaves" ({ cls := "ZSaves", name := "write", desc := "()I" } : Jvm.MethodName) ({ cls := "ZSaves", name := "write", desc := "()I" } : Jvm.MethodName)) ∈ am_T := am_tw 687 (by decide +kernel) (by decide +kernel)
theorem tw_654 : (Jvm.Cond.code ({ cls := "ZSaves", name := "write", desc := "()I" } : Jvm.MethodName) prog_1_method_21_code (2 : Nat) (Option.some Jvm.ClassFile.FieldType.int)) ∈ am_T := am_tw 688 (by decide +kernel) (by decide +kernel)
theorem tw_655 : (Jvm.Cond.methodLink "ZSavesLaw" (100 : Nat) ({ cls := "ZSaves", name := "cut", desc := "(I)I" } : Jvm.MethodName)) ∈ am_T := am_tw 689 (by decide +kernel) (by decide +kernel)
theorem tw_656 : (Jvm.Cond.instanceMethod ({ cls := "ZSaves", name := "cut", desc := "(I)I" } : Jvm.MethodName)) ∈ am_T := am_tw 690 (by decide +kernel) (by decide +kernel)
theorem tw_657 : (Jvm.Cond.selects "ZSaves" ({ cls := "ZSaves", name := "cut", desc := "(I)I" } : Jvm.MethodName) ({ cls := "ZSaves", name := "cut", desc := "(I)I" } : Jvm.MethodName)) ∈ am_T := am_tw 691 (by decide +kernel) (by decide +kernel)
theorem tw_658 : (Jvm.Cond.code ({ cls := "ZSaves", name := "cut", desc := "(I)I" } : Jvm.MethodName) prog_1_method_22_code (2 : Nat) (Option.some Jvm.ClassFile.FieldType.int)) ∈ am_T := am_tw 692 (by decide +kernel) (by decide +kernel)
theorem tw_659 : (Jvm.Cond.methodLink "ZSavesLaw" (104 : Nat) ({ cls := "ZSaves", name := "load", desc := "()I" } : Jvm.MethodName)) ∈ am_T := am_tw 693 (by decide +kernel) (by decide +kernel)
theorem tw_660 : (Jvm.Cond.instanceMethod ({ cls := "ZSaves", name := "load", desc := "()I" } : Jvm.MethodName)) ∈ am_T := am_tw 694 (by decide +kernel) (by decide +kernel)
theorem tw_661 : (Jvm.Cond.selects "ZSaves" ({ cls := "ZSaves", name := "load", desc := "()I" } : Jvm.MethodName) ({ cls := "ZSaves", name := "load", desc := "()I" } : Jvm.MethodName)) ∈ am_T := am_tw 695 (by decide +kernel) (by decide +kernel)
theorem tw_662 : (Jvm.Cond.code ({ cls := "ZSaves", name := "load", desc := "()I" } : Jvm.MethodName) prog_1_method_23_code (1 : Nat) (Option.some Jvm.ClassFile.FieldType.int)) ∈ am_T := am_tw 696 (by decide +kernel) (by decide +kernel)
theorem tw_663 : (Jvm.Cond.methodLink "ZSavesLaw" (108 : Nat) ({ cls := "ZSaves", name := "keep", desc := "()I" } : Jvm.MethodName)) ∈ am_T := am_tw 697 (by decide +kernel) (by decide +kernel)
theorem tw_664 : (Jvm.Cond.instanceMethod ({ cls := "ZSaves", name := "keep", desc := "()I" } : Jvm.MethodName)) ∈ am_T := am_tw 698 (by decide +kernel) (by decide +kernel)
theorem tw_665 : (Jvm.Cond.selects "ZSaves" ({ cls := "ZSaves", name := "keep", desc := "()I" } : Jvm.MethodName) ({ cls := "ZSaves", name := "keep", desc := "()I" } : Jvm.MethodName)) ∈ am_T := am_tw 699 (by decide +kernel) (by decide +kernel)
theorem tw_666 : (Jvm.Cond.code ({ cls := "ZSaves", name := "keep", desc := "()I" } : Jvm.MethodName) prog_1_method_24_code (2 : Nat) (Option.some Jvm.ClassFile.FieldType.int)) ∈ am_T := am_tw 700 (by decide +kernel) (by decide +kernel)
theorem tw_667 : (Jvm.Cond.methodLink "ZSaves" (249 : Nat) ({ cls := "ZSaves", name := "weighNow", desc := "()I" } : Jvm.MethodName)) ∈ am_T := am_tw 701 (by decide +kernel) (by decide +kernel)
theorem tw_669 : (Jvm.Cond.instanceMethod ({ cls := "ZSaves", name := "weighNow", desc := "()I" } : Jvm.MethodName)) ∈ am_T := am_tw 703 (by decide +kernel) (by decide +kernel)
theorem tw_670 : (Jvm.Cond.code ({ cls := "ZSaves", name := "weighNow", desc := "()I" } : Jvm.MethodName) prog_1_method_35_code (2 : Nat) (Option.some Jvm.ClassFile.FieldType.int)) ∈ am_T := am_tw 704 (by decide +kernel) (by decide +kernel)
theorem tw_671 : (Jvm.Cond.methodLink "ZSaves" (255 : Nat) ({ cls := "ZSaves$Kept", name := "add", desc := "(LZSaves$Bytes;II)V" } : Jvm.MethodName)) ∈ am_T := am_tw 705 (by decide +kernel) (by decide +kernel)
theorem tw_672 : (Jvm.Cond.instanceMethod ({ cls := "ZSaves$Kept", name := "add", desc := "(LZSaves$Bytes;II)V" } : Jvm.MethodName)) ∈ am_T := am_tw 706 (by decide +kernel) (by decide +kernel)
theorem tw_673 : (Jvm.Cond.selects "ZSaves$Kept" ({ cls := "ZSaves$Kept", name := "add", desc := "(LZSaves$Bytes;II)V" } : Jvm.MethodName) ({ cls := "ZSaves$Kept", name := "add", desc := "(LZSaves$Bytes;II)V" } : Jvm.MethodName)) ∈ am_T := am_tw 707 (by decide +kernel) (by decide +kernel)
theorem tw_674 : (Jvm.Cond.code ({ cls := "ZSaves$Kept", name := "add", desc := "(LZSaves$Bytes;II)V" } : Jvm.MethodName) prog_4_method_3_code (4 : Nat) (Option.none : Option Jvm.ClassFile.FieldType)) ∈ am_T := am_tw 708 (by decide +kernel) (by decide +kernel)
theorem tw_675 : (Jvm.Cond.methodLink "ZSaves$Kept" (43 : Nat) ({ cls := "ZSaves$Kept", name := "shrink", desc := "(II)V" } : Jvm.MethodName)) ∈ am_T := am_tw 709 (by decide +kernel) (by decide +kernel)
theorem tw_676 : (Jvm.Cond.instanceMethod ({ cls := "ZSaves$Kept", name := "shrink", desc := "(II)V" } : Jvm.MethodName)) ∈ am_T := am_tw 710 (by decide +kernel) (by decide +kernel)
theorem tw_677 : (Jvm.Cond.selects "ZSaves$Kept" ({ cls := "ZSaves$Kept", name := "shrink", desc := "(II)V" } : Jvm.MethodName) ({ cls := "ZSaves$Kept", name := "shrink", desc := "(II)V" } : Jvm.MethodName)) ∈ am_T := am_tw 711 (by decide +kernel) (by decide +kernel)
theorem tw_678 : (Jvm.Cond.code ({ cls := "ZSaves$Kept", name := "shrink", desc := "(II)V" } : Jvm.MethodName) prog_4_method_4_code (4 : Nat) (Option.none : Option Jvm.ClassFile.FieldType)) ∈ am_T := am_tw 712 (by decide +kernel) (by decide +kernel)
theorem tw_679 : (Jvm.Cond.methodLink "ZSaves$Kept" (51 : Nat) ({ cls := "ZSaves$Kept", name := "dropEldest", desc := "()V" } : Jvm.MethodName)) ∈ am_T := am_tw 713 (by decide +kernel) (by decide +kernel)
theorem tw_681 : (Jvm.Cond.instanceMethod ({ cls := "ZSaves$Kept", name := "dropEldest", desc := "()V" } : Jvm.MethodName)) ∈ am_T := am_tw 715 (by decide +kernel) (by decide +kernel)
theorem tw_682 : (Jvm.Cond.code ({ cls := "ZSaves$Kept", name := "dropEldest", desc := "()V" } : Jvm.MethodName) prog_4_method_5_code (2 : Nat) (Option.none : Option Jvm.ClassFile.FieldType)) ∈ am_T := am_tw 716 (by decide +kernel) (by decide +kernel)
theorem tw_683 : (Jvm.Cond.methodLink "ZSaves$Kept" (54 : Nat) ({ cls := "ZSaves$Bytes", name := "dropFirst", desc := "(I)V" } : Jvm.MethodName)) ∈ am_T := am_tw 717 (by decide +kernel) (by decide +kernel)
theorem tw_684 : (Jvm.Cond.instanceMethod ({ cls := "ZSaves$Bytes", name := "dropFirst", desc := "(I)V" } : Jvm.MethodName)) ∈ am_T := am_tw 718 (by decide +kernel) (by decide +kernel)
theorem tw_685 : (Jvm.Cond.selects "ZSaves$Bytes" ({ cls := "ZSaves$Bytes", name := "dropFirst", desc := "(I)V" } : Jvm.MethodName) ({ cls := "ZSaves$Bytes", name := "dropFirst", desc := "(I)V" } : Jvm.MethodName)) ∈ am_T := am_tw 719 (by decide +kernel) (by decide +kernel)
theorem tw_686 : (Jvm.Cond.code ({ cls := "ZSaves$Bytes", name := "dropFirst", desc := "(I)V" } : Jvm.MethodName) prog_2_method_11_code (2 : Nat) (Option.none : Option Jvm.ClassFile.FieldType)) ∈ am_T := am_tw 720 (by decide +kernel) (by decide +kernel)
theorem tw_687 : (Jvm.Cond.methodLink "ZSaves$Kept" (47 : Nat) ({ cls := "ZSaves$Bytes", name := "addPart", desc := "(LZSaves$Bytes;II)V" } : Jvm.MethodName)) ∈ am_T := am_tw 721 (by decide +kernel) (by decide +kernel)
theorem tw_688 : (Jvm.Cond.methodLink "ZSavesLaw" (112 : Nat) ({ cls := "ZSaves", name := "undo", desc := "()I" } : Jvm.MethodName)) ∈ am_T := am_tw 722 (by decide +kernel) (by decide +kernel)
theorem tw_689 : (Jvm.Cond.instanceMethod ({ cls := "ZSaves", name := "undo", desc := "()I" } : Jvm.MethodName)) ∈ am_T := am_tw 723 (by decide +kernel) (by decide +kernel)
theorem tw_690 : (Jvm.Cond.selects "ZSaves" ({ cls := "ZSaves", name := "undo", desc := "()I" } : Jvm.MethodName) ({ cls := "ZSaves", name := "undo", desc := "()I" } : Jvm.MethodName)) ∈ am_T := am_tw 724 (by decide +kernel) (by decide +kernel)
theorem tw_691 : (Jvm.Cond.code ({ cls := "ZSaves", name := "undo", desc := "()I" } : Jvm.MethodName) prog_1_method_25_code (1 : Nat) (Option.some Jvm.ClassFile.FieldType.int)) ∈ am_T := am_tw 725 (by decide +kernel) (by decide +kernel)
theorem tw_692 : (Jvm.Cond.methodLink "ZSaves" (260 : Nat) ({ cls := "ZSaves$Kept", name := "takeLatest", desc := "(LZSaves$Story;LZSaves$Session;)V" } : Jvm.MethodName)) ∈ am_T := am_tw 726 (by decide +kernel) (by decide +kernel)
theorem tw_693 : (Jvm.Cond.instanceMethod ({ cls := "ZSaves$Kept", name := "takeLatest", desc := "(LZSaves$Story;LZSaves$Session;)V" } : Jvm.MethodName)) ∈ am_T := am_tw 727 (by decide +kernel) (by decide +kernel)
theorem tw_694 : (Jvm.Cond.selects "ZSaves$Kept" ({ cls := "ZSaves$Kept", name := "takeLatest", desc := "(LZSaves$Story;LZSaves$Session;)V" } : Jvm.MethodName) ({ cls := "ZSaves$Kept", name := "takeLatest", desc := "(LZSaves$Story;LZSaves$Session;)V" } : Jvm.MethodName)) ∈ am_T := am_tw 728 (by decide +kernel) (by decide +kernel)
theorem tw_695 : (Jvm.Cond.code ({ cls := "ZSaves$Kept", name := "takeLatest", desc := "(LZSaves$Story;LZSaves$Session;)V" } : Jvm.MethodName) prog_4_method_6_code (6 : Nat) (Option.none : Option Jvm.ClassFile.FieldType)) ∈ am_T := am_tw 729 (by decide +kernel) (by decide +kernel)
theorem tw_696 : (Jvm.Cond.methodLink "ZSaves$Kept" (57 : Nat) ({ cls := "ZSaves$Session", name := "begin", desc := "(LZSaves$Story;)V" } : Jvm.MethodName)) ∈ am_T := am_tw 730 (by decide +kernel) (by decide +kernel)
theorem tw_697 : (Jvm.Cond.methodLink "ZSaves$Kept" (63 : Nat) ({ cls := "ZSaves$Session", name := "takeRuns", desc := "(LZSaves$Bytes;II)I" } : Jvm.MethodName)) ∈ am_T := am_tw 731 (by decide +kernel) (by decide +kernel)
theorem tw_698 : (Jvm.Cond.methodLink "ZSaves$Kept" (67 : Nat) ({ cls := "ZSaves$Session", name := "takeFrames", desc := "(LZSaves$Bytes;II)I" } : Jvm.MethodName)) ∈ am_T := am_tw 732 (by decide +kernel) (by decide +kernel)
theorem tw_699 : (Jvm.Cond.methodLink "ZSaves$Kept" (73 : Nat) ({ cls := "ZSaves$Bytes", name := "keepFirst", desc := "(I)V" } : Jvm.MethodName)) ∈ am_T := am_tw 733 (by decide +kernel) (by decide +kernel)
theorem tw_700 : (Jvm.Cond.methodLink "ZSavesLaw" (116 : Nat) ({ cls := "ZSaves", name := "bound", desc := "(I)I" } : Jvm.MethodName)) ∈ am_T := am_tw 734 (by decide +kernel) (by decide +kernel)
theorem tw_701 : (Jvm.Cond.instanceMethod ({ cls := "ZSaves", name := "bound", desc := "(I)I" } : Jvm.MethodName)) ∈ am_T := am_tw 735 (by decide +kernel) (by decide +kernel)
theorem tw_702 : (Jvm.Cond.selects "ZSaves" ({ cls := "ZSaves", name := "bound", desc := "(I)I" } : Jvm.MethodName) ({ cls := "ZSaves", name := "bound", desc := "(I)I" } : Jvm.MethodName)) ∈ am_T := am_tw 736 (by decide +kernel) (by decide +kernel)
theorem tw_703 : (Jvm.Cond.code ({ cls := "ZSaves", name := "bound", desc := "(I)I" } : Jvm.MethodName) prog_1_method_26_code (3 : Nat) (Option.some Jvm.ClassFile.FieldType.int)) ∈ am_T := am_tw 737 (by decide +kernel) (by decide +kernel)
theorem tw_704 : (Jvm.Cond.methodLink "ZSaves" (264 : Nat) ({ cls := "ZSaves$Kept", name := "shrink", desc := "(II)V" } : Jvm.MethodName)) ∈ am_T := am_tw 738 (by decide +kernel) (by decide +kernel)
theorem tw_705 : (Jvm.Cond.methodLink "ZSavesLaw" (120 : Nat) ({ cls := "ZSaves", name := "restart", desc := "()I" } : Jvm.MethodName)) ∈ am_T := am_tw 739 (by decide +kernel) (by decide +kernel)
theorem tw_706 : (Jvm.Cond.instanceMethod ({ cls := "ZSaves", name := "restart", desc := "()I" } : Jvm.MethodName)) ∈ am_T := am_tw 740 (by decide +kernel) (by decide +kernel)
theorem tw_707 : (Jvm.Cond.selects "ZSaves" ({ cls := "ZSaves", name := "restart", desc := "()I" } : Jvm.MethodName) ({ cls := "ZSaves", name := "restart", desc := "()I" } : Jvm.MethodName)) ∈ am_T := am_tw 741 (by decide +kernel) (by decide +kernel)
theorem tw_708 : (Jvm.Cond.code ({ cls := "ZSaves", name := "restart", desc := "()I" } : Jvm.MethodName) prog_1_method_27_code (1 : Nat) (Option.some Jvm.ClassFile.FieldType.int)) ∈ am_T := am_tw 742 (by decide +kernel) (by decide +kernel)
theorem tw_709 : (Jvm.Cond.methodLink "ZSavesLaw" (124 : Nat) ({ cls := "ZSaves", name := "told", desc := "(I)I" } : Jvm.MethodName)) ∈ am_T := am_tw 743 (by decide +kernel) (by decide +kernel)
theorem tw_710 : (Jvm.Cond.instanceMethod ({ cls := "ZSaves", name := "told", desc := "(I)I" } : Jvm.MethodName)) ∈ am_T := am_tw 744 (by decide +kernel) (by decide +kernel)
theorem tw_711 : (Jvm.Cond.selects "ZSaves" ({ cls := "ZSaves", name := "told", desc := "(I)I" } : Jvm.MethodName) ({ cls := "ZSaves", name := "told", desc := "(I)I" } : Jvm.MethodName)) ∈ am_T := am_tw 745 (by decide +kernel) (by decide +kernel)
theorem tw_712 : (Jvm.Cond.code ({ cls := "ZSaves", name := "told", desc := "(I)I" } : Jvm.MethodName) prog_1_method_28_code (2 : Nat) (Option.some Jvm.ClassFile.FieldType.int)) ∈ am_T := am_tw 746 (by decide +kernel) (by decide +kernel)
theorem tw_713 : (Jvm.Cond.classLink "ZSavesLaw" (10 : Nat) "ZSavesModel") ∈ am_T := am_tw 747 (by decide +kernel) (by decide +kernel)
theorem tw_714 : (Jvm.Cond.instantiable "ZSavesModel" (29 : Nat)) ∈ am_T := am_tw 748 (by decide +kernel) (by decide +kernel)
theorem tw_715 : (Jvm.Cond.methodLink "ZSavesLaw" (12 : Nat) ({ cls := "ZSavesModel", name := "<init>", desc := "()V" } : Jvm.MethodName)) ∈ am_T := am_tw 749 (by decide +kernel) (by decide +kernel)
theorem tw_716 : (Jvm.Cond.instanceMethod ({ cls := "ZSavesModel", name := "<init>", desc := "()V" } : Jvm.MethodName)) ∈ am_T := am_tw 750 (by decide +kernel) (by decide +kernel)
theorem tw_717 : (Jvm.Cond.code ({ cls := "ZSavesModel", name := "<init>", desc := "()V" } : Jvm.MethodName) prog_11_method_1_code (1 : Nat) (Option.none : Option Jvm.ClassFile.FieldType)) ∈ am_T := am_tw 751 (by decide +kernel) (by decide +kernel)
theorem tw_718 : (Jvm.Cond.methodLink "ZSavesModel" (3 : Nat) ({ cls := "java/lang/Object", name := "<init>", desc := "()V" } : Jvm.MethodName)) ∈ am_T := am_tw 752 (by decide +kernel) (by decide +kernel)
theorem tw_719 : (Jvm.Cond.fieldLink "ZSavesModel" (9 : Nat) "ZSavesModel" "tape" "[I") ∈ am_T := am_tw 753 (by decide +kernel) (by decide +kernel)
theorem tw_720 : (Jvm.Cond.fieldLink "ZSavesModel" (68 : Nat) "ZSavesModel" "tapeSize" "I") ∈ am_T := am_tw 754 (by decide +kernel) (by decide +kernel)
theorem tw_721 : (Jvm.Cond.fieldLink "ZSavesModel" (13 : Nat) "ZSavesModel" "out" "[I") ∈ am_T := am_tw 755 (by decide +kernel) (by decide +kernel)
theorem tw_722 : (Jvm.Cond.fieldLink "ZSavesModel" (79 : Nat) "ZSavesModel" "outSize" "I") ∈ am_T := am_tw 756 (by decide +kernel) (by decide +kernel)
theorem tw_723 : (Jvm.Cond.fieldLink "ZSavesModel" (16 : Nat) "ZSavesModel" "disk" "[I") ∈ am_T := am_tw 757 (by decide +kernel) (by decide +kernel)
theorem tw_724 : (Jvm.Cond.fieldLink "ZSavesModel" (19 : Nat) "ZSavesModel" "diskSize" "I") ∈ am_T := am_tw 758 (by decide +kernel) (by decide +kernel)
theorem tw_725 : (Jvm.Cond.fieldLink "ZSavesModel" (23 : Nat) "ZSavesModel" "cutAt" "I") ∈ am_T := am_tw 759 (by decide +kernel) (by decide +kernel)
theorem tw_726 : (Jvm.Cond.fieldLink "ZSavesModel" (26 : Nat) "ZSavesModel" "head" "[I") ∈ am_T := am_tw 760 (by decide +kernel) (by decide +kernel)
theorem tw_727 : (Jvm.Cond.fieldLink "ZSavesModel" (29 : Nat) "ZSavesModel" "own" "[I") ∈ am_T := am_tw 761 (by decide +kernel) (by decide +kernel)
theorem tw_728 : (Jvm.Cond.fieldLink "ZSavesModel" (82 : Nat) "ZSavesModel" "size" "I") ∈ am_T := am_tw 762 (by decide +kernel) (by decide +kernel)
theorem tw_729 : (Jvm.Cond.fieldLink "ZSavesModel" (32 : Nat) "ZSavesModel" "now" "[I") ∈ am_T := am_tw 763 (by decide +kernel) (by decide +kernel)
theorem tw_730 : (Jvm.Cond.fieldLink "ZSavesModel" (35 : Nat) "ZSavesModel" "read" "[I") ∈ am_T := am_tw 764 (by decide +kernel) (by decide +kernel)
theorem tw_731 : (Jvm.Cond.fieldLink "ZSavesModel" (38 : Nat) "ZSavesModel" "kept" "[I") ∈ am_T := am_tw 765 (by decide +kernel) (by decide +kernel)
theorem tw_732 : (Jvm.Cond.fieldLink "ZSavesModel" (41 : Nat) "ZSavesModel" "weight" "[I") ∈ am_T := am_tw 766 (by decide +kernel) (by decide +kernel)
theorem tw_733 : (Jvm.Cond.fieldLink "ZSavesModel" (91 : Nat) "ZSavesModel" "keeps" "I") ∈ am_T := am_tw 767 (by decide +kernel) (by decide +kernel)
theorem tw_734 : (Jvm.Cond.fieldLink "ZSavesModel" (44 : Nat) "ZSavesModel" "most" "I") ∈ am_T := am_tw 768 (by decide +kernel) (by decide +kernel)
theorem tw_735 : (Jvm.Cond.fieldLink "ZSavesModel" (47 : Nat) "ZSavesModel" "strange" "[I") ∈ am_T := am_tw 769 (by decide +kernel) (by decide +kernel)
theorem tw_736 : (Jvm.Cond.fieldLink "ZSavesModel" (88 : Nat) "ZSavesModel" "strangers" "I") ∈ am_T := am_tw 770 (by decide +kernel) (by decide +kernel)
theorem tw_737 : (Jvm.Cond.fieldLink "ZSavesModel" (50 : Nat) "ZSavesModel" "newStrange" "[I") ∈ am_T := am_tw 771 (by decide +kernel) (by decide +kernel)
theorem tw_738 : (Jvm.Cond.fieldLink "ZSavesModel" (152 : Nat) "ZSavesModel" "newStrangers" "I") ∈ am_T := am_tw 772 (by decide +kernel) (by decide +kernel)
theorem tw_739 : (Jvm.Cond.fieldLink "ZSavesModel" (136 : Nat) "ZSavesModel" "code" "I") ∈ am_T := am_tw 773 (by decide +kernel) (by decide +kernel)
theorem tw_740 : (Jvm.Cond.fieldLink "ZSavesModel" (53 : Nat) "ZSavesModel" "place" "I") ∈ am_T := am_tw 774 (by decide +kernel) (by decide +kernel)
theorem tw_741 : (Jvm.Cond.fieldLink "ZSavesModel" (56 : Nat) "ZSavesModel" "chunkName" "[I") ∈ am_T := am_tw 775 (by decide +kernel) (by decide +kernel)
theorem tw_742 : (Jvm.Cond.fieldLink "ZSavesModel" (59 : Nat) "ZSavesModel" "chunkAt" "[I") ∈ am_T := am_tw 776 (by decide +kernel) (by decide +kernel)
theorem tw_743 : (Jvm.Cond.fieldLink "ZSavesModel" (62 : Nat) "ZSavesModel" "chunkSize" "[I") ∈ am_T := am_tw 777 (by decide +kernel) (by decide +kernel)
theorem tw_744 : (Jvm.Cond.fieldLink "ZSavesModel" (117 : Nat) "ZSavesModel" "chunks" "I") ∈ am_T := am_tw 778 (by decide +kernel) (by decide +kernel)
theorem tw_745 : (Jvm.Cond.fieldLink "ZSavesModel" (65 : Nat) "ZSavesModel" "made" "[I") ∈ am_T := am_tw 779 (by decide +kernel) (by decide +kernel)
theorem tw_746 : (Jvm.Cond.fieldLink "ZSavesModel" (100 : Nat) "ZSavesModel" "madeSize" "I") ∈ am_T := am_tw 780 (by decide +kernel) (by decide +kernel)
theorem tw_747 : (Jvm.Cond.fieldLink "ZSavesModel" (139 : Nat) "ZSavesModel" "fileSize" "I") ∈ am_T := am_tw 781 (by decide +kernel) (by decide +kernel)
theorem tw_748 : (Jvm.Cond.laysFinal "ZSavesModel" "ZSavesModel" "tape" "[I") ∈ am_T := am_tw 782 (by decide +kernel) (by decide +kernel)
theorem tw_750 : (Jvm.Cond.lays "ZSavesModel" "ZSavesModel" "tapeSize" "I") ∈ am_T := am_tw 784 (by decide +kernel) (by decide +kernel)
theorem tw_752 : (Jvm.Cond.laysFinal "ZSavesModel" "ZSavesModel" "out" "[I") ∈ am_T := am_tw 786 (by decide +kernel) (by decide +kernel)
theorem tw_754 : (Jvm.Cond.lays "ZSavesModel" "ZSavesModel" "outSize" "I") ∈ am_T := am_tw 788 (by decide +kernel) (by decide +kernel)
theorem tw_756 : (Jvm.Cond.laysFinal "ZSavesModel" "ZSavesModel" "disk" "[I") ∈ am_T := am_tw 790 (by decide +kernel) (by decide +kernel)
theorem tw_758 : (Jvm.Cond.lays "ZSavesModel" "ZSavesModel" "diskSize" "I") ∈ am_T := am_tw 792 (by decide +kernel) (by decide +kernel)
theorem tw_760 : (Jvm.Cond.lays "ZSavesModel" "ZSavesModel" "cutAt" "I") ∈ am_T := am_tw 794 (by decide +kernel) (by decide +kernel)
theorem tw_762 : (Jvm.Cond.laysFinal "ZSavesModel" "ZSavesModel" "head" "[I") ∈ am_T := am_tw 796 (by decide +kernel) (by decide +kernel)
theorem tw_764 : (Jvm.Cond.laysFinal "ZSavesModel" "ZSavesModel" "own" "[I") ∈ am_T := am_tw 798 (by decide +kernel) (by decide +kernel)
theorem tw_766 : (Jvm.Cond.lays "ZSavesModel" "ZSavesModel" "size" "I") ∈ am_T := am_tw 800 (by decide +kernel) (by decide +kernel)
theorem tw_768 : (Jvm.Cond.laysFinal "ZSavesModel" "ZSavesModel" "now" "[I") ∈ am_T := am_tw 802 (by decide +kernel) (by decide +kernel)
theorem tw_770 : (Jvm.Cond.laysFinal "ZSavesModel" "ZSavesModel" "read" "[I") ∈ am_T := am_tw 804 (by decide +kernel) (by decide +kernel)
theorem tw_772 : (Jvm.Cond.laysFinal "ZSavesModel" "ZSavesModel" "kept" "[I") ∈ am_T := am_tw 806 (by decide +kernel) (by decide +kernel)
theorem tw_774 : (Jvm.Cond.laysFinal "ZSavesModel" "ZSavesModel" "weight" "[I") ∈ am_T := am_tw 808 (by decide +kernel) (by decide +kernel)
theorem tw_776 : (Jvm.Cond.lays "ZSavesModel" "ZSavesModel" "keeps" "I") ∈ am_T := am_tw 810 (by decide +kernel) (by decide +kernel)
theorem tw_778 : (Jvm.Cond.lays "ZSavesModel" "ZSavesModel" "most" "I") ∈ am_T := am_tw 812 (by decide +kernel) (by decide +kernel)
theorem tw_780 : (Jvm.Cond.laysFinal "ZSavesModel" "ZSavesModel" "strange" "[I") ∈ am_T := am_tw 814 (by decide +kernel) (by decide +kernel)
theorem tw_782 : (Jvm.Cond.lays "ZSavesModel" "ZSavesModel" "strangers" "I") ∈ am_T := am_tw 816 (by decide +kernel) (by decide +kernel)
theorem tw_784 : (Jvm.Cond.laysFinal "ZSavesModel" "ZSavesModel" "newStrange" "[I") ∈ am_T := am_tw 818 (by decide +kernel) (by decide +kernel)
theorem tw_786 : (Jvm.Cond.lays "ZSavesModel" "ZSavesModel" "newStrangers" "I") ∈ am_T := am_tw 820 (by decide +kernel) (by decide +kernel)
theorem tw_788 : (Jvm.Cond.lays "ZSavesModel" "ZSavesModel" "code" "I") ∈ am_T := am_tw 822 (by decide +kernel) (by decide +kernel)
theorem tw_790 : (Jvm.Cond.lays "ZSavesModel" "ZSavesModel" "place" "I") ∈ am_T := am_tw 824 (by decide +kernel) (by decide +kernel)
theorem tw_792 : (Jvm.Cond.laysFinal "ZSavesModel" "ZSavesModel" "chunkName" "[I") ∈ am_T := am_tw 826 (by decide +kernel) (by decide +kernel)
theorem tw_794 : (Jvm.Cond.laysFinal "ZSavesModel" "ZSavesModel" "chunkAt" "[I") ∈ am_T := am_tw 828 (by decide +kernel) (by decide +kernel)
theorem tw_796 : (Jvm.Cond.laysFinal "ZSavesModel" "ZSavesModel" "chunkSize" "[I") ∈ am_T := am_tw 830 (by decide +kernel) (by decide +kernel)
theorem tw_798 : (Jvm.Cond.lays "ZSavesModel" "ZSavesModel" "chunks" "I") ∈ am_T := am_tw 832 (by decide +kernel) (by decide +kernel)
theorem tw_800 : (Jvm.Cond.laysFinal "ZSavesModel" "ZSavesModel" "made" "[I") ∈ am_T := am_tw 834 (by decide +kernel) (by decide +kernel)
theorem tw_802 : (Jvm.Cond.lays "ZSavesModel" "ZSavesModel" "madeSize" "I") ∈ am_T := am_tw 836 (by decide +kernel) (by decide +kernel)
theorem tw_804 : (Jvm.Cond.lays "ZSavesModel" "ZSavesModel" "fileSize" "I") ∈ am_T := am_tw 838 (by decide +kernel) (by decide +kernel)
theorem tw_807 : (Jvm.Cond.methodLink "ZSavesLaw" (17 : Nat) ({ cls := "ZSavesModel", name := "feed", desc := "(IIIII)I" } : Jvm.MethodName)) ∈ am_T := am_tw 841 (by decide +kernel) (by decide +kernel)
theorem tw_808 : (Jvm.Cond.instanceMethod ({ cls := "ZSavesModel", name := "feed", desc := "(IIIII)I" } : Jvm.MethodName)) ∈ am_T := am_tw 842 (by decide +kernel) (by decide +kernel)
theorem tw_809 : (Jvm.Cond.selects "ZSavesModel" ({ cls := "ZSavesModel", name := "feed", desc := "(IIIII)I" } : Jvm.MethodName) ({ cls := "ZSavesModel", name := "feed", desc := "(IIIII)I" } : Jvm.MethodName)) ∈ am_T := am_tw 843 (by decide +kernel) (by decide +kernel)
theorem tw_810 : (Jvm.Cond.code ({ cls := "ZSavesModel", name := "feed", desc := "(IIIII)I" } : Jvm.MethodName) prog_11_method_3_code (6 : Nat) (Option.some Jvm.ClassFile.FieldType.int)) ∈ am_T := am_tw 844 (by decide +kernel) (by decide +kernel)
theorem tw_811 : (Jvm.Cond.methodLink "ZSavesModel" (71 : Nat) ({ cls := "ZSavesModel", name := "four", desc := "(II)V" } : Jvm.MethodName)) ∈ am_T := am_tw 845 (by decide +kernel) (by decide +kernel)
theorem tw_813 : (Jvm.Cond.instanceMethod ({ cls := "ZSavesModel", name := "four", desc := "(II)V" } : Jvm.MethodName)) ∈ am_T := am_tw 847 (by decide +kernel) (by decide +kernel)
theorem tw_814 : (Jvm.Cond.code ({ cls := "ZSavesModel", name := "four", desc := "(II)V" } : Jvm.MethodName) prog_11_method_4_code (4 : Nat) (Option.none : Option Jvm.ClassFile.FieldType)) ∈ am_T := am_tw 848 (by decide +kernel) (by decide +kernel)
theorem tw_815 : (Jvm.Cond.methodLink "ZSavesLaw" (22 : Nat) ({ cls := "ZSavesModel", name := "end", desc := "(I)I" } : Jvm.MethodName)) ∈ am_T := am_tw 849 (by decide +kernel) (by decide +kernel)
theorem tw_816 : (Jvm.Cond.instanceMethod ({ cls := "ZSavesModel", name := "end", desc := "(I)I" } : Jvm.MethodName)) ∈ am_T := am_tw 850 (by decide +kernel) (by decide +kernel)
theorem tw_817 : (Jvm.Cond.selects "ZSavesModel" ({ cls := "ZSavesModel", name := "end", desc := "(I)I" } : Jvm.MethodName) ({ cls := "ZSavesModel", name := "end", desc := "(I)I" } : Jvm.MethodName)) ∈ am_T := am_tw 851 (by decide +kernel) (by decide +kernel)
theorem tw_818 : (Jvm.Cond.code ({ cls := "ZSavesModel", name := "end", desc := "(I)I" } : Jvm.MethodName) prog_11_method_5_code (3 : Nat) (Option.some Jvm.ClassFile.FieldType.int)) ∈ am_T := am_tw 852 (by decide +kernel) (by decide +kernel)
theorem tw_819 : (Jvm.Cond.methodLink "ZSavesModel" (75 : Nat) ({ cls := "ZSavesModel", name := "outside", desc := "(III)Z" } : Jvm.MethodName)) ∈ am_T := am_tw 853 (by decide +kernel) (by decide +kernel)
theorem tw_820 : (Jvm.Cond.static ({ cls := "ZSavesModel", name := "outside", desc := "(III)Z" } : Jvm.MethodName)) ∈ am_T := am_tw 854 (by decide +kernel) (by decide +kernel)
theorem tw_821 : (Jvm.Cond.code ({ cls := "ZSavesModel", name := "outside", desc := "(III)Z" } : Jvm.MethodName) prog_11_method_2_code (3 : Nat) (Option.some Jvm.ClassFile.FieldType.boolean)) ∈ am_T := am_tw 855 (by decide +kernel) (by decide +kernel)
theorem tw_822 : (Jvm.Cond.methodLink "ZSavesLaw" (26 : Nat) ({ cls := "ZSavesModel", name := "out", desc := "(I)I" } : Jvm.MethodName)) ∈ am_T := am_tw 856 (by decide +kernel) (by decide +kernel)
theorem tw_823 : (Jvm.Cond.instanceMethod ({ cls := "ZSavesModel", name := "out", desc := "(I)I" } : Jvm.MethodName)) ∈ am_T := am_tw 857 (by decide +kernel) (by decide +kernel)
theorem tw_824 : (Jvm.Cond.selects "ZSavesModel" ({ cls := "ZSavesModel", name := "out", desc := "(I)I" } : Jvm.MethodName) ({ cls := "ZSavesModel", name := "out", desc := "(I)I" } : Jvm.MethodName)) ∈ am_T := am_tw 858 (by decide +kernel) (by decide +kernel)
theorem tw_825 : (Jvm.Cond.code ({ cls := "ZSavesModel", name := "out", desc := "(I)I" } : Jvm.MethodName) prog_11_method_6_code (2 : Nat) (Option.some Jvm.ClassFile.FieldType.int)) ∈ am_T := am_tw 859 (by decide +kernel) (by decide +kernel)
theorem tw_826 : (Jvm.Cond.methodLink "ZSavesLaw" (31 : Nat) ({ cls := "ZSavesModel", name := "back", desc := "()I" } : Jvm.MethodName)) ∈ am_T := am_tw 860 (by decide +kernel) (by decide +kernel)
theorem tw_827 : (Jvm.Cond.instanceMethod ({ cls := "ZSavesModel", name := "back", desc := "()I" } : Jvm.MethodName)) ∈ am_T := am_tw 861 (by decide +kernel) (by decide +kernel)
theorem tw_828 : (Jvm.Cond.selects "ZSavesModel" ({ cls := "ZSavesModel", name := "back", desc := "()I" } : Jvm.MethodName) ({ cls := "ZSavesModel", name := "back", desc := "()I" } : Jvm.MethodName)) ∈ am_T := am_tw 862 (by decide +kernel) (by decide +kernel)
theorem tw_829 : (Jvm.Cond.code ({ cls := "ZSavesModel", name := "back", desc := "()I" } : Jvm.MethodName) prog_11_method_7_code (2 : Nat) (Option.some Jvm.ClassFile.FieldType.int)) ∈ am_T := am_tw 863 (by decide +kernel) (by decide +kernel)
theorem tw_830 : (Jvm.Cond.methodLink "ZSavesLaw" (35 : Nat) ({ cls := "ZSavesModel", name := "story", desc := "()I" } : Jvm.MethodName)) ∈ am_T := am_tw 864 (by decide +kernel) (by decide +kernel)
theorem tw_831 : (Jvm.Cond.instanceMethod ({ cls := "ZSavesModel", name := "story", desc := "()I" } : Jvm.MethodName)) ∈ am_T := am_tw 865 (by decide +kernel) (by decide +kernel)
theorem tw_832 : (Jvm.Cond.selects "ZSavesModel" ({ cls := "ZSavesModel", name := "story", desc := "()I" } : Jvm.MethodName) ({ cls := "ZSavesModel", name := "story", desc := "()I" } : Jvm.MethodName)) ∈ am_T := am_tw 866 (by decide +kernel) (by decide +kernel)
theorem tw_833 : (Jvm.Cond.code ({ cls := "ZSavesModel", name := "story", desc := "()I" } : Jvm.MethodName) prog_11_method_8_code (3 : Nat) (Option.some Jvm.ClassFile.FieldType.int)) ∈ am_T := am_tw 867 (by decide +kernel) (by decide +kernel)
theorem tw_834 : (Jvm.Cond.methodLink "ZSavesModel" (85 : Nat) ({ cls := "ZSavesModel", name := "begin", desc := "()V" } : Jvm.MethodName)) ∈ am_T := am_tw 868 (by decide +kernel) (by decide +kernel)
theorem tw_836 : (Jvm.Cond.instanceMethod ({ cls := "ZSavesModel", name := "begin", desc := "()V" } : Jvm.MethodName)) ∈ am_T := am_tw 870 (by decide +kernel) (by decide +kernel)
theorem tw_837 : (Jvm.Cond.code ({ cls := "ZSavesModel", name := "begin", desc := "()V" } : Jvm.MethodName) prog_11_method_9_code (2 : Nat) (Option.none : Option Jvm.ClassFile.FieldType)) ∈ am_T := am_tw 871 (by decide +kernel) (by decide +kernel)
theorem tw_838 : (Jvm.Cond.methodLink "ZSavesLaw" (40 : Nat) ({ cls := "ZSavesModel", name := "poke", desc := "(II)I" } : Jvm.MethodName)) ∈ am_T := am_tw 872 (by decide +kernel) (by decide +kernel)
theorem tw_839 : (Jvm.Cond.instanceMethod ({ cls := "ZSavesModel", name := "poke", desc := "(II)I" } : Jvm.MethodName)) ∈ am_T := am_tw 873 (by decide +kernel) (by decide +kernel)
theorem tw_840 : (Jvm.Cond.selects "ZSavesModel" ({ cls := "ZSavesModel", name := "poke", desc := "(II)I" } : Jvm.MethodName) ({ cls := "ZSavesModel", name := "poke", desc := "(II)I" } : Jvm.MethodName)) ∈ am_T := am_tw 874 (by decide +kernel) (by decide +kernel)
theorem tw_841 : (Jvm.Cond.code ({ cls := "ZSavesModel", name := "poke", desc := "(II)I" } : Jvm.MethodName) prog_11_method_12_code (4 : Nat) (Option.some Jvm.ClassFile.FieldType.int)) ∈ am_T := am_tw 875 (by decide +kernel) (by decide +kernel)
theorem tw_842 : (Jvm.Cond.methodLink "ZSavesLaw" (44 : Nat) ({ cls := "ZSavesModel", name := "peek", desc := "(I)I" } : Jvm.MethodName)) ∈ am_T := am_tw 876 (by decide +kernel) (by decide +kernel)
theorem tw_843 : (Jvm.Cond.instanceMethod ({ cls := "ZSavesModel", name := "peek", desc := "(I)I" } : Jvm.MethodName)) ∈ am_T := am_tw 877 (by decide +kernel) (by decide +kernel)
theorem tw_844 : (Jvm.Cond.selects "ZSavesModel" ({ cls := "ZSavesModel", name := "peek", desc := "(I)I" } : Jvm.MethodName) ({ cls := "ZSavesModel", name := "peek", desc := "(I)I" } : Jvm.MethodName)) ∈ am_T := am_tw 878 (by decide +kernel) (by decide +kernel)
theorem tw_845 : (Jvm.Cond.code ({ cls := "ZSavesModel", name := "peek", desc := "(I)I" } : Jvm.MethodName) prog_11_method_13_code (2 : Nat) (Option.some Jvm.ClassFile.FieldType.int)) ∈ am_T := am_tw 879 (by decide +kernel) (by decide +kernel)
theorem tw_846 : (Jvm.Cond.methodLink "ZSavesLaw" (48 : Nat) ({ cls := "ZSavesModel", name := "jump", desc := "(I)I" } : Jvm.MethodName)) ∈ am_T := am_tw 880 (by decide +kernel) (by decide +kernel)
theorem tw_847 : (Jvm.Cond.instanceMethod ({ cls := "ZSavesModel", name := "jump", desc := "(I)I" } : Jvm.MethodName)) ∈ am_T := am_tw 881 (by decide +kernel) (by decide +kernel)
theorem tw_848 : (Jvm.Cond.selects "ZSavesModel" ({ cls := "ZSavesModel", name := "jump", desc := "(I)I" } : Jvm.MethodName) ({ cls := "ZSavesModel", name := "jump", desc := "(I)I" } : Jvm.MethodName)) ∈ am_T := am_tw 882 (by decide +kernel) (by decide +kernel)
theorem tw_849 : (Jvm.Cond.code ({ cls := "ZSavesModel", name := "jump", desc := "(I)I" } : Jvm.MethodName) prog_11_method_14_code (3 : Nat) (Option.some Jvm.ClassFile.FieldType.int)) ∈ am_T := am_tw 883 (by decide +kernel) (by decide +kernel)
theorem tw_850 : (Jvm.Cond.constant "ZSavesModel" (94 : Nat) (16777215 : Int32)) ∈ am_T := am_tw 884 (by decide +kernel) (by decide +kernel)
theorem tw_851 : (Jvm.Cond.methodLink "ZSavesLaw" (53 : Nat) ({ cls := "ZSavesModel", name := "call", desc := "(IIII)I" } : Jvm.MethodName)) ∈ am_T := am_tw 885 (by decide +kernel) (by decide +kernel)
theorem tw_852 : (Jvm.Cond.instanceMethod ({ cls := "ZSavesModel", name := "call", desc := "(IIII)I" } : Jvm.MethodName)) ∈ am_T := am_tw 886 (by decide +kernel) (by decide +kernel)
theorem tw_853 : (Jvm.Cond.selects "ZSavesModel" ({ cls := "ZSavesModel", name := "call", desc := "(IIII)I" } : Jvm.MethodName) ({ cls := "ZSavesModel", name := "call", desc := "(IIII)I" } : Jvm.MethodName)) ∈ am_T := am_tw 887 (by decide +kernel) (by decide +kernel)
theorem tw_854 : (Jvm.Cond.code ({ cls := "ZSavesModel", name := "call", desc := "(IIII)I" } : Jvm.MethodName) prog_11_method_16_code (7 : Nat) (Option.some Jvm.ClassFile.FieldType.int)) ∈ am_T := am_tw 888 (by decide +kernel) (by decide +kernel)
theorem tw_855 : (Jvm.Cond.methodLink "ZSavesModel" (95 : Nat) ({ cls := "ZSavesModel", name := "newest", desc := "()I" } : Jvm.MethodName)) ∈ am_T := am_tw 889 (by decide +kernel) (by decide +kernel)
theorem tw_857 : (Jvm.Cond.instanceMethod ({ cls := "ZSavesModel", name := "newest", desc := "()I" } : Jvm.MethodName)) ∈ am_T := am_tw 891 (by decide +kernel) (by decide +kernel)
theorem tw_858 : (Jvm.Cond.code ({ cls := "ZSavesModel", name := "newest", desc := "()I" } : Jvm.MethodName) prog_11_method_15_code (1 : Nat) (Option.some Jvm.ClassFile.FieldType.int)) ∈ am_T := am_tw 892 (by decide +kernel) (by decide +kernel)
theorem tw_859 : (Jvm.Cond.methodLink "ZSavesLaw" (57 : Nat) ({ cls := "ZSavesModel", name := "leave", desc := "()I" } : Jvm.MethodName)) ∈ am_T := am_tw 893 (by decide +kernel) (by decide +kernel)
theorem tw_860 : (Jvm.Cond.instanceMethod ({ cls := "ZSavesModel", name := "leave", desc := "()I" } : Jvm.MethodName)) ∈ am_T := am_tw 894 (by decide +kernel) (by decide +kernel)
theorem tw_861 : (Jvm.Cond.selects "ZSavesModel" ({ cls := "ZSavesModel", name := "leave", desc := "()I" } : Jvm.MethodName) ({ cls := "ZSavesModel", name := "leave", desc := "()I" } : Jvm.MethodName)) ∈ am_T := am_tw 895 (by decide +kernel) (by decide +kernel)
theorem tw_862 : (Jvm.Cond.code ({ cls := "ZSavesModel", name := "leave", desc := "()I" } : Jvm.MethodName) prog_11_method_17_code (1 : Nat) (Option.some Jvm.ClassFile.FieldType.int)) ∈ am_T := am_tw 896 (by decide +kernel) (by decide +kernel)
theorem tw_863 : (Jvm.Cond.methodLink "ZSavesLaw" (61 : Nat) ({ cls := "ZSavesModel", name := "local", desc := "(II)I" } : Jvm.MethodName)) ∈ am_T := am_tw 897 (by decide +kernel) (by decide +kernel)
theorem tw_864 : (Jvm.Cond.instanceMethod ({ cls := "ZSavesModel", name := "local", desc := "(II)I" } : Jvm.MethodName)) ∈ am_T := am_tw 898 (by decide +kernel) (by decide +kernel)
theorem tw_865 : (Jvm.Cond.selects "ZSavesModel" ({ cls := "ZSavesModel", name := "local", desc := "(II)I" } : Jvm.MethodName) ({ cls := "ZSavesModel", name := "local", desc := "(II)I" } : Jvm.MethodName)) ∈ am_T := am_tw 899 (by decide +kernel) (by decide +kernel)
theorem tw_866 : (Jvm.Cond.code ({ cls := "ZSavesModel", name := "local", desc := "(II)I" } : Jvm.MethodName) prog_11_method_18_code (5 : Nat) (Option.some Jvm.ClassFile.FieldType.int)) ∈ am_T := am_tw 900 (by decide +kernel) (by decide +kernel)
theorem tw_867 : (Jvm.Cond.constant "ZSavesModel" (99 : Nat) (65535 : Int32)) ∈ am_T := am_tw 901 (by decide +kernel) (by decide +kernel)
theorem tw_868 : (Jvm.Cond.methodLink "ZSavesLaw" (65 : Nat) ({ cls := "ZSavesModel", name := "push", desc := "(I)I" } : Jvm.MethodName)) ∈ am_T := am_tw 902 (by decide +kernel) (by decide +kernel)
theorem tw_869 : (Jvm.Cond.instanceMethod ({ cls := "ZSavesModel", name := "push", desc := "(I)I" } : Jvm.MethodName)) ∈ am_T := am_tw 903 (by decide +kernel) (by decide +kernel)
theorem tw_870 : (Jvm.Cond.selects "ZSavesModel" ({ cls := "ZSavesModel", name := "push", desc := "(I)I" } : Jvm.MethodName) ({ cls := "ZSavesModel", name := "push", desc := "(I)I" } : Jvm.MethodName)) ∈ am_T := am_tw 904 (by decide +kernel) (by decide +kernel)
theorem tw_871 : (Jvm.Cond.code ({ cls := "ZSavesModel", name := "push", desc := "(I)I" } : Jvm.MethodName) prog_11_method_19_code (3 : Nat) (Option.some Jvm.ClassFile.FieldType.int)) ∈ am_T := am_tw 905 (by decide +kernel) (by decide +kernel)
theorem tw_872 : (Jvm.Cond.methodLink "ZSavesLaw" (69 : Nat) ({ cls := "ZSavesModel", name := "pop", desc := "()I" } : Jvm.MethodName)) ∈ am_T := am_tw 906 (by decide +kernel) (by decide +kernel)
theorem tw_873 : (Jvm.Cond.instanceMethod ({ cls := "ZSavesModel", name := "pop", desc := "()I" } : Jvm.MethodName)) ∈ am_T := am_tw 907 (by decide +kernel) (by decide +kernel)
theorem tw_874 : (Jvm.Cond.selects "ZSavesModel" ({ cls := "ZSavesModel", name := "pop", desc := "()I" } : Jvm.MethodName) ({ cls := "ZSavesModel", name := "pop", desc := "()I" } : Jvm.MethodName)) ∈ am_T := am_tw 908 (by decide +kernel) (by decide +kernel)
theorem tw_875 : (Jvm.Cond.code ({ cls := "ZSavesModel", name := "pop", desc := "()I" } : Jvm.MethodName) prog_11_method_20_code (2 : Nat) (Option.some Jvm.ClassFile.FieldType.int)) ∈ am_T := am_tw 909 (by decide +kernel) (by decide +kernel)
theorem tw_876 : (Jvm.Cond.methodLink "ZSavesLaw" (73 : Nat) ({ cls := "ZSavesModel", name := "frame", desc := "(II)I" } : Jvm.MethodName)) ∈ am_T := am_tw 910 (by decide +kernel) (by decide +kernel)
theorem tw_877 : (Jvm.Cond.instanceMethod ({ cls := "ZSavesModel", name := "frame", desc := "(II)I" } : Jvm.MethodName)) ∈ am_T := am_tw 911 (by decide +kernel) (by decide +kernel)
theorem tw_878 : (Jvm.Cond.selects "ZSavesModel" ({ cls := "ZSavesModel", name := "frame", desc := "(II)I" } : Jvm.MethodName) ({ cls := "ZSavesModel", name := "frame", desc := "(II)I" } : Jvm.MethodName)) ∈ am_T := am_tw 912 (by decide +kernel) (by decide +kernel)
theorem tw_879 : (Jvm.Cond.code ({ cls := "ZSavesModel", name := "frame", desc := "(II)I" } : Jvm.MethodName) prog_11_method_21_code (4 : Nat) (Option.some Jvm.ClassFile.FieldType.int)) ∈ am_T := am_tw 913 (by decide +kernel) (by decide +kernel)
theorem tw_880 : (Jvm.Cond.methodLink "ZSavesLaw" (78 : Nat) ({ cls := "ZSavesModel", name := "print", desc := "()J" } : Jvm.MethodName)) ∈ am_T := am_tw 914 (by decide +kernel) (by decide +kernel)
theorem tw_881 : (Jvm.Cond.instanceMethod ({ cls := "ZSavesModel", name := "print", desc := "()J" } : Jvm.MethodName)) ∈ am_T := am_tw 915 (by decide +kernel) (by decide +kernel)
theorem tw_882 : (Jvm.Cond.selects "ZSavesModel" ({ cls := "ZSavesModel", name := "print", desc := "()J" } : Jvm.MethodName) ({ cls := "ZSavesModel", name := "print", desc := "()J" } : Jvm.MethodName)) ∈ am_T := am_tw 916 (by decide +kernel) (by decide +kernel)
theorem tw_883 : (Jvm.Cond.code ({ cls := "ZSavesModel", name := "print", desc := "()J" } : Jvm.MethodName) prog_11_method_26_code (4 : Nat) (Option.some Jvm.ClassFile.FieldType.long)) ∈ am_T := am_tw 917 (by decide +kernel) (by decide +kernel)
theorem tw_884 : (Jvm.Cond.methodLink "ZSavesModel" (103 : Nat) ({ cls := "ZSavesModel", name := "number", desc := "(II)V" } : Jvm.MethodName)) ∈ am_T := am_tw 918 (by decide +kernel) (by decide +kernel)
theorem tw_886 : (Jvm.Cond.instanceMethod ({ cls := "ZSavesModel", name := "number", desc := "(II)V" } : Jvm.MethodName)) ∈ am_T := am_tw 920 (by decide +kernel) (by decide +kernel)
theorem tw_887 : (Jvm.Cond.code ({ cls := "ZSavesModel", name := "number", desc := "(II)V" } : Jvm.MethodName) prog_11_method_22_code (4 : Nat) (Option.none : Option Jvm.ClassFile.FieldType)) ∈ am_T := am_tw 921 (by decide +kernel) (by decide +kernel)
theorem tw_888 : (Jvm.Cond.methodLink "ZSavesModel" (110 : Nat) ({ cls := "ZSavesModel", name := "makeD", desc := "([I)V" } : Jvm.MethodName)) ∈ am_T := am_tw 922 (by decide +kernel) (by decide +kernel)
theorem tw_890 : (Jvm.Cond.instanceMethod ({ cls := "ZSavesModel", name := "makeD", desc := "([I)V" } : Jvm.MethodName)) ∈ am_T := am_tw 924 (by decide +kernel) (by decide +kernel)
theorem tw_891 : (Jvm.Cond.code ({ cls := "ZSavesModel", name := "makeD", desc := "([I)V" } : Jvm.MethodName) prog_11_method_24_code (6 : Nat) (Option.none : Option Jvm.ClassFile.FieldType)) ∈ am_T := am_tw 925 (by decide +kernel) (by decide +kernel)
theorem tw_892 : (Jvm.Cond.constantLong "ZSavesModel" (113 : Nat) (-3750763034362895579 : Int64)) ∈ am_T := am_tw 926 (by decide +kernel) (by decide +kernel)
theorem tw_893 : (Jvm.Cond.constantLong "ZSavesModel" (115 : Nat) (1099511628211 : Int64)) ∈ am_T := am_tw 927 (by decide +kernel) (by decide +kernel)
theorem tw_894 : (Jvm.Cond.methodLink "ZSavesLaw" (83 : Nat) ({ cls := "ZSavesModel", name := "save", desc := "(Z)I" } : Jvm.MethodName)) ∈ am_T := am_tw 928 (by decide +kernel) (by decide +kernel)
theorem tw_895 : (Jvm.Cond.instanceMethod ({ cls := "ZSavesModel", name := "save", desc := "(Z)I" } : Jvm.MethodName)) ∈ am_T := am_tw 929 (by decide +kernel) (by decide +kernel)
theorem tw_896 : (Jvm.Cond.selects "ZSavesModel" ({ cls := "ZSavesModel", name := "save", desc := "(Z)I" } : Jvm.MethodName) ({ cls := "ZSavesModel", name := "save", desc := "(Z)I" } : Jvm.MethodName)) ∈ am_T := am_tw 930 (by decide +kernel) (by decide +kernel)
theorem tw_897 : (Jvm.Cond.code ({ cls := "ZSavesModel", name := "save", desc := "(Z)I" } : Jvm.MethodName) prog_11_method_30_code (4 : Nat) (Option.some Jvm.ClassFile.FieldType.int)) ∈ am_T := am_tw 931 (by decide +kernel) (by decide +kernel)
theorem tw_898 : (Jvm.Cond.constant "ZSavesModel" (123 : Nat) (1179603533 : Int32)) ∈ am_T := am_tw 932 (by decide +kernel) (by decide +kernel)
theorem tw_899 : (Jvm.Cond.constant "ZSavesModel" (124 : Nat) (1229347411 : Int32)) ∈ am_T := am_tw 933 (by decide +kernel) (by decide +kernel)
theorem tw_900 : (Jvm.Cond.constant "ZSavesModel" (125 : Nat) (1229351012 : Int32)) ∈ am_T := am_tw 934 (by decide +kernel) (by decide +kernel)
theorem tw_901 : (Jvm.Cond.methodLink "ZSavesModel" (126 : Nat) ({ cls := "ZSavesModel", name := "open", desc := "(I)V" } : Jvm.MethodName)) ∈ am_T := am_tw 935 (by decide +kernel) (by decide +kernel)
theorem tw_903 : (Jvm.Cond.instanceMethod ({ cls := "ZSavesModel", name := "open", desc := "(I)V" } : Jvm.MethodName)) ∈ am_T := am_tw 937 (by decide +kernel) (by decide +kernel)
theorem tw_904 : (Jvm.Cond.code ({ cls := "ZSavesModel", name := "open", desc := "(I)V" } : Jvm.MethodName) prog_11_method_27_code (2 : Nat) (Option.none : Option Jvm.ClassFile.FieldType)) ∈ am_T := am_tw 938 (by decide +kernel) (by decide +kernel)
theorem tw_905 : (Jvm.Cond.methodLink "ZSavesModel" (130 : Nat) ({ cls := "ZSavesModel", name := "close", desc := "()V" } : Jvm.MethodName)) ∈ am_T := am_tw 939 (by decide +kernel) (by decide +kernel)
theorem tw_907 : (Jvm.Cond.instanceMethod ({ cls := "ZSavesModel", name := "close", desc := "()V" } : Jvm.MethodName)) ∈ am_T := am_tw 941 (by decide +kernel) (by decide +kernel)
theorem tw_908 : (Jvm.Cond.code ({ cls := "ZSavesModel", name := "close", desc := "()V" } : Jvm.MethodName) prog_11_method_28_code (2 : Nat) (Option.none : Option Jvm.ClassFile.FieldType)) ∈ am_T := am_tw 942 (by decide +kernel) (by decide +kernel)
theorem tw_909 : (Jvm.Cond.methodLink "ZSavesModel" (120 : Nat) ({ cls := "ZSavesModel", name := "patch", desc := "(II)V" } : Jvm.MethodName)) ∈ am_T := am_tw 943 (by decide +kernel) (by decide +kernel)
theorem tw_911 : (Jvm.Cond.instanceMethod ({ cls := "ZSavesModel", name := "patch", desc := "(II)V" } : Jvm.MethodName)) ∈ am_T := am_tw 945 (by decide +kernel) (by decide +kernel)
theorem tw_912 : (Jvm.Cond.code ({ cls := "ZSavesModel", name := "patch", desc := "(II)V" } : Jvm.MethodName) prog_11_method_29_code (4 : Nat) (Option.none : Option Jvm.ClassFile.FieldType)) ∈ am_T := am_tw 946 (by decide +kernel) (by decide +kernel)
theorem tw_913 : (Jvm.Cond.constant "ZSavesModel" (133 : Nat) (1431135597 : Int32)) ∈ am_T := am_tw 947 (by decide +kernel) (by decide +kernel)
theorem tw_914 : (Jvm.Cond.constant "ZSavesModel" (134 : Nat) (1129145709 : Int32)) ∈ am_T := am_tw 948 (by decide +kernel) (by decide +kernel)
theorem tw_915 : (Jvm.Cond.methodLink "ZSavesModel" (106 : Nat) ({ cls := "ZSavesModel", name := "makeB", desc := "([I)V" } : Jvm.MethodName)) ∈ am_T := am_tw 949 (by decide +kernel) (by decide +kernel)
theorem tw_917 : (Jvm.Cond.instanceMethod ({ cls := "ZSavesModel", name := "makeB", desc := "([I)V" } : Jvm.MethodName)) ∈ am_T := am_tw 951 (by decide +kernel) (by decide +kernel)
theorem tw_918 : (Jvm.Cond.code ({ cls := "ZSavesModel", name := "makeB", desc := "([I)V" } : Jvm.MethodName) prog_11_method_23_code (6 : Nat) (Option.none : Option Jvm.ClassFile.FieldType)) ∈ am_T := am_tw 952 (by decide +kernel) (by decide +kernel)
theorem tw_919 : (Jvm.Cond.constant "ZSavesModel" (135 : Nat) (1400138611 : Int32)) ∈ am_T := am_tw 953 (by decide +kernel) (by decide +kernel)
theorem tw_920 : (Jvm.Cond.methodLink "ZSavesLaw" (87 : Nat) ({ cls := "ZSavesModel", name := "restore", desc := "()I" } : Jvm.MethodName)) ∈ am_T := am_tw 954 (by decide +kernel) (by decide +kernel)
theorem tw_921 : (Jvm.Cond.instanceMethod ({ cls := "ZSavesModel", name := "restore", desc := "()I" } : Jvm.MethodName)) ∈ am_T := am_tw 955 (by decide +kernel) (by decide +kernel)
theorem tw_922 : (Jvm.Cond.selects "ZSavesModel" ({ cls := "ZSavesModel", name := "restore", desc := "()I" } : Jvm.MethodName) ({ cls := "ZSavesModel", name := "restore", desc := "()I" } : Jvm.MethodName)) ∈ am_T := am_tw 956 (by decide +kernel) (by decide +kernel)
theorem tw_923 : (Jvm.Cond.code ({ cls := "ZSavesModel", name := "restore", desc := "()I" } : Jvm.MethodName) prog_11_method_33_code (3 : Nat) (Option.some Jvm.ClassFile.FieldType.int)) ∈ am_T := am_tw 957 (by decide +kernel) (by decide +kernel)
theorem tw_924 : (Jvm.Cond.methodLink "ZSavesModel" (142 : Nat) ({ cls := "ZSavesModel", name := "readFile", desc := "()Z" } : Jvm.MethodName)) ∈ am_T := am_tw 958 (by decide +kernel) (by decide +kernel)
theorem tw_926 : (Jvm.Cond.instanceMethod ({ cls := "ZSavesModel", name := "readFile", desc := "()Z" } : Jvm.MethodName)) ∈ am_T := am_tw 960 (by decide +kernel) (by decide +kernel)
theorem tw_927 : (Jvm.Cond.code ({ cls := "ZSavesModel", name := "readFile", desc := "()Z" } : Jvm.MethodName) prog_11_method_34_code (12 : Nat) (Option.some Jvm.ClassFile.FieldType.boolean)) ∈ am_T := am_tw 961 (by decide +kernel) (by decide +kernel)
theorem tw_928 : (Jvm.Cond.methodLink "ZSavesModel" (155 : Nat) ({ cls := "ZSavesModel", name := "wrong", desc := "(II)Z" } : Jvm.MethodName)) ∈ am_T := am_tw 962 (by decide +kernel) (by decide +kernel)
theorem tw_930 : (Jvm.Cond.instanceMethod ({ cls := "ZSavesModel", name := "wrong", desc := "(II)Z" } : Jvm.MethodName)) ∈ am_T := am_tw 964 (by decide +kernel) (by decide +kernel)
theorem tw_931 : (Jvm.Cond.code ({ cls := "ZSavesModel", name := "wrong", desc := "(II)Z" } : Jvm.MethodName) prog_11_method_31_code (3 : Nat) (Option.some Jvm.ClassFile.FieldType.boolean)) ∈ am_T := am_tw 965 (by decide +kernel) (by decide +kernel)
theorem tw_932 : (Jvm.Cond.methodLink "ZSavesModel" (159 : Nat) ({ cls := "ZSavesModel", name := "numberAt", desc := "(I)J" } : Jvm.MethodName)) ∈ am_T := am_tw 966 (by decide +kernel) (by decide +kernel)
theorem tw_934 : (Jvm.Cond.instanceMethod ({ cls := "ZSavesModel", name := "numberAt", desc := "(I)J" } : Jvm.MethodName)) ∈ am_T := am_tw 968 (by decide +kernel) (by decide +kernel)
theorem tw_935 : (Jvm.Cond.code ({ cls := "ZSavesModel", name := "numberAt", desc := "(I)J" } : Jvm.MethodName) prog_11_method_32_code (2 : Nat) (Option.some Jvm.ClassFile.FieldType.long)) ∈ am_T := am_tw 969 (by decide +kernel) (by decide +kernel)
theorem tw_936 : (Jvm.Cond.constantLong "ZSavesModel" (163 : Nat) (1179603533 : Int64)) ∈ am_T := am_tw 970 (by decide +kernel) (by decide +kernel)
theorem tw_937 : (Jvm.Cond.constantLong "ZSavesModel" (165 : Nat) (1229347411 : Int64)) ∈ am_T := am_tw 971 (by decide +kernel) (by decide +kernel)
theorem tw_938 : (Jvm.Cond.constantLong "ZSavesModel" (167 : Nat) (2 : Int64)) ∈ am_T := am_tw 972 (by decide +kernel) (by decide +kernel)
theorem tw_939 : (Jvm.Cond.methodLink "ZSavesModel" (169 : Nat) ({ cls := "ZSavesModel", name := "readA", desc := "(III)Z" } : Jvm.MethodName)) ∈ am_T := am_tw 973 (by decide +kernel) (by decide +kernel)
theorem tw_941 : (Jvm.Cond.instanceMethod ({ cls := "ZSavesModel", name := "readA", desc := "(III)Z" } : Jvm.MethodName)) ∈ am_T := am_tw 975 (by decide +kernel) (by decide +kernel)
theorem tw_942 : (Jvm.Cond.code ({ cls := "ZSavesModel", name := "readA", desc := "(III)Z" } : Jvm.MethodName) prog_11_method_35_code (5 : Nat) (Option.some Jvm.ClassFile.FieldType.boolean)) ∈ am_T := am_tw 976 (by decide +kernel) (by decide +kernel)
theorem tw_943 : (Jvm.Cond.methodLink "ZSavesModel" (172 : Nat) ({ cls := "ZSavesModel", name := "readB", desc := "(II)Z" } : Jvm.MethodName)) ∈ am_T := am_tw 977 (by decide +kernel) (by decide +kernel)
theorem tw_945 : (Jvm.Cond.instanceMethod ({ cls := "ZSavesModel", name := "readB", desc := "(II)Z" } : Jvm.MethodName)) ∈ am_T := am_tw 979 (by decide +kernel) (by decide +kernel)
theorem tw_946 : (Jvm.Cond.code ({ cls := "ZSavesModel", name := "readB", desc := "(II)Z" } : Jvm.MethodName) prog_11_method_36_code (6 : Nat) (Option.some Jvm.ClassFile.FieldType.boolean)) ∈ am_T := am_tw 980 (by decide +kernel) (by decide +kernel)
theorem tw_947 : (Jvm.Cond.methodLink "ZSavesModel" (175 : Nat) ({ cls := "ZSavesModel", name := "readC", desc := "(III)Z" } : Jvm.MethodName)) ∈ am_T := am_tw 981 (by decide +kernel) (by decide +kernel)
theorem tw_949 : (Jvm.Cond.instanceMethod ({ cls := "ZSavesModel", name := "readC", desc := "(III)Z" } : Jvm.MethodName)) ∈ am_T := am_tw 983 (by decide +kernel) (by decide +kernel)
theorem tw_950 : (Jvm.Cond.code ({ cls := "ZSavesModel", name := "readC", desc := "(III)Z" } : Jvm.MethodName) prog_11_method_37_code (5 : Nat) (Option.some Jvm.ClassFile.FieldType.boolean)) ∈ am_T := am_tw 984 (by decide +kernel) (by decide +kernel)
theorem tw_951 : (Jvm.Cond.methodLink "ZSavesModel" (178 : Nat) ({ cls := "ZSavesModel", name := "readD", desc := "(II)Z" } : Jvm.MethodName)) ∈ am_T := am_tw 985 (by decide +kernel) (by decide +kernel)
theorem tw_953 : (Jvm.Cond.instanceMethod ({ cls := "ZSavesModel", name := "readD", desc := "(II)Z" } : Jvm.MethodName)) ∈ am_T := am_tw 987 (by decide +kernel) (by decide +kernel)
theorem tw_954 : (Jvm.Cond.code ({ cls := "ZSavesModel", name := "readD", desc := "(II)Z" } : Jvm.MethodName) prog_11_method_38_code (11 : Nat) (Option.some Jvm.ClassFile.FieldType.boolean)) ∈ am_T := am_tw 988 (by decide +kernel) (by decide +kernel)
theorem tw_955 : (Jvm.Cond.constantLong "ZSavesModel" (181 : Nat) (200 : Int64)) ∈ am_T := am_tw 989 (by decide +kernel) (by decide +kernel)
theorem tw_956 : (Jvm.Cond.methodLink "ZSavesModel" (146 : Nat) ({ cls := "ZSavesModel", name := "bits", desc := "()I" } : Jvm.MethodName)) ∈ am_T := am_tw 990 (by decide +kernel) (by decide +kernel)
theorem tw_958 : (Jvm.Cond.instanceMethod ({ cls := "ZSavesModel", name := "bits", desc := "()I" } : Jvm.MethodName)) ∈ am_T := am_tw 992 (by decide +kernel) (by decide +kernel)
theorem tw_959 : (Jvm.Cond.code ({ cls := "ZSavesModel", name := "bits", desc := "()I" } : Jvm.MethodName) prog_11_method_10_code (1 : Nat) (Option.some Jvm.ClassFile.FieldType.int)) ∈ am_T := am_tw 993 (by decide +kernel) (by decide +kernel)
theorem tw_960 : (Jvm.Cond.methodLink "ZSavesModel" (149 : Nat) ({ cls := "ZSavesModel", name := "stay", desc := "(I)V" } : Jvm.MethodName)) ∈ am_T := am_tw 994 (by decide +kernel) (by decide +kernel)
theorem tw_962 : (Jvm.Cond.instanceMethod ({ cls := "ZSavesModel", name := "stay", desc := "(I)V" } : Jvm.MethodName)) ∈ am_T := am_tw 996 (by decide +kernel) (by decide +kernel)
theorem tw_963 : (Jvm.Cond.code ({ cls := "ZSavesModel", name := "stay", desc := "(I)V" } : Jvm.MethodName) prog_11_method_11_code (2 : Nat) (Option.none : Option Jvm.ClassFile.FieldType)) ∈ am_T := am_tw 997 (by decide +kernel) (by decide +kernel)
theorem tw_964 : (Jvm.Cond.methodLink "ZSavesLaw" (91 : Nat) ({ cls := "ZSavesModel", name := "why", desc := "(I)I" } : Jvm.MethodName)) ∈ am_T := am_tw 998 (by decide +kernel) (by decide +kernel)
theorem tw_965 : (Jvm.Cond.instanceMethod ({ cls := "ZSavesModel", name := "why", desc := "(I)I" } : Jvm.MethodName)) ∈ am_T := am_tw 999 (by decide +kernel) (by decide +kernel)
theorem tw_966 : (Jvm.Cond.selects "ZSavesModel" ({ cls := "ZSavesModel", name := "why", desc := "(I)I" } : Jvm.MethodName) ({ cls := "ZSavesModel", name := "why", desc := "(I)I" } : Jvm.MethodName)) ∈ am_T := am_tw 1000 (by decide +kernel) (by decide +kernel)
theorem tw_967 : (Jvm.Cond.code ({ cls := "ZSavesModel", name := "why", desc := "(I)I" } : Jvm.MethodName) prog_11_method_39_code (2 : Nat) (Option.some Jvm.ClassFile.FieldType.int)) ∈ am_T := am_tw 1001 (by decide +kernel) (by decide +kernel)
theorem tw_968 : (Jvm.Cond.methodLink "ZSavesLaw" (95 : Nat) ({ cls := "ZSavesModel", name := "chunk", desc := "(II)I" } : Jvm.MethodName)) ∈ am_T := am_tw 1002 (by decide +kernel) (by decide +kernel)
theorem tw_969 : (Jvm.Cond.instanceMethod ({ cls := "ZSavesModel", name := "chunk", desc := "(II)I" } : Jvm.MethodName)) ∈ am_T := am_tw 1003 (by decide +kernel) (by decide +kernel)
theorem tw_970 : (Jvm.Cond.selects "ZSavesModel" ({ cls := "ZSavesModel", name := "chunk", desc := "(II)I" } : Jvm.MethodName) ({ cls := "ZSavesModel", name := "chunk", desc := "(II)I" } : Jvm.MethodName)) ∈ am_T := am_tw 1004 (by decide +kernel) (by decide +kernel)
theorem tw_971 : (Jvm.Cond.code ({ cls := "ZSavesModel", name := "chunk", desc := "(II)I" } : Jvm.MethodName) prog_11_method_40_code (3 : Nat) (Option.some Jvm.ClassFile.FieldType.int)) ∈ am_T := am_tw 1005 (by decide +kernel) (by decide +kernel)
theorem tw_972 : (Jvm.Cond.methodLink "ZSavesLaw" (99 : Nat) ({ cls := "ZSavesModel", name := "write", desc := "()I" } : Jvm.MethodName)) ∈ am_T := am_tw 1006 (by decide +kernel) (by decide +kernel)
theorem tw_973 : (Jvm.Cond.instanceMethod ({ cls := "ZSavesModel", name := "write", desc := "()I" } : Jvm.MethodName)) ∈ am_T := am_tw 1007 (by decide +kernel) (by decide +kernel)
theorem tw_974 : (Jvm.Cond.selects "ZSavesModel" ({ cls := "ZSavesModel", name := "write", desc := "()I" } : Jvm.MethodName) ({ cls := "ZSavesModel", name := "write", desc := "()I" } : Jvm.MethodName)) ∈ am_T := am_tw 1008 (by decide +kernel) (by decide +kernel)
theorem tw_975 : (Jvm.Cond.code ({ cls := "ZSavesModel", name := "write", desc := "()I" } : Jvm.MethodName) prog_11_method_41_code (3 : Nat) (Option.some Jvm.ClassFile.FieldType.int)) ∈ am_T := am_tw 1009 (by decide +kernel) (by decide +kernel)
theorem tw_976 : (Jvm.Cond.methodLink "ZSavesLaw" (103 : Nat) ({ cls := "ZSavesModel", name := "cut", desc := "(I)I" } : Jvm.MethodName)) ∈ am_T := am_tw 1010 (by decide +kernel) (by decide +kernel)
theorem tw_977 : (Jvm.Cond.instanceMethod ({ cls := "ZSavesModel", name := "cut", desc := "(I)I" } : Jvm.MethodName)) ∈ am_T := am_tw 1011 (by decide +kernel) (by decide +kernel)
theorem tw_978 : (Jvm.Cond.selects "ZSavesModel" ({ cls := "ZSavesModel", name := "cut", desc := "(I)I" } : Jvm.MethodName) ({ cls := "ZSavesModel", name := "cut", desc := "(I)I" } : Jvm.MethodName)) ∈ am_T := am_tw 1012 (by decide +kernel) (by decide +kernel)
theorem tw_979 : (Jvm.Cond.code ({ cls := "ZSavesModel", name := "cut", desc := "(I)I" } : Jvm.MethodName) prog_11_method_42_code (2 : Nat) (Option.some Jvm.ClassFile.FieldType.int)) ∈ am_T := am_tw 1013 (by decide +kernel) (by decide +kernel)
theorem tw_980 : (Jvm.Cond.methodLink "ZSavesLaw" (107 : Nat) ({ cls := "ZSavesModel", name := "load", desc := "()I" } : Jvm.MethodName)) ∈ am_T := am_tw 1014 (by decide +kernel) (by decide +kernel)
theorem tw_981 : (Jvm.Cond.instanceMethod ({ cls := "ZSavesModel", name := "load", desc := "()I" } : Jvm.MethodName)) ∈ am_T := am_tw 1015 (by decide +kernel) (by decide +kernel)
theorem tw_982 : (Jvm.Cond.selects "ZSavesModel" ({ cls := "ZSavesModel", name := "load", desc := "()I" } : Jvm.MethodName) ({ cls := "ZSavesModel", name := "load", desc := "()I" } : Jvm.MethodName)) ∈ am_T := am_tw 1016 (by decide +kernel) (by decide +kernel)
theorem tw_983 : (Jvm.Cond.code ({ cls := "ZSavesModel", name := "load", desc := "()I" } : Jvm.MethodName) prog_11_method_43_code (2 : Nat) (Option.some Jvm.ClassFile.FieldType.int)) ∈ am_T := am_tw 1017 (by decide +kernel) (by decide +kernel)
theorem tw_984 : (Jvm.Cond.methodLink "ZSavesLaw" (111 : Nat) ({ cls := "ZSavesModel", name := "keep", desc := "()I" } : Jvm.MethodName)) ∈ am_T := am_tw 1018 (by decide +kernel) (by decide +kernel)
theorem tw_985 : (Jvm.Cond.instanceMethod ({ cls := "ZSavesModel", name := "keep", desc := "()I" } : Jvm.MethodName)) ∈ am_T := am_tw 1019 (by decide +kernel) (by decide +kernel)
theorem tw_986 : (Jvm.Cond.selects "ZSavesModel" ({ cls := "ZSavesModel", name := "keep", desc := "()I" } : Jvm.MethodName) ({ cls := "ZSavesModel", name := "keep", desc := "()I" } : Jvm.MethodName)) ∈ am_T := am_tw 1020 (by decide +kernel) (by decide +kernel)
theorem tw_987 : (Jvm.Cond.code ({ cls := "ZSavesModel", name := "keep", desc := "()I" } : Jvm.MethodName) prog_11_method_46_code (3 : Nat) (Option.some Jvm.ClassFile.FieldType.int)) ∈ am_T := am_tw 1021 (by decide +kernel) (by decide +kernel)
theorem tw_988 : (Jvm.Cond.methodLink "ZSavesModel" (186 : Nat) ({ cls := "ZSavesModel", name := "weightOf", desc := "([I)I" } : Jvm.MethodName)) ∈ am_T := am_tw 1022 (by decide +kernel) (by decide +kernel)
theorem tw_990 : (Jvm.Cond.instanceMethod ({ cls := "ZSavesModel", name := "weightOf", desc := "([I)I" } : Jvm.MethodName)) ∈ am_T := am_tw 1024 (by decide +kernel) (by decide +kernel)
theorem tw_991 : (Jvm.Cond.code ({ cls := "ZSavesModel", name := "weightOf", desc := "([I)I" } : Jvm.MethodName) prog_11_method_25_code (2 : Nat) (Option.some Jvm.ClassFile.FieldType.int)) ∈ am_T := am_tw 1025 (by decide +kernel) (by decide +kernel)
theorem tw_992 : (Jvm.Cond.methodLink "ZSavesModel" (190 : Nat) ({ cls := "ZSavesModel", name := "eldestGo", desc := "()V" } : Jvm.MethodName)) ∈ am_T := am_tw 1026 (by decide +kernel) (by decide +kernel)
theorem tw_994 : (Jvm.Cond.instanceMethod ({ cls := "ZSavesModel", name := "eldestGo", desc := "()V" } : Jvm.MethodName)) ∈ am_T := am_tw 1028 (by decide +kernel) (by decide +kernel)
theorem tw_995 : (Jvm.Cond.code ({ cls := "ZSavesModel", name := "eldestGo", desc := "()V" } : Jvm.MethodName) prog_11_method_45_code (3 : Nat) (Option.none : Option Jvm.ClassFile.FieldType)) ∈ am_T := am_tw 1029 (by decide +kernel) (by decide +kernel)
theorem tw_996 : (Jvm.Cond.methodLink "ZSavesModel" (183 : Nat) ({ cls := "ZSavesModel", name := "sum", desc := "()I" } : Jvm.MethodName)) ∈ am_T := am_tw 1030 (by decide +kernel) (by decide +kernel)
theorem tw_998 : (Jvm.Cond.instanceMethod ({ cls := "ZSavesModel", name := "sum", desc := "()I" } : Jvm.MethodName)) ∈ am_T := am_tw 1032 (by decide +kernel) (by decide +kernel)
theorem tw_999 : (Jvm.Cond.code ({ cls := "ZSavesModel", name := "sum", desc := "()I" } : Jvm.MethodName) prog_11_method_44_code (3 : Nat) (Option.some Jvm.ClassFile.FieldType.int)) ∈ am_T := am_tw 1033 (by decide +kernel) (by decide +kernel)
theorem tw_1000 : (Jvm.Cond.methodLink "ZSavesLaw" (115 : Nat) ({ cls := "ZSavesModel", name := "undo", desc := "()I" } : Jvm.MethodName)) ∈ am_T := am_tw 1034 (by decide +kernel) (by decide +kernel)
theorem tw_1001 : (Jvm.Cond.instanceMethod ({ cls := "ZSavesModel", name := "undo", desc := "()I" } : Jvm.MethodName)) ∈ am_T := am_tw 1035 (by decide +kernel) (by decide +kernel)
theorem tw_1002 : (Jvm.Cond.selects "ZSavesModel" ({ cls := "ZSavesModel", name := "undo", desc := "()I" } : Jvm.MethodName) ({ cls := "ZSavesModel", name := "undo", desc := "()I" } : Jvm.MethodName)) ∈ am_T := am_tw 1036 (by decide +kernel) (by decide +kernel)
theorem tw_1003 : (Jvm.Cond.code ({ cls := "ZSavesModel", name := "undo", desc := "()I" } : Jvm.MethodName) prog_11_method_47_code (3 : Nat) (Option.some Jvm.ClassFile.FieldType.int)) ∈ am_T := am_tw 1037 (by decide +kernel) (by decide +kernel)
theorem tw_1004 : (Jvm.Cond.methodLink "ZSavesLaw" (119 : Nat) ({ cls := "ZSavesModel", name := "bound", desc := "(I)I" } : Jvm.MethodName)) ∈ am_T := am_tw 1038 (by decide +kernel) (by decide +kernel)
theorem tw_1005 : (Jvm.Cond.instanceMethod ({ cls := "ZSavesModel", name := "bound", desc := "(I)I" } : Jvm.MethodName)) ∈ am_T := am_tw 1039 (by decide +kernel) (by decide +kernel)
theorem tw_1006 : (Jvm.Cond.selects "ZSavesModel" ({ cls := "ZSavesModel", name := "bound", desc := "(I)I" } : Jvm.MethodName) ({ cls := "ZSavesModel", name := "bound", desc := "(I)I" } : Jvm.MethodName)) ∈ am_T := am_tw 1040 (by decide +kernel) (by decide +kernel)
theorem tw_1007 : (Jvm.Cond.code ({ cls := "ZSavesModel", name := "bound", desc := "(I)I" } : Jvm.MethodName) prog_11_method_48_code (3 : Nat) (Option.some Jvm.ClassFile.FieldType.int)) ∈ am_T := am_tw 1041 (by decide +kernel) (by decide +kernel)
theorem tw_1008 : (Jvm.Cond.methodLink "ZSavesLaw" (123 : Nat) ({ cls := "ZSavesModel", name := "restart", desc := "()I" } : Jvm.MethodName)) ∈ am_T := am_tw 1042 (by decide +kernel) (by decide +kernel)
theorem tw_1009 : (Jvm.Cond.instanceMethod ({ cls := "ZSavesModel", name := "restart", desc := "()I" } : Jvm.MethodName)) ∈ am_T := am_tw 1043 (by decide +kernel) (by decide +kernel)
theorem tw_1010 : (Jvm.Cond.selects "ZSavesModel" ({ cls := "ZSavesModel", name := "restart", desc := "()I" } : Jvm.MethodName) ({ cls := "ZSavesModel", name := "restart", desc := "()I" } : Jvm.MethodName)) ∈ am_T := am_tw 1044 (by decide +kernel) (by decide +kernel)
theorem tw_1011 : (Jvm.Cond.code ({ cls := "ZSavesModel", name := "restart", desc := "()I" } : Jvm.MethodName) prog_11_method_49_code (2 : Nat) (Option.some Jvm.ClassFile.FieldType.int)) ∈ am_T := am_tw 1045 (by decide +kernel) (by decide +kernel)
theorem tw_1012 : (Jvm.Cond.methodLink "ZSavesLaw" (127 : Nat) ({ cls := "ZSavesModel", name := "told", desc := "(I)I" } : Jvm.MethodName)) ∈ am_T := am_tw 1046 (by decide +kernel) (by decide +kernel)
theorem tw_1013 : (Jvm.Cond.instanceMethod ({ cls := "ZSavesModel", name := "told", desc := "(I)I" } : Jvm.MethodName)) ∈ am_T := am_tw 1047 (by decide +kernel) (by decide +kernel)
theorem tw_1014 : (Jvm.Cond.selects "ZSavesModel" ({ cls := "ZSavesModel", name := "told", desc := "(I)I" } : Jvm.MethodName) ({ cls := "ZSavesModel", name := "told", desc := "(I)I" } : Jvm.MethodName)) ∈ am_T := am_tw 1048 (by decide +kernel) (by decide +kernel)
theorem tw_1015 : (Jvm.Cond.code ({ cls := "ZSavesModel", name := "told", desc := "(I)I" } : Jvm.MethodName) prog_11_method_50_code (2 : Nat) (Option.some Jvm.ClassFile.FieldType.int)) ∈ am_T := am_tw 1049 (by decide +kernel) (by decide +kernel)
theorem tp_0 : Cond.selects "ZSaves" ⟨"ZSaves", "fillTape", "(LZSaves$Bytes;)I"⟩ ⟨"ZSaves", "fillTape", "(LZSaves$Bytes;)I"⟩ ∈ am_T := am_tw 0 (by decide +kernel) (by decide +kernel)
theorem tp_1 : Cond.selects "ZSaves" ⟨"ZSaves", "noStory", "()Z"⟩ ⟨"ZSaves", "noStory", "()Z"⟩ ∈ am_T := am_tw 1 (by decide +kernel) (by decide +kernel)
theorem tp_2 : Cond.selects "ZSaves$Reader" ⟨"ZSaves$Reader", "frontFault", "()I"⟩ ⟨"ZSaves$Reader", "frontFault", "()I"⟩ ∈ am_T := am_tw 2 (by decide +kernel) (by decide +kernel)
theorem tp_3 : Cond.selects "ZSaves$Reader" ⟨"ZSaves$Reader", "shapeFault", "()I"⟩ ⟨"ZSaves$Reader", "shapeFault", "()I"⟩ ∈ am_T := am_tw 3 (by decide +kernel) (by decide +kernel)
theorem tp_4 : Cond.selects "ZSaves$Reader" ⟨"ZSaves$Reader", "readContents", "(ILZSaves$Story;LZSaves$Session;LZSaves$Strangers;)I"⟩ ⟨"ZSaves$Reader", "readContents", "(ILZSaves$Story;LZSaves$Session;LZSaves$Strangers;)I"⟩ ∈ am_T := am_tw 4 (by decide +kernel) (by decide +kernel)
theorem tp_5 : Cond.selects "ZSaves$Reader" ⟨"ZSaves$Reader", "readHead", "(ILZSaves$Story;LZSaves$Session;)I"⟩ ⟨"ZSaves$Reader", "readHead", "(ILZSaves$Story;LZSaves$Session;)I"⟩ ∈ am_T := am_tw 5 (by decide +kernel) (by decide +kernel)
theorem tp_6 : Cond.selects "ZSaves$Reader" ⟨"ZSaves$Reader", "readMemory", "(IILZSaves$Session;)I"⟩ ⟨"ZSaves$Reader", "readMemory", "(IILZSaves$Session;)I"⟩ ∈ am_T := am_tw 6 (by decide +kernel) (by decide +kernel)
theorem tp_7 : Cond.selects "ZSaves$Session" ⟨"ZSaves$Session", "frameFault", "(LZSaves$Bytes;II)I"⟩ ⟨"ZSaves$Session", "frameFault", "(LZSaves$Bytes;II)I"⟩ ∈ am_T := am_tw 7 (by decide +kernel) (by decide +kernel)
theorem tp_8 : Cond.selects "ZSaves$Session" ⟨"ZSaves$Session", "takeFrame", "(LZSaves$Bytes;I)I"⟩ ⟨"ZSaves$Session", "takeFrame", "(LZSaves$Bytes;I)I"⟩ ∈ am_T := am_tw 8 (by decide +kernel) (by decide +kernel)
theorem tp_9 : Cond.selects "ZSaves" ⟨"ZSaves", "turnToSpare", "()V"⟩ ⟨"ZSaves", "turnToSpare", "()V"⟩ ∈ am_T := am_tw 9 (by decide +kernel) (by decide +kernel)
theorem tp_10 : Cond.selects "ZSaves" ⟨"ZSaves", "turnToComing", "()V"⟩ ⟨"ZSaves", "turnToComing", "()V"⟩ ∈ am_T := am_tw 10 (by decide +kernel) (by decide +kernel)
theorem tp_11 : Cond.selects "ZSaves" ⟨"ZSaves", "weighNow", "()I"⟩ ⟨"ZSaves", "weighNow", "()I"⟩ ∈ am_T := am_tw 11 (by decide +kernel) (by decide +kernel)
theorem tp_12 : Cond.selects "ZSaves$Kept" ⟨"ZSaves$Kept", "dropEldest", "()V"⟩ ⟨"ZSaves$Kept", "dropEldest", "()V"⟩ ∈ am_T := am_tw 12 (by decide +kernel) (by decide +kernel)
theorem tp_13 : Cond.selects "ZSavesModel" ⟨"ZSavesModel", "four", "(II)V"⟩ ⟨"ZSavesModel", "four", "(II)V"⟩ ∈ am_T := am_tw 13 (by decide +kernel) (by decide +kernel)
theorem tp_14 : Cond.selects "ZSavesModel" ⟨"ZSavesModel", "begin", "()V"⟩ ⟨"ZSavesModel", "begin", "()V"⟩ ∈ am_T := am_tw 14 (by decide +kernel) (by decide +kernel)
theorem tp_15 : Cond.selects "ZSavesModel" ⟨"ZSavesModel", "newest", "()I"⟩ ⟨"ZSavesModel", "newest", "()I"⟩ ∈ am_T := am_tw 15 (by decide +kernel) (by decide +kernel)
theorem tp_16 : Cond.selects "ZSavesModel" ⟨"ZSavesModel", "number", "(II)V"⟩ ⟨"ZSavesModel", "number", "(II)V"⟩ ∈ am_T := am_tw 16 (by decide +kernel) (by decide +kernel)
theorem tp_17 : Cond.selects "ZSavesModel" ⟨"ZSavesModel", "makeD", "([I)V"⟩ ⟨"ZSavesModel", "makeD", "([I)V"⟩ ∈ am_T := am_tw 17 (by decide +kernel) (by decide +kernel)
theorem tp_18 : Cond.selects "ZSavesModel" ⟨"ZSavesModel", "open", "(I)V"⟩ ⟨"ZSavesModel", "open", "(I)V"⟩ ∈ am_T := am_tw 18 (by decide +kernel) (by decide +kernel)
theorem tp_19 : Cond.selects "ZSavesModel" ⟨"ZSavesModel", "close", "()V"⟩ ⟨"ZSavesModel", "close", "()V"⟩ ∈ am_T := am_tw 19 (by decide +kernel) (by decide +kernel)
theorem tp_20 : Cond.selects "ZSavesModel" ⟨"ZSavesModel", "patch", "(II)V"⟩ ⟨"ZSavesModel", "patch", "(II)V"⟩ ∈ am_T := am_tw 20 (by decide +kernel) (by decide +kernel)
theorem tp_21 : Cond.selects "ZSavesModel" ⟨"ZSavesModel", "makeB", "([I)V"⟩ ⟨"ZSavesModel", "makeB", "([I)V"⟩ ∈ am_T := am_tw 21 (by decide +kernel) (by decide +kernel)
theorem tp_22 : Cond.selects "ZSavesModel" ⟨"ZSavesModel", "readFile", "()Z"⟩ ⟨"ZSavesModel", "readFile", "()Z"⟩ ∈ am_T := am_tw 22 (by decide +kernel) (by decide +kernel)
theorem tp_23 : Cond.selects "ZSavesModel" ⟨"ZSavesModel", "wrong", "(II)Z"⟩ ⟨"ZSavesModel", "wrong", "(II)Z"⟩ ∈ am_T := am_tw 23 (by decide +kernel) (by decide +kernel)
theorem tp_24 : Cond.selects "ZSavesModel" ⟨"ZSavesModel", "numberAt", "(I)J"⟩ ⟨"ZSavesModel", "numberAt", "(I)J"⟩ ∈ am_T := am_tw 24 (by decide +kernel) (by decide +kernel)
theorem tp_25 : Cond.selects "ZSavesModel" ⟨"ZSavesModel", "readA", "(III)Z"⟩ ⟨"ZSavesModel", "readA", "(III)Z"⟩ ∈ am_T := am_tw 25 (by decide +kernel) (by decide +kernel)
theorem tp_26 : Cond.selects "ZSavesModel" ⟨"ZSavesModel", "readB", "(II)Z"⟩ ⟨"ZSavesModel", "readB", "(II)Z"⟩ ∈ am_T := am_tw 26 (by decide +kernel) (by decide +kernel)
theorem tp_27 : Cond.selects "ZSavesModel" ⟨"ZSavesModel", "readC", "(III)Z"⟩ ⟨"ZSavesModel", "readC", "(III)Z"⟩ ∈ am_T := am_tw 27 (by decide +kernel) (by decide +kernel)
theorem tp_28 : Cond.selects "ZSavesModel" ⟨"ZSavesModel", "readD", "(II)Z"⟩ ⟨"ZSavesModel", "readD", "(II)Z"⟩ ∈ am_T := am_tw 28 (by decide +kernel) (by decide +kernel)
theorem tp_29 : Cond.selects "ZSavesModel" ⟨"ZSavesModel", "bits", "()I"⟩ ⟨"ZSavesModel", "bits", "()I"⟩ ∈ am_T := am_tw 29 (by decide +kernel) (by decide +kernel)
theorem tp_30 : Cond.selects "ZSavesModel" ⟨"ZSavesModel", "stay", "(I)V"⟩ ⟨"ZSavesModel", "stay", "(I)V"⟩ ∈ am_T := am_tw 30 (by decide +kernel) (by decide +kernel)
theorem tp_31 : Cond.selects "ZSavesModel" ⟨"ZSavesModel", "weightOf", "([I)I"⟩ ⟨"ZSavesModel", "weightOf", "([I)I"⟩ ∈ am_T := am_tw 31 (by decide +kernel) (by decide +kernel)
theorem tp_32 : Cond.selects "ZSavesModel" ⟨"ZSavesModel", "eldestGo", "()V"⟩ ⟨"ZSavesModel", "eldestGo", "()V"⟩ ∈ am_T := am_tw 32 (by decide +kernel) (by decide +kernel)
theorem tp_33 : Cond.selects "ZSavesModel" ⟨"ZSavesModel", "sum", "()I"⟩ ⟨"ZSavesModel", "sum", "()I"⟩ ∈ am_T := am_tw 33 (by decide +kernel) (by decide +kernel)
def am_isN : Cond → Bool
  | .fieldLinkNest _ _ _ _ _ _ => true
  | .methodLinkNest _ _ _ _ => true
  | _ => false
def am_nw : List Cond := [(Jvm.Cond.methodLinkNest "ZSaves" (11 : Nat) ({ cls := "ZSaves$Reader", name := "<init>", desc := "()V" } : Jvm.MethodName) "ZSaves"), (Jvm.Cond.fieldLinkNest "ZSaves$Story" (28 : Nat) "ZSaves$Bytes" "size" "I" "ZSaves"), (Jvm.Cond.fieldLinkNest "ZSaves$Reader" (49 : Nat) "ZSaves$Bytes" "size" "I" "ZSaves"), (Jvm.Cond.fieldLinkNest "ZSaves" (101 : Nat) "ZSaves$Bytes" "size" "I" "ZSaves"), (Jvm.Cond.fieldLinkNest "ZSaves$Kept" (40 : Nat) "ZSaves$Bytes" "size" "I" "ZSaves"), (Jvm.Cond.fieldLinkNest "ZSaves$Writer" (43 : Nat) "ZSaves$Bytes" "size" "I" "ZSaves"), (Jvm.Cond.fieldLinkNest "ZSaves" (23 : Nat) "ZSaves$Reader" "file" "LZSaves$Bytes;" "ZSaves"), (Jvm.Cond.methodLinkNest "ZSaves" (18 : Nat) ({ cls := "ZSaves$Writer", name := "<init>", desc := "()V" } : Jvm.MethodName) "ZSaves"), (Jvm.Cond.fieldLinkNest "ZSaves" (30 : Nat) "ZSaves$Writer" "file" "LZSaves$Bytes;" "ZSaves"), (Jvm.Cond.fieldLinkNest "ZSaves" (241 : Nat) "ZSaves$Writer" "count" "I" "ZSaves"), (Jvm.Cond.methodLinkNest "ZSaves" (47 : Nat) ({ cls := "ZSaves$Story", name := "<init>", desc := "()V" } : Jvm.MethodName) "ZSaves"), (Jvm.Cond.fieldLinkNest "ZSaves$Session" (32 : Nat) "ZSaves$Story" "size" "I" "ZSaves"), (Jvm.Cond.fieldLinkNest "ZSaves" (271 : Nat) "ZSaves$Story" "size" "I" "ZSaves"), (Jvm.Cond.methodLinkNest "ZSaves" (54 : Nat) ({ cls := "ZSaves$Kept", name := "<init>", desc := "()V" } : Jvm.MethodName) "ZSaves"), (Jvm.Cond.fieldLinkNest "ZSaves" (267 : Nat) "ZSaves$Kept" "rows" "LZSaves$Bytes;" "ZSaves"), (Jvm.Cond.fieldLinkNest "ZSaves" (259 : Nat) "ZSaves$Kept" "count" "I" "ZSaves"), (Jvm.Cond.fieldLinkNest "ZSaves" (252 : Nat) "ZSaves$Kept" "limit" "I" "ZSaves"), (Jvm.Cond.methodLinkNest "ZSaves$Session" (31 : Nat) ({ cls := "ZSaves$Frame", name := "<init>", desc := "()V" } : Jvm.MethodName) "ZSaves"), (Jvm.Cond.fieldLinkNest "ZSaves" (158 : Nat) "ZSaves$Frame" "back" "I" "ZSaves"), (Jvm.Cond.fieldLinkNest "ZSaves" (186 : Nat) "ZSaves$Frame" "result" "I" "ZSaves"), (Jvm.Cond.fieldLinkNest "ZSaves" (189 : Nat) "ZSaves$Frame" "arguments" "I" "ZSaves"), (Jvm.Cond.fieldLinkNest "ZSaves" (163 : Nat) "ZSaves$Frame" "locals" "I" "ZSaves"), (Jvm.Cond.fieldLinkNest "ZSaves" (173 : Nat) "ZSaves$Frame" "depth" "I" "ZSaves"), (Jvm.Cond.fieldLinkNest "ZSaves" (136 : Nat) "ZSaves$Session" "size" "I" "ZSaves"), (Jvm.Cond.fieldLinkNest "ZSaves$Reader" (99 : Nat) "ZSaves$Session" "size" "I" "ZSaves"), (Jvm.Cond.fieldLinkNest "ZSaves$Kept" (70 : Nat) "ZSaves$Session" "pc" "I" "ZSaves"), (Jvm.Cond.fieldLinkNest "ZSaves$Reader" (92 : Nat) "ZSaves$Session" "pc" "I" "ZSaves"), (Jvm.Cond.fieldLinkNest "ZSaves" (144 : Nat) "ZSaves$Session" "pc" "I" "ZSaves"), (Jvm.Cond.fieldLinkNest "ZSaves" (147 : Nat) "ZSaves$Session" "count" "I" "ZSaves"), (Jvm.Cond.methodLinkNest "ZSaves" (71 : Nat) ({ cls := "ZSaves$Strangers", name := "<init>", desc := "()V" } : Jvm.MethodName) "ZSaves"), (Jvm.Cond.fieldLinkNest "ZSaves$Writer" (59 : Nat) "ZSaves$Strangers" "rows" "LZSaves$Bytes;" "ZSaves"), (Jvm.Cond.fieldLinkNest "ZSaves$Writer" (55 : Nat) "ZSaves$Strangers" "names" "[I" "ZSaves"), (Jvm.Cond.fieldLinkNest "ZSaves$Writer" (62 : Nat) "ZSaves$Strangers" "sizes" "[I" "ZSaves"), (Jvm.Cond.fieldLinkNest "ZSaves$Writer" (52 : Nat) "ZSaves$Strangers" "count" "I" "ZSaves"), (Jvm.Cond.fieldLinkNest "ZSaves" (270 : Nat) "ZSaves$Strangers" "count" "I" "ZSaves"), (Jvm.Cond.methodLinkNest "ZSaves$Reader" (63 : Nat) ({ cls := "ZSaves", name := "fault", desc := "(II)I" } : Jvm.MethodName) "ZSaves"), (Jvm.Cond.methodLinkNest "ZSaves$Session" (78 : Nat) ({ cls := "ZSaves", name := "fault", desc := "(II)I" } : Jvm.MethodName) "ZSaves")]
theorem am_nw_all : am_nw.all am_isN = true := by decide +kernel
theorem tn_24 : (Jvm.Cond.methodLinkNest "ZSaves" (11 : Nat) ({ cls := "ZSaves$Reader", name := "<init>", desc := "()V" } : Jvm.MethodName) "ZSaves") ∈ am_nw := List.mem_of_getElem? (i := 0) (by decide +kernel)
theorem tz_24 : (Jvm.Cond.methodLinkNest "ZSaves" (11 : Nat) ({ cls := "ZSaves$Reader", name := "<init>", desc := "()V" } : Jvm.MethodName) "ZSaves") ∈ lw_tbl := List.mem_of_getElem? (i := 58) (by decide +kernel)
theorem tn_39 : (Jvm.Cond.fieldLinkNest "ZSaves$Story" (28 : Nat) "ZSaves$Bytes" "size" "I" "ZSaves") ∈ am_nw := List.mem_of_getElem? (i := 1) (by decide +kernel)
theorem tz_39 : (Jvm.Cond.fieldLinkNest "ZSaves$Story" (28 : Nat) "ZSaves$Bytes" "size" "I" "ZSaves") ∈ lw_tbl := List.mem_of_getElem? (i := 73) (by decide +kernel)
theorem tn_40 : (Jvm.Cond.fieldLinkNest "ZSaves$Reader" (49 : Nat) "ZSaves$Bytes" "size" "I" "ZSaves") ∈ am_nw := List.mem_of_getElem? (i := 2) (by decide +kernel)
theorem tz_40 : (Jvm.Cond.fieldLinkNest "ZSaves$Reader" (49 : Nat) "ZSaves$Bytes" "size" "I" "ZSaves") ∈ lw_tbl := List.mem_of_getElem? (i := 74) (by decide +kernel)
theorem tn_41 : (Jvm.Cond.fieldLinkNest "ZSaves" (101 : Nat) "ZSaves$Bytes" "size" "I" "ZSaves") ∈ am_nw := List.mem_of_getElem? (i := 3) (by decide +kernel)
theorem tz_41 : (Jvm.Cond.fieldLinkNest "ZSaves" (101 : Nat) "ZSaves$Bytes" "size" "I" "ZSaves") ∈ lw_tbl := List.mem_of_getElem? (i := 75) (by decide +kernel)
theorem tn_42 : (Jvm.Cond.fieldLinkNest "ZSaves$Kept" (40 : Nat) "ZSaves$Bytes" "size" "I" "ZSaves") ∈ am_nw := List.mem_of_getElem? (i := 4) (by decide +kernel)
theorem tz_42 : (Jvm.Cond.fieldLinkNest "ZSaves$Kept" (40 : Nat) "ZSaves$Bytes" "size" "I" "ZSaves") ∈ lw_tbl := List.mem_of_getElem? (i := 76) (by decide +kernel)
theorem tn_43 : (Jvm.Cond.fieldLinkNest "ZSaves$Writer" (43 : Nat) "ZSaves$Bytes" "size" "I" "ZSaves") ∈ am_nw := List.mem_of_getElem? (i := 5) (by decide +kernel)
theorem tz_43 : (Jvm.Cond.fieldLinkNest "ZSaves$Writer" (43 : Nat) "ZSaves$Bytes" "size" "I" "ZSaves") ∈ lw_tbl := List.mem_of_getElem? (i := 77) (by decide +kernel)
theorem tn_51 : (Jvm.Cond.fieldLinkNest "ZSaves" (23 : Nat) "ZSaves$Reader" "file" "LZSaves$Bytes;" "ZSaves") ∈ am_nw := List.mem_of_getElem? (i := 6) (by decide +kernel)
theorem tz_51 : (Jvm.Cond.fieldLinkNest "ZSaves" (23 : Nat) "ZSaves$Reader" "file" "LZSaves$Bytes;" "ZSaves") ∈ lw_tbl := List.mem_of_getElem? (i := 85) (by decide +kernel)
theorem tn_69 : (Jvm.Cond.methodLinkNest "ZSaves" (18 : Nat) ({ cls := "ZSaves$Writer", name := "<init>", desc := "()V" } : Jvm.MethodName) "ZSaves") ∈ am_nw := List.mem_of_getElem? (i := 7) (by decide +kernel)
theorem tz_69 : (Jvm.Cond.methodLinkNest "ZSaves" (18 : Nat) ({ cls := "ZSaves$Writer", name := "<init>", desc := "()V" } : Jvm.MethodName) "ZSaves") ∈ lw_tbl := List.mem_of_getElem? (i := 103) (by decide +kernel)
theorem tn_76 : (Jvm.Cond.fieldLinkNest "ZSaves" (30 : Nat) "ZSaves$Writer" "file" "LZSaves$Bytes;" "ZSaves") ∈ am_nw := List.mem_of_getElem? (i := 8) (by decide +kernel)
theorem tz_76 : (Jvm.Cond.fieldLinkNest "ZSaves" (30 : Nat) "ZSaves$Writer" "file" "LZSaves$Bytes;" "ZSaves") ∈ lw_tbl := List.mem_of_getElem? (i := 110) (by decide +kernel)
theorem tn_81 : (Jvm.Cond.fieldLinkNest "ZSaves" (241 : Nat) "ZSaves$Writer" "count" "I" "ZSaves") ∈ am_nw := List.mem_of_getElem? (i := 9) (by decide +kernel)
theorem tz_81 : (Jvm.Cond.fieldLinkNest "ZSaves" (241 : Nat) "ZSaves$Writer" "count" "I" "ZSaves") ∈ lw_tbl := List.mem_of_getElem? (i := 115) (by decide +kernel)
theorem tn_97 : (Jvm.Cond.methodLinkNest "ZSaves" (47 : Nat) ({ cls := "ZSaves$Story", name := "<init>", desc := "()V" } : Jvm.MethodName) "ZSaves") ∈ am_nw := List.mem_of_getElem? (i := 10) (by decide +kernel)
theorem tz_97 : (Jvm.Cond.methodLinkNest "ZSaves" (47 : Nat) ({ cls := "ZSaves$Story", name := "<init>", desc := "()V" } : Jvm.MethodName) "ZSaves") ∈ lw_tbl := List.mem_of_getElem? (i := 131) (by decide +kernel)
theorem tn_104 : (Jvm.Cond.fieldLinkNest "ZSaves$Session" (32 : Nat) "ZSaves$Story" "size" "I" "ZSaves") ∈ am_nw := List.mem_of_getElem? (i := 11) (by decide +kernel)
theorem tz_104 : (Jvm.Cond.fieldLinkNest "ZSaves$Session" (32 : Nat) "ZSaves$Story" "size" "I" "ZSaves") ∈ lw_tbl := List.mem_of_getElem? (i := 138) (by decide +kernel)
theorem tn_105 : (Jvm.Cond.fieldLinkNest "ZSaves" (271 : Nat) "ZSaves$Story" "size" "I" "ZSaves") ∈ am_nw := List.mem_of_getElem? (i := 12) (by decide +kernel)
theorem tz_105 : (Jvm.Cond.fieldLinkNest "ZSaves" (271 : Nat) "ZSaves$Story" "size" "I" "ZSaves") ∈ lw_tbl := List.mem_of_getElem? (i := 139) (by decide +kernel)
theorem tn_115 : (Jvm.Cond.methodLinkNest "ZSaves" (54 : Nat) ({ cls := "ZSaves$Kept", name := "<init>", desc := "()V" } : Jvm.MethodName) "ZSaves") ∈ am_nw := List.mem_of_getElem? (i := 13) (by decide +kernel)
theorem tz_115 : (Jvm.Cond.methodLinkNest "ZSaves" (54 : Nat) ({ cls := "ZSaves$Kept", name := "<init>", desc := "()V" } : Jvm.MethodName) "ZSaves") ∈ lw_tbl := List.mem_of_getElem? (i := 149) (by decide +kernel)
theorem tn_122 : (Jvm.Cond.fieldLinkNest "ZSaves" (267 : Nat) "ZSaves$Kept" "rows" "LZSaves$Bytes;" "ZSaves") ∈ am_nw := List.mem_of_getElem? (i := 14) (by decide +kernel)
theorem tz_122 : (Jvm.Cond.fieldLinkNest "ZSaves" (267 : Nat) "ZSaves$Kept" "rows" "LZSaves$Bytes;" "ZSaves") ∈ lw_tbl := List.mem_of_getElem? (i := 156) (by decide +kernel)
theorem tn_127 : (Jvm.Cond.fieldLinkNest "ZSaves" (259 : Nat) "ZSaves$Kept" "count" "I" "ZSaves") ∈ am_nw := List.mem_of_getElem? (i := 15) (by decide +kernel)
theorem tz_127 : (Jvm.Cond.fieldLinkNest "ZSaves" (259 : Nat) "ZSaves$Kept" "count" "I" "ZSaves") ∈ lw_tbl := List.mem_of_getElem? (i := 161) (by decide +kernel)
theorem tn_129 : (Jvm.Cond.fieldLinkNest "ZSaves" (252 : Nat) "ZSaves$Kept" "limit" "I" "ZSaves") ∈ am_nw := List.mem_of_getElem? (i := 16) (by decide +kernel)
theorem tz_129 : (Jvm.Cond.fieldLinkNest "ZSaves" (252 : Nat) "ZSaves$Kept" "limit" "I" "ZSaves") ∈ lw_tbl := List.mem_of_getElem? (i := 163) (by decide +kernel)
theorem tn_152 : (Jvm.Cond.methodLinkNest "ZSaves$Session" (31 : Nat) ({ cls := "ZSaves$Frame", name := "<init>", desc := "()V" } : Jvm.MethodName) "ZSaves") ∈ am_nw := List.mem_of_getElem? (i := 17) (by decide +kernel)
theorem tz_152 : (Jvm.Cond.methodLinkNest "ZSaves$Session" (31 : Nat) ({ cls := "ZSaves$Frame", name := "<init>", desc := "()V" } : Jvm.MethodName) "ZSaves") ∈ lw_tbl := List.mem_of_getElem? (i := 186) (by decide +kernel)
theorem tn_158 : (Jvm.Cond.fieldLinkNest "ZSaves" (158 : Nat) "ZSaves$Frame" "back" "I" "ZSaves") ∈ am_nw := List.mem_of_getElem? (i := 18) (by decide +kernel)
theorem tz_158 : (Jvm.Cond.fieldLinkNest "ZSaves" (158 : Nat) "ZSaves$Frame" "back" "I" "ZSaves") ∈ lw_tbl := List.mem_of_getElem? (i := 192) (by decide +kernel)
theorem tn_160 : (Jvm.Cond.fieldLinkNest "ZSaves" (186 : Nat) "ZSaves$Frame" "result" "I" "ZSaves") ∈ am_nw := List.mem_of_getElem? (i := 19) (by decide +kernel)
theorem tz_160 : (Jvm.Cond.fieldLinkNest "ZSaves" (186 : Nat) "ZSaves$Frame" "result" "I" "ZSaves") ∈ lw_tbl := List.mem_of_getElem? (i := 194) (by decide +kernel)
theorem tn_162 : (Jvm.Cond.fieldLinkNest "ZSaves" (189 : Nat) "ZSaves$Frame" "arguments" "I" "ZSaves") ∈ am_nw := List.mem_of_getElem? (i := 20) (by decide +kernel)
theorem tz_162 : (Jvm.Cond.fieldLinkNest "ZSaves" (189 : Nat) "ZSaves$Frame" "arguments" "I" "ZSaves") ∈ lw_tbl := List.mem_of_getElem? (i := 196) (by decide +kernel)
theorem tn_164 : (Jvm.Cond.fieldLinkNest "ZSaves" (163 : Nat) "ZSaves$Frame" "locals" "I" "ZSaves") ∈ am_nw := List.mem_of_getElem? (i := 21) (by decide +kernel)
theorem tz_164 : (Jvm.Cond.fieldLinkNest "ZSaves" (163 : Nat) "ZSaves$Frame" "locals" "I" "ZSaves") ∈ lw_tbl := List.mem_of_getElem? (i := 198) (by decide +kernel)
theorem tn_166 : (Jvm.Cond.fieldLinkNest "ZSaves" (173 : Nat) "ZSaves$Frame" "depth" "I" "ZSaves") ∈ am_nw := List.mem_of_getElem? (i := 22) (by decide +kernel)
theorem tz_166 : (Jvm.Cond.fieldLinkNest "ZSaves" (173 : Nat) "ZSaves$Frame" "depth" "I" "ZSaves") ∈ lw_tbl := List.mem_of_getElem? (i := 200) (by decide +kernel)
theorem tn_183 : (Jvm.Cond.fieldLinkNest "ZSaves" (136 : Nat) "ZSaves$Session" "size" "I" "ZSaves") ∈ am_nw := List.mem_of_getElem? (i := 23) (by decide +kernel)
theorem tz_183 : (Jvm.Cond.fieldLinkNest "ZSaves" (136 : Nat) "ZSaves$Session" "size" "I" "ZSaves") ∈ lw_tbl := List.mem_of_getElem? (i := 217) (by decide +kernel)
theorem tn_184 : (Jvm.Cond.fieldLinkNest "ZSaves$Reader" (99 : Nat) "ZSaves$Session" "size" "I" "ZSaves") ∈ am_nw := List.mem_of_getElem? (i := 24) (by decide +kernel)
theorem tz_184 : (Jvm.Cond.fieldLinkNest "ZSaves$Reader" (99 : Nat) "ZSaves$Session" "size" "I" "ZSaves") ∈ lw_tbl := List.mem_of_getElem? (i := 218) (by decide +kernel)
theorem tn_186 : (Jvm.Cond.fieldLinkNest "ZSaves$Kept" (70 : Nat) "ZSaves$Session" "pc" "I" "ZSaves") ∈ am_nw := List.mem_of_getElem? (i := 25) (by decide +kernel)
theorem tz_186 : (Jvm.Cond.fieldLinkNest "ZSaves$Kept" (70 : Nat) "ZSaves$Session" "pc" "I" "ZSaves") ∈ lw_tbl := List.mem_of_getElem? (i := 220) (by decide +kernel)
theorem tn_187 : (Jvm.Cond.fieldLinkNest "ZSaves$Reader" (92 : Nat) "ZSaves$Session" "pc" "I" "ZSaves") ∈ am_nw := List.mem_of_getElem? (i := 26) (by decide +kernel)
theorem tz_187 : (Jvm.Cond.fieldLinkNest "ZSaves$Reader" (92 : Nat) "ZSaves$Session" "pc" "I" "ZSaves") ∈ lw_tbl := List.mem_of_getElem? (i := 221) (by decide +kernel)
theorem tn_188 : (Jvm.Cond.fieldLinkNest "ZSaves" (144 : Nat) "ZSaves$Session" "pc" "I" "ZSaves") ∈ am_nw := List.mem_of_getElem? (i := 27) (by decide +kernel)
theorem tz_188 : (Jvm.Cond.fieldLinkNest "ZSaves" (144 : Nat) "ZSaves$Session" "pc" "I" "ZSaves") ∈ lw_tbl := List.mem_of_getElem? (i := 222) (by decide +kernel)
theorem tn_190 : (Jvm.Cond.fieldLinkNest "ZSaves" (147 : Nat) "ZSaves$Session" "count" "I" "ZSaves") ∈ am_nw := List.mem_of_getElem? (i := 28) (by decide +kernel)
theorem tz_190 : (Jvm.Cond.fieldLinkNest "ZSaves" (147 : Nat) "ZSaves$Session" "count" "I" "ZSaves") ∈ lw_tbl := List.mem_of_getElem? (i := 224) (by decide +kernel)
theorem tn_204 : (Jvm.Cond.methodLinkNest "ZSaves" (71 : Nat) ({ cls := "ZSaves$Strangers", name := "<init>", desc := "()V" } : Jvm.MethodName) "ZSaves") ∈ am_nw := List.mem_of_getElem? (i := 29) (by decide +kernel)
theorem tz_204 : (Jvm.Cond.methodLinkNest "ZSaves" (71 : Nat) ({ cls := "ZSaves$Strangers", name := "<init>", desc := "()V" } : Jvm.MethodName) "ZSaves") ∈ lw_tbl := List.mem_of_getElem? (i := 238) (by decide +kernel)
theorem tn_211 : (Jvm.Cond.fieldLinkNest "ZSaves$Writer" (59 : Nat) "ZSaves$Strangers" "rows" "LZSaves$Bytes;" "ZSaves") ∈ am_nw := List.mem_of_getElem? (i := 30) (by decide +kernel)
theorem tz_211 : (Jvm.Cond.fieldLinkNest "ZSaves$Writer" (59 : Nat) "ZSaves$Strangers" "rows" "LZSaves$Bytes;" "ZSaves") ∈ lw_tbl := List.mem_of_getElem? (i := 245) (by decide +kernel)
theorem tn_213 : (Jvm.Cond.fieldLinkNest "ZSaves$Writer" (55 : Nat) "ZSaves$Strangers" "names" "[I" "ZSaves") ∈ am_nw := List.mem_of_getElem? (i := 31) (by decide +kernel)
theorem tz_213 : (Jvm.Cond.fieldLinkNest "ZSaves$Writer" (55 : Nat) "ZSaves$Strangers" "names" "[I" "ZSaves") ∈ lw_tbl := List.mem_of_getElem? (i := 247) (by decide +kernel)
theorem tn_215 : (Jvm.Cond.fieldLinkNest "ZSaves$Writer" (62 : Nat) "ZSaves$Strangers" "sizes" "[I" "ZSaves") ∈ am_nw := List.mem_of_getElem? (i := 32) (by decide +kernel)
theorem tz_215 : (Jvm.Cond.fieldLinkNest "ZSaves$Writer" (62 : Nat) "ZSaves$Strangers" "sizes" "[I" "ZSaves") ∈ lw_tbl := List.mem_of_getElem? (i := 249) (by decide +kernel)
theorem tn_217 : (Jvm.Cond.fieldLinkNest "ZSaves$Writer" (52 : Nat) "ZSaves$Strangers" "count" "I" "ZSaves") ∈ am_nw := List.mem_of_getElem? (i := 33) (by decide +kernel)
theorem tz_217 : (Jvm.Cond.fieldLinkNest "ZSaves$Writer" (52 : Nat) "ZSaves$Strangers" "count" "I" "ZSaves") ∈ lw_tbl := List.mem_of_getElem? (i := 251) (by decide +kernel)
theorem tn_218 : (Jvm.Cond.fieldLinkNest "ZSaves" (270 : Nat) "ZSaves$Strangers" "count" "I" "ZSaves") ∈ am_nw := List.mem_of_getElem? (i := 34) (by decide +kernel)
theorem tz_218 : (Jvm.Cond.fieldLinkNest "ZSaves" (270 : Nat) "ZSaves$Strangers" "count" "I" "ZSaves") ∈ lw_tbl := List.mem_of_getElem? (i := 252) (by decide +kernel)
theorem tn_548 : (Jvm.Cond.methodLinkNest "ZSaves$Reader" (63 : Nat) ({ cls := "ZSaves", name := "fault", desc := "(II)I" } : Jvm.MethodName) "ZSaves") ∈ am_nw := List.mem_of_getElem? (i := 35) (by decide +kernel)
theorem tz_548 : (Jvm.Cond.methodLinkNest "ZSaves$Reader" (63 : Nat) ({ cls := "ZSaves", name := "fault", desc := "(II)I" } : Jvm.MethodName) "ZSaves") ∈ lw_tbl := List.mem_of_getElem? (i := 582) (by decide +kernel)
theorem tn_585 : (Jvm.Cond.methodLinkNest "ZSaves$Session" (78 : Nat) ({ cls := "ZSaves", name := "fault", desc := "(II)I" } : Jvm.MethodName) "ZSaves") ∈ am_nw := List.mem_of_getElem? (i := 36) (by decide +kernel)
theorem tz_585 : (Jvm.Cond.methodLinkNest "ZSaves$Session" (78 : Nat) ({ cls := "ZSaves", name := "fault", desc := "(II)I" } : Jvm.MethodName) "ZSaves") ∈ lw_tbl := List.mem_of_getElem? (i := 619) (by decide +kernel)
theorem am_nw_in : ∀ w ∈ am_nw, w ∈ lw_tbl := List.forall_mem_cons.mpr ⟨tz_24, List.forall_mem_cons.mpr ⟨tz_39, List.forall_mem_cons.mpr ⟨tz_40, List.forall_mem_cons.mpr ⟨tz_41, List.forall_mem_cons.mpr ⟨tz_42, List.forall_mem_cons.mpr ⟨tz_43, List.forall_mem_cons.mpr ⟨tz_51, List.forall_mem_cons.mpr ⟨tz_69, List.forall_mem_cons.mpr ⟨tz_76, List.forall_mem_cons.mpr ⟨tz_81, List.forall_mem_cons.mpr ⟨tz_97, List.forall_mem_cons.mpr ⟨tz_104, List.forall_mem_cons.mpr ⟨tz_105, List.forall_mem_cons.mpr ⟨tz_115, List.forall_mem_cons.mpr ⟨tz_122, List.forall_mem_cons.mpr ⟨tz_127, List.forall_mem_cons.mpr ⟨tz_129, List.forall_mem_cons.mpr ⟨tz_152, List.forall_mem_cons.mpr ⟨tz_158, List.forall_mem_cons.mpr ⟨tz_160, List.forall_mem_cons.mpr ⟨tz_162, List.forall_mem_cons.mpr ⟨tz_164, List.forall_mem_cons.mpr ⟨tz_166, List.forall_mem_cons.mpr ⟨tz_183, List.forall_mem_cons.mpr ⟨tz_184, List.forall_mem_cons.mpr ⟨tz_186, List.forall_mem_cons.mpr ⟨tz_187, List.forall_mem_cons.mpr ⟨tz_188, List.forall_mem_cons.mpr ⟨tz_190, List.forall_mem_cons.mpr ⟨tz_204, List.forall_mem_cons.mpr ⟨tz_211, List.forall_mem_cons.mpr ⟨tz_213, List.forall_mem_cons.mpr ⟨tz_215, List.forall_mem_cons.mpr ⟨tz_217, List.forall_mem_cons.mpr ⟨tz_218, List.forall_mem_cons.mpr ⟨tz_548, List.forall_mem_cons.mpr ⟨tz_585, fun _ h => absurd h List.not_mem_nil⟩⟩⟩⟩⟩⟩⟩⟩⟩⟩⟩⟩⟩⟩⟩⟩⟩⟩⟩⟩⟩⟩⟩⟩⟩⟩⟩⟩⟩⟩⟩⟩⟩⟩⟩⟩⟩
theorem am_in0 : ∀ w ∈ u_ws RX0 TX0 2, w ∈ am_T := by
  intro w hw
  obtain ⟨k, hk, rfl⟩ := List.mem_map.mp hw
  have hk := List.mem_range.mp hk
  match k, hk with
  | 0, _ => exact tw_44
  | 1, _ => exact tw_46
  | k + 2, hk => exact absurd hk (by omega)
theorem am_in1 : ∀ w ∈ u_ws RX1 TX1 6, w ∈ am_T := by
  intro w hw
  obtain ⟨k, hk, rfl⟩ := List.mem_map.mp hw
  have hk := List.mem_range.mp hk
  match k, hk with
  | 0, _ => exact tw_167
  | 1, _ => exact tw_169
  | 2, _ => exact tw_171
  | 3, _ => exact tw_173
  | 4, _ => exact tw_175
  | 5, _ => exact tw_177
  | k + 6, hk => exact absurd hk (by omega)
theorem am_in2 : ∀ w ∈ u_ws RX2 TX2 6, w ∈ am_T := by
  intro w hw
  obtain ⟨k, hk, rfl⟩ := List.mem_map.mp hw
  have hk := List.mem_range.mp hk
  match k, hk with
  | 0, _ => exact tw_130
  | 1, _ => exact tw_132
  | 2, _ => exact tw_134
  | 3, _ => exact tw_136
  | 4, _ => exact tw_138
  | 5, _ => exact tw_140
  | k + 6, hk => exact absurd hk (by omega)
theorem am_in3 : ∀ w ∈ u_ws RX3 TX3 5, w ∈ am_T := by
  intro w hw
  obtain ⟨k, hk, rfl⟩ := List.mem_map.mp hw
  have hk := List.mem_range.mp hk
  match k, hk with
  | 0, _ => exact tw_56
  | 1, _ => exact tw_58
  | 2, _ => exact tw_60
  | 3, _ => exact tw_62
  | 4, _ => exact tw_64
  | k + 5, hk => exact absurd hk (by omega)
theorem am_in4 : ∀ w ∈ u_ws RX4 TX4 5, w ∈ am_T := by
  intro w hw
  obtain ⟨k, hk, rfl⟩ := List.mem_map.mp hw
  have hk := List.mem_range.mp hk
  match k, hk with
  | 0, _ => exact tw_191
  | 1, _ => exact tw_193
  | 2, _ => exact tw_195
  | 3, _ => exact tw_197
  | 4, _ => exact tw_199
  | k + 5, hk => exact absurd hk (by omega)
theorem am_in5 : ∀ w ∈ u_ws RX5 TX5 3, w ∈ am_T := by
  intro w hw
  obtain ⟨k, hk, rfl⟩ := List.mem_map.mp hw
  have hk := List.mem_range.mp hk
  match k, hk with
  | 0, _ => exact tw_106
  | 1, _ => exact tw_108
  | 2, _ => exact tw_110
  | k + 3, hk => exact absurd hk (by omega)
theorem am_in6 : ∀ w ∈ u_ws RX6 TX6 4, w ∈ am_T := by
  intro w hw
  obtain ⟨k, hk, rfl⟩ := List.mem_map.mp hw
  have hk := List.mem_range.mp hk
  match k, hk with
  | 0, _ => exact tw_219
  | 1, _ => exact tw_221
  | 2, _ => exact tw_223
  | 3, _ => exact tw_225
  | k + 4, hk => exact absurd hk (by omega)
theorem am_in7 : ∀ w ∈ u_ws RX7 TX7 5, w ∈ am_T := by
  intro w hw
  obtain ⟨k, hk, rfl⟩ := List.mem_map.mp hw
  have hk := List.mem_range.mp hk
  match k, hk with
  | 0, _ => exact tw_82
  | 1, _ => exact tw_84
  | 2, _ => exact tw_86
  | 3, _ => exact tw_88
  | 4, _ => exact tw_90
  | k + 5, hk => exact absurd hk (by omega)
theorem am_in8 : ∀ w ∈ u_ws RX8 TX8 16, w ∈ am_T := by
  intro w hw
  obtain ⟨k, hk, rfl⟩ := List.mem_map.mp hw
  have hk := List.mem_range.mp hk
  match k, hk with
  | 0, _ => exact tw_244
  | 1, _ => exact tw_246
  | 2, _ => exact tw_248
  | 3, _ => exact tw_250
  | 4, _ => exact tw_252
  | 5, _ => exact tw_254
  | 6, _ => exact tw_256
  | 7, _ => exact tw_258
  | 8, _ => exact tw_260
  | 9, _ => exact tw_262
  | 10, _ => exact tw_264
  | 11, _ => exact tw_266
  | 12, _ => exact tw_268
  | 13, _ => exact tw_270
  | 14, _ => exact tw_272
  | 15, _ => exact tw_274
  | k + 16, hk => exact absurd hk (by omega)
theorem am_in9 : ∀ w ∈ u_ws RX9 TX9 29, w ∈ am_T := by
  intro w hw
  obtain ⟨k, hk, rfl⟩ := List.mem_map.mp hw
  have hk := List.mem_range.mp hk
  match k, hk with
  | 0, _ => exact tw_748
  | 1, _ => exact tw_750
  | 2, _ => exact tw_752
  | 3, _ => exact tw_754
  | 4, _ => exact tw_756
  | 5, _ => exact tw_758
  | 6, _ => exact tw_760
  | 7, _ => exact tw_762
  | 8, _ => exact tw_764
  | 9, _ => exact tw_766
  | 10, _ => exact tw_768
  | 11, _ => exact tw_770
  | 12, _ => exact tw_772
  | 13, _ => exact tw_774
  | 14, _ => exact tw_776
  | 15, _ => exact tw_778
  | 16, _ => exact tw_780
  | 17, _ => exact tw_782
  | 18, _ => exact tw_784
  | 19, _ => exact tw_786
  | 20, _ => exact tw_788
  | 21, _ => exact tw_790
  | 22, _ => exact tw_792
  | 23, _ => exact tw_794
  | 24, _ => exact tw_796
  | 25, _ => exact tw_798
  | 26, _ => exact tw_800
  | 27, _ => exact tw_802
  | 28, _ => exact tw_804
  | k + 29, hk => exact absurd hk (by omega)
def am_fkT : List (List Nat) := [[10, 99], [10, 99, 99, 99, 99, 99], [0, 10, 10, 10, 99, 99], [0, 99, 99, 99, 99], [10, 11, 99, 99, 99], [10, 10, 99], [0, 10, 10, 99], [0, 10, 10, 10, 99], [3, 7, 0, 0, 0, 0, 5, 2, 4, 4, 6, 6, 99, 99, 99, 99], [10, 99, 10, 99, 10, 99, 99, 10, 10, 99, 10, 10, 10, 10, 99, 99, 10, 99, 10, 99, 99, 99, 10, 10, 10, 99, 10, 99, 99]]
end
section
/-! ===== the abstract machine: a heap of numbered cells, whose addresses begin at a base; one judgement AW a frame, AR a method ===== -/
abbrev AH : Type := (Nat → Nat → Int32) × (Nat → Nat → Option Nat)
abbrev Gm : Type := List (Nat × Nat)
/-- the kind of what a slot's reference leads to; 99: the slot holds a number. kinds: 0 to 9 the classes of vwCl, 10 rows of ints, 11 rows of Frames -/
def am_fk (c j : Nat) : Nat := if c = 11 then 1 else ((am_fkT.getD c []).getD j 99)
def am_nf (c : Nat) : Nat := (am_fkT.getD c []).length
def am_fld (base c a : Nat) (h : AH) (j : Nat) : Value := if am_fk c j = 99 then .int (h.1 a j) else va_rf ((h.2 a j).map (fun q => base + q))
def am_cell (cI cF : ClassId) (base : Nat) (kd : Nat × Nat) (a : Nat) (h : AH) : va_E :=
  if kd.1 = 10 then .inl (cI, kd.2, .inl (h.1 a))
  else if kd.1 = 11 then .inl (cF, kd.2, .inr (.inr (.inr (.inr (fun i => (h.2 a i).map (fun q => base + q))))))
  else .inr (kd.1, (List.range (am_nf kd.1)).map (am_fld base kd.1 a h))
def am_ws (cI cF : ClassId) (base : Nat) (Γ : Gm) (h : AH) : va_W := Γ.mapIdx (fun a kd => (base + a, am_cell cI cF base kd a h))
def am_v (base : Nat) (v : Value) : Value := match v with
  | .ref a => .ref (base + a)
  | v => v
def am_o (r : Option Nat) : Value := va_rf r
def am_len (Γ : Gm) (a : Nat) : Nat := (Γ.getD a (0, 0)).2
def am_setI (h : AH) (a j : Nat) (v : Int32) : AH := (fun b => if b = a then upd (h.1 b) j v else h.1 b, h.2)
def am_setR (h : AH) (a j : Nat) (r : Option Nat) : AH := (h.1, fun b => if b = a then va_up (h.2 b) j r else h.2 b)
def am_cpy (h : AH) (src dst sp dp n : Nat) : AH := (fun b => if b = dst then va_cpy (h.1 src) (h.1 dst) sp dp n else h.1 b, h.2)
def am_WT (Γ : Gm) (h : AH) : Prop := ∀ (a : Nat) (kd : Nat × Nat) (j b : Nat), Γ[a]? = some kd → h.2 a j = some b → am_fk kd.1 j ≠ 99 → ∃ n, Γ[b]? = some (am_fk kd.1 j, n)
theorem am_len_of {Γ : Gm} {a c n : Nat} (h : Γ[a]? = some (c, n)) : am_len Γ a = n := by simp [am_len, List.getD, h]
theorem am_at {cI cF : ClassId} {base : Nat} {Γ : Gm} {h : AH} {a : Nat} {kd : Nat × Nat} (hk : Γ[a]? = some kd) : (am_ws cI cF base Γ h)[a]? = some (base + a, am_cell cI cF base kd a h) := by simp [am_ws, List.getElem?_mapIdx, hk]
theorem am_at_inv {cI cF : ClassId} {base : Nat} {Γ : Gm} {h : AH} {a : Nat} {q : Nat × va_E} (hq : (am_ws cI cF base Γ h)[a]? = some q) : ∃ kd, Γ[a]? = some kd ∧ q = (base + a, am_cell cI cF base kd a h) := by
  simp only [am_ws, List.getElem?_mapIdx, Option.map_eq_some_iff] at hq
  obtain ⟨kd, h1, h2⟩ := hq
  exact ⟨kd, h1, h2.symm⟩
theorem am_D {cI cF : ClassId} {base : Nat} {Γ : Gm} {h : AH} : va_D (fun q => base ≤ q) (am_ws cI cF base Γ h) := by
  refine ⟨fun i j p q hp hq he => ?_, fun k q hq => ?_⟩
  · obtain ⟨_, _, rfl⟩ := am_at_inv hp
    obtain ⟨_, _, rfl⟩ := am_at_inv hq
    simp only at he
    omega
  · obtain ⟨_, _, rfl⟩ := am_at_inv hq
    simp
theorem am_cell_eq {cI cF : ClassId} {base : Nat} {kd : Nat × Nat} {a : Nat} {h h' : AH} (h1 : h'.1 a = h.1 a) (h2 : h'.2 a = h.2 a) : am_cell cI cF base kd a h' = am_cell cI cF base kd a h := by
  have e : am_fld base kd.1 a h' = am_fld base kd.1 a h := by funext j; simp [am_fld, h1, h2]
  simp only [am_cell, h1, h2, e]
theorem am_ws_set {cI cF : ClassId} {base : Nat} {Γ : Gm} {h h' : AH} {a : Nat} {kd : Nat × Nat} (hk : Γ[a]? = some kd) (h1 : ∀ b, b ≠ a → h'.1 b = h.1 b) (h2 : ∀ b, b ≠ a → h'.2 b = h.2 b) {e : va_E} (he : e = am_cell cI cF base kd a h') : (am_ws cI cF base Γ h).set a (base + a, e) = am_ws cI cF base Γ h' := by
  subst he
  apply List.ext_getElem?
  intro i
  by_cases hi : i = a
  · subst hi
    rw [am_at hk, List.getElem?_set_self]
    exact (List.getElem?_eq_some_iff.mp (am_at (cI := cI) (cF := cF) (base := base) (h := h) hk)).1
  · rw [List.getElem?_set_ne (fun q => hi q.symm)]
    simp only [am_ws, List.getElem?_mapIdx]
    cases Γ[i]? with
    | none => rfl
    | some kd' => simp [am_cell_eq (h1 i hi) (h2 i hi)]
theorem am_cell_I {cI cF : ClassId} {base n a : Nat} {h : AH} : am_cell cI cF base (10, n) a h = .inl (cI, n, .inl (h.1 a)) := rfl
theorem am_cell_F {cI cF : ClassId} {base n a : Nat} {h : AH} : am_cell cI cF base (11, n) a h = .inl (cF, n, .inr (.inr (.inr (.inr (fun i => (h.2 a i).map (fun q => base + q)))))) := rfl
theorem am_cell_O {cI cF : ClassId} {base ci n a : Nat} {h : AH} (hc : ci < 10) : am_cell cI cF base (ci, n) a h = .inr (ci, (List.range (am_nf ci)).map (am_fld base ci a h)) := by
  unfold am_cell
  rw [if_neg (by simp only; omega), if_neg (by simp only; omega)]
theorem am_fs_at {base ci a j : Nat} {h : AH} (hj : j < am_nf ci) : ((List.range (am_nf ci)).map (am_fld base ci a h))[j]? = some (am_fld base ci a h j) := by simp [hj]
theorem am_fs_set {base ci a j : Nat} {h h' : AH} {v : Value} (hv : am_fld base ci a h' j = v) (ho : ∀ i, i ≠ j → am_fld base ci a h' i = am_fld base ci a h i) : ((List.range (am_nf ci)).map (am_fld base ci a h)).set j v = (List.range (am_nf ci)).map (am_fld base ci a h') := by
  apply List.ext_getElem?
  intro i
  by_cases hi : i = j
  · subst hi
    by_cases hl : i < am_nf ci
    · rw [List.getElem?_set_self (by simpa using hl)]
      simp [hl, hv]
    · rw [List.getElem?_eq_none (by simpa using hl), List.getElem?_eq_none (by simpa using hl)]
  · rw [List.getElem?_set_ne (fun q => hi q.symm)]
    by_cases hl : i < am_nf ci
    · simp [hl, ho i hi]
    · rw [List.getElem?_eq_none (by simpa using hl), List.getElem?_eq_none (by simpa using hl)]
/-! locals -/
def am_L (base : Nat) (ls : Array Slot) (nL : Nat) (L : List (Option Value)) : Prop := ls.size = nL ∧ lv_wf ls ∧ ∀ (i : Nat) (v : Value), L[i]? = some (some v) → ls[i]? = some (.val (am_v base v))
def am_ll (base : Nat) (L : List (Option Value)) : List (Nat × Value) := (List.range L.length).filterMap (fun i => (L[i]?.join).map (fun v => (i, am_v base v)))
theorem am_ll_mem {base : Nat} {L : List (Option Value)} {i : Nat} {v : Value} (h : L[i]? = some (some v)) : (i, am_v base v) ∈ am_ll base L := by
  refine List.mem_filterMap.mpr ⟨i, List.mem_range.mpr (List.getElem?_eq_some_iff.mp h).1, ?_⟩
  simp [h]
theorem am_L.has {base nL : Nat} {ls : Array Slot} {L : List (Option Value)} (h : am_L base ls nL L) : lv_has ls nL (am_ll base L) := by
  refine ⟨h.1, h.2.1, fun q hq => ?_⟩
  obtain ⟨i, -, hi⟩ := List.mem_filterMap.mp hq
  cases hL : L[i]?.join with
  | none => rw [hL] at hi; cases hi
  | some v =>
    rw [hL] at hi
    have e : (i, am_v base v) = q := Option.some.inj hi
    subst e
    exact h.2.2 i v (Option.join_eq_some_iff.mp hL)
theorem am_v_cat (base : Nat) (v : Value) : (am_v base v).category = v.category := by cases v <;> rfl
/-- no long just ahead of place i -/
def am_nl (L : List (Option Value)) (i : Nat) : Prop := ∀ v : Value, 0 < i → L[i - 1]? = some (some v) → v.category = 1
theorem am_L.put1 {base nL i : Nat} {ls : Array Slot} {L : List (Option Value)} {v : Value} (hn : am_nl L i) (h : lv_has ls nL ((i, am_v base v) :: (am_ll base L).filter (fun q => !(q.1 == i) && !(q.1 + 1 == i && q.2.category == 2)))) : am_L base ls nL (L.set i (some v)) := by
  refine ⟨h.1, h.2.1, fun j w hj => ?_⟩
  by_cases e : j = i
  · subst e
    rw [List.getElem?_set_self (by have := (List.getElem?_eq_some_iff.mp hj).1; simpa using this)] at hj
    cases hj
    exact h.2.2 _ List.mem_cons_self
  · rw [List.getElem?_set_ne (fun q => e q.symm)] at hj
    refine h.2.2 (j, am_v base w) (List.mem_cons_of_mem _ (List.mem_filter.mpr ⟨am_ll_mem hj, ?_⟩))
    by_cases e2 : j + 1 = i
    · have := hn w (by omega) (by rw [show i - 1 = j by omega]; exact hj)
      simp [e, am_v_cat, this]
    · simp [e, e2]
theorem am_L.put2 {base nL i : Nat} {ls : Array Slot} {L : List (Option Value)} {v : Value} (hn : am_nl L i) (h : lv_has ls nL ((i, am_v base v) :: (am_ll base L).filter (fun q => !(q.1 == i) && (!(q.1 == i + 1) && !(q.1 + 1 == i && q.2.category == 2))))) : am_L base ls nL ((L.set i (some v)).set (i + 1) none) := by
  refine ⟨h.1, h.2.1, fun j w hj => ?_⟩
  by_cases e1 : j = i + 1
  · subst e1
    rw [List.getElem?_set_self (by have := (List.getElem?_eq_some_iff.mp hj).1; simpa using this)] at hj
    cases hj
  · rw [List.getElem?_set_ne (fun q => e1 q.symm)] at hj
    by_cases e : j = i
    · subst e
      rw [List.getElem?_set_self (by have := (List.getElem?_eq_some_iff.mp hj).1; simpa using this)] at hj
      cases hj
      exact h.2.2 _ List.mem_cons_self
    · rw [List.getElem?_set_ne (fun q => e q.symm)] at hj
      refine h.2.2 (j, am_v base w) (List.mem_cons_of_mem _ (List.mem_filter.mpr ⟨am_ll_mem hj, ?_⟩))
      by_cases e2 : j + 1 = i
      · have := hn w (by omega) (by rw [show i - 1 = j by omega]; exact hj)
        simp [e, e1, am_v_cat, this]
      · simp [e, e1, e2]
def am_le : List (Option Value) → List (Option Value) → Prop
  | [], _ => True
  | none :: a, _ :: b => am_le a b
  | some v :: a, w :: b => w = some v ∧ am_le a b
  | _ :: _, [] => False
theorem am_le_at : ∀ {A B : List (Option Value)}, am_le A B → ∀ (i : Nat) (v : Value), A[i]? = some (some v) → B[i]? = some (some v)
  | [], _, _, i, v, h => by simp at h
  | none :: a, w :: b, hl, 0, v, h => by simp at h
  | none :: a, w :: b, hl, i + 1, v, h => by
    rw [List.getElem?_cons_succ] at h ⊢
    exact am_le_at (A := a) (B := b) hl i v h
  | some u :: a, w :: b, hl, 0, v, h => by
    simp only [List.getElem?_cons_zero] at h ⊢
    rw [hl.1]; exact h
  | some u :: a, w :: b, hl, i + 1, v, h => by
    rw [List.getElem?_cons_succ] at h ⊢
    exact am_le_at (A := a) (B := b) hl.2 i v h
  | none :: a, [], hl, i, v, h => hl.elim
  | some u :: a, [], hl, i, v, h => hl.elim
theorem am_L.weak {base nL : Nat} {ls : Array Slot} {A B : List (Option Value)} (h : am_L base ls nL B) (hl : am_le A B) : am_L base ls nL A := ⟨h.1, h.2.1, fun i v hi => h.2.2 i v (am_le_at hl i v hi)⟩
/-! the judgements -/
/-- code, places, answer's type, own class, is a constructor, room, cells and slots made, kind of an answer that is a reference -/
abbrev AMt : Type := ByteArray × Nat × Option FieldType × String × Bool × Room × Nat × Nat × Nat
abbrev ARs : Type := Option Value × Gm × AH
def am_rm (d mc ms : Nat) : Room := { frames := d, cells := mc, slots := ms, locals := 32 * d }
def am_N (s : State) : Prop := (∀ w ∈ am_nw, va_Nw w s) ∧ va_AO "ZSaves$Frame" s
def am_tys (cI cF : ClassId) : List (ClassId × FieldType) := [(cI, .int), (cF, .object "ZSaves$Frame")]
def am_Cx (M : AMt) (p : Program) (s : State) (m : MethodId) (args : Array Value) (meth : Method) (c : Code) (base : Nat) (D : va_G) (cI cF : ClassId) : Prop :=
  p.tables.exec = Jvm.exec ∧ c.code = M.1 ∧ meth.sig.returnType = M.2.2.1 ∧ c.maxLocals = M.2.1 ∧ s.vm.findClass M.2.2.2.1 = some m.cls ∧ (∀ w ∈ am_T, w.before args s = true) ∧ meth.locks = false ∧ (M.2.2.2.2.1 = true → meth.name = "<init>") ∧ va_K D vwCl (am_tys cI cF) s ∧ am_N s ∧ base ≤ s.heap.size
def am_Wd (D : va_G) (cI cF : ClassId) (base : Nat) (Γ : Gm) (h : AH) (H : Heap) : Prop := am_WT Γ h ∧ va_P D vwCl (am_ws cI cF base Γ h) H
/-- what has changed since the method's beginning; the cells that it made are the last ones -/
def am_S (base : Nat) (s : State) (k : Nat) (Γ : Gm) (H : Heap) (locs : List Loc) : Prop := va_S (fun q => base ≤ q) s.heap H locs ∧ s.heap.size + k = base + Γ.length
/-- an answer that is a reference leads to a cell of the kind rk (99: it says nothing; 98: a number that is 0 or 1) -/
def am_rk (rk : Nat) (res : ARs) : Prop := (∀ b : Nat, res.1 = some (.ref b) → rk < 98 → ∃ n, res.2.1[b]? = some (rk, n)) ∧ (rk = 98 → ∀ x : Int32, res.1 = some (.int x) → x = 0 ∨ x = 1)
def am_Q (D : va_G) (cI cF : ClassId) (base rk : Nat) (res : ARs) : Array Value → State → Outcome → State → Prop := fun _ st oc t =>
  oc = .returned (res.1.map (am_v base)) ∧ am_rk rk res ∧ am_Wd D cI cF base res.2.1 res.2.2 t.heap ∧ va_F (fun q => base ≤ q) st t
def AW (l : Launch) (M : AMt) (res : ARs) (k n pc : Nat) (L : List (Option Value)) (st : List Value) (Γ : Gm) (h : AH) : Prop :=
  ∀ (p : Program) (e : Env) (s : State) (m : MethodId) (args : Array Value) (below : List Frame) (meth : Method) (c : Code) (base : Nat) (D : va_G) (cI cF : ClassId) (H : Heap) (locs : List Loc) (ls : Array Slot),
    am_Cx M p s m args meth c base D cI cF → am_Wd D cI cF base Γ h H → am_S base s k Γ H locs → am_L base ls M.2.1 L →
    W p l e M.2.2.2.2.2.1 s m args below meth c H locs k n (MQ below (am_Q D cI cF base M.2.2.2.2.2.2.2.2 res) args s M.2.2.2.2.2.2.1 M.2.2.2.2.2.2.2.1 (fun q => base ≤ q)) (F0 m pc ls (st.map (am_v base)))
def AR (l : Launch) (y : MethodName) (M : AMt) (args : List Value) (Γ : Gm) (h : AH) (res : ARs) : Prop :=
  ∀ (base : Nat) (D : va_G) (cI cF : ClassId), Met l y (.code y M.1 M.2.1 M.2.2.1 :: am_T) M.2.2.2.2.2.1 (va_Pc (args.map (am_v base)) (fun U => va_K D vwCl (am_tys cI cF) U ∧ am_N U ∧ U.heap.size = base + Γ.length ∧ am_Wd D cI cF base Γ h U.heap)) (am_Q D cI cF base M.2.2.2.2.2.2.2.2 res) M.2.2.2.2.2.2.1 M.2.2.2.2.2.2.2.1 (fun q => base ≤ q)
theorem am_N.warm {s U : State} (hW : s.WarmedH U.vm) (h : am_N s) : am_N U := by
  refine ⟨fun w hw => ?_, h.2.moved hW.alike⟩
  have h1 := h.1 w hw
  have h2 : am_isN w = true := List.all_eq_true.mp am_nw_all w hw
  cases w <;> first | exact va_Nw.warmF hW h1 | exact va_Nw.warmM hW h1 | (exact absurd h2 (by simp [am_isN]))
/-- the locals at a method's beginning -/
def am_ent : List Value → List (Option Value)
  | [] => []
  | v :: vs => if v.category = 2 then some v :: none :: am_ent vs else some v :: am_ent vs
theorem am_ent_at (base : Nat) : ∀ (vs : List Value) (o i : Nat) (v : Value), (am_ent vs)[i]? = some (some v) → (o + i, am_v base v) ∈ lv_args o (vs.map (am_v base))
  | [], o, i, v, h => by simp [am_ent] at h
  | w :: vs, o, i, v, h => by
    unfold am_ent at h
    simp only [List.map_cons, lv_args, am_v_cat]
    by_cases hc : w.category = 2
    · rw [if_pos hc] at h
      rw [if_pos hc]
      match i, h with
      | 0, h => simp at h; subst h; exact List.mem_cons_self
      | 1, h => simp at h
      | i + 2, h =>
        have := am_ent_at base vs (o + 2) i v (by simpa using h)
        refine List.mem_cons_of_mem _ ?_
        rw [show o + (i + 2) = o + 2 + i by omega]
        exact this
    · rw [if_neg hc] at h
      rw [if_neg hc]
      match i, h with
      | 0, h => simp at h; subst h; exact List.mem_cons_self
      | i + 1, h =>
        have := am_ent_at base vs (o + 1) i v (by simpa using h)
        refine List.mem_cons_of_mem _ ?_
        rw [show o + (i + 1) = o + 1 + i by omega]
        exact this
theorem am_sl_len (base : Nat) : ∀ (vs : List Value), (lg_sl (vs.map (am_v base))).length = (am_ent vs).length
  | [] => rfl
  | v :: vs => by
    have := am_sl_len base vs
    simp only [lg_sl, List.map_cons, List.flatMap_cons, List.length_append, am_ent, am_v_cat] at this ⊢
    by_cases hc : v.category = 2
    · simp [hc, this]; omega
    · simp [hc, this]; omega
set_option maxHeartbeats 4000000 in
theorem AR.of {l : Launch} {y : MethodName} {M : AMt} {args : List Value} {Γ : Gm} {h : AH} {res : ARs} (L : List (Option Value)) (hy : plainName y.cls = true) (hcls : y.cls = M.2.2.2.1) (hini : M.2.2.2.2.1 = true → y.name = "<init>") (hl : (am_ent args).length ≤ M.2.1) (hL : am_le L (am_ent args))
    (body : AW l M res 0 0 0 L [] Γ h) : AR l y M args Γ h res := by
  intro base D cI cF
  refine Met.ofW (cc := M.1) (maxL := M.2.1) (ret := M.2.2.1) hy rfl ?_
  intro p e s m as below meth c s₁ B hml hv
  obtain ⟨rfl, hK, hN, hb, hWd⟩ := hv
  have hts : ∀ w ∈ (Cond.code y M.1 M.2.1 M.2.2.1 :: am_T), w.before _ s = true := atoms_spec B.pre
  have hown : s.vm.findClass M.2.2.2.1 = some m.cls := by rw [← hcls]; exact findClass_of_methodNamed B.named
  have hent := lv_entry (args.map (am_v base)) (n := M.2.1) (by rw [am_sl_len]; exact hl)
  rw [lg_entry_eq]
  exact body p e s m _ below meth c base D cI cF s.heap [] _ ⟨B.exec, B.bytes, B.returns, hml, hown, fun w hw => hts w (List.mem_cons_of_mem _ hw), B.notSynchronized, fun hi => by rw [(name_of_methodNamed B.named B.method).1]; exact hini hi, hK, hN, by rw [hb]; exact Nat.le_add_right _ _⟩ hWd ⟨va_S.rf, hb⟩ ⟨hent.1, hent.2.1, fun i v hi => by
    have := hent.2.2 _ (am_ent_at base args 0 i v (am_le_at hL i v hi))
    simpa using this⟩
theorem AW.weak {l : Launch} {M : AMt} {res : ARs} {k n pc : Nat} {A B : List (Option Value)} {st : List Value} {Γ : Gm} {h : AH} (hl : am_le A B) (kk : AW l M res k n pc A st Γ h) : AW l M res k n pc B st Γ h :=
  fun p e s m args below meth c base D cI cF H locs ls C hW hS hL => kk p e s m args below meth c base D cI cF H locs ls C hW hS (hL.weak hl)
end
section
section AMR
variable {l : Launch} {M : AMt} {res : ARs} {k n pc q : Nat} {L : List (Option Value)} {st : List Value} {Γ : Gm} {h : AH}
theorem a_iconst {i : Int} {v : Int32} (hv : Int32.ofInt i = v) (hd : decode M.1 pc = .ok (.iconst i, 1)) (hq : pc + 1 = q) (kk : AW l M res k n q L (.int v :: st) Γ h) : AW l M res k n pc L (st) Γ h := by
  subst hq
  exact fun p e s m args below meth c base D cI cF H locs ls C hW hS hL => lv_iconst C.1 C.2.1 hd hv (kk p e s m args below meth c base D cI cF H locs ls C hW hS hL)
theorem a_bipush {i : Int} {v : Int32} (hv : (Int8.ofInt i).toInt32 = v) (hd : decode M.1 pc = .ok (.bipush i, 2)) (hq : pc + 2 = q) (kk : AW l M res k n q L (.int v :: st) Γ h) : AW l M res k n pc L (st) Γ h := by
  subst hq
  exact fun p e s m args below meth c base D cI cF H locs ls C hW hS hL => lv_bipush C.1 C.2.1 hd hv (kk p e s m args below meth c base D cI cF H locs ls C hW hS hL)
theorem a_sipush {i : Int} {v : Int32} (hv : (Int16.ofInt i).toInt32 = v) (hd : decode M.1 pc = .ok (.sipush i, 3)) (hq : pc + 3 = q) (kk : AW l M res k n q L (.int v :: st) Γ h) : AW l M res k n pc L (st) Γ h := by
  subst hq
  exact fun p e s m args below meth c base D cI cF H locs ls C hW hS hL => lv_sipush C.1 C.2.1 hd hv (kk p e s m args below meth c base D cI cF H locs ls C hW hS hL)
theorem a_lconst {i : Fin 2} {v : Int64} (hv : Int64.ofNat (i : Nat) = v) (hd : decode M.1 pc = .ok (.lconst i, 1)) (hq : pc + 1 = q) (kk : AW l M res k n q L (.long v :: st) Γ h) : AW l M res k n pc L (st) Γ h := by
  subst hq
  exact fun p e s m args below meth c base D cI cF H locs ls C hW hS hL => lv_lconst C.1 C.2.1 hd hv (kk p e s m args below meth c base D cI cF H locs ls C hW hS hL)
theorem a_null  (hd : decode M.1 pc = .ok (.aconst_null, 1)) (hq : pc + 1 = q) (kk : AW l M res k n q L (.null :: st) Γ h) : AW l M res k n pc L (st) Γ h := by
  subst hq
  exact fun p e s m args below meth c base D cI cF H locs ls C hW hS hL => lv_null C.1 C.2.1 hd (kk p e s m args below meth c base D cI cF H locs ls C hW hS hL)
theorem a_ldc {i : Nat} {v : Int32} (hw : Cond.constant M.2.2.2.1 i v ∈ am_T) (hd : decode M.1 pc = .ok (.ldc i, 2)) (hq : pc + 2 = q) (kk : AW l M res k n q L (.int v :: st) Γ h) : AW l M res k n pc L (st) Γ h := by
  subst hq
  exact fun p e s m args below meth c base D cI cF H locs ls C hW hS hL => lv_ldc C.1 C.2.1 C.2.2.2.2.1 (C.2.2.2.2.2.1 _ hw) hd (kk p e s m args below meth c base D cI cF H locs ls C hW hS hL)
theorem a_ldcw {i : Nat} {v : Int32} (hw : Cond.constant M.2.2.2.1 i v ∈ am_T) (hd : decode M.1 pc = .ok (.ldc_w i, 3)) (hq : pc + 3 = q) (kk : AW l M res k n q L (.int v :: st) Γ h) : AW l M res k n pc L (st) Γ h := by
  subst hq
  exact fun p e s m args below meth c base D cI cF H locs ls C hW hS hL => lv_ldcw C.1 C.2.1 C.2.2.2.2.1 (C.2.2.2.2.2.1 _ hw) hd (kk p e s m args below meth c base D cI cF H locs ls C hW hS hL)
theorem a_ldc2 {i : Nat} {v : Int64} (hw : Cond.constantLong M.2.2.2.1 i v ∈ am_T) (hd : decode M.1 pc = .ok (.ldc2_w i, 3)) (hq : pc + 3 = q) (kk : AW l M res k n q L (.long v :: st) Γ h) : AW l M res k n pc L (st) Γ h := by
  subst hq
  exact fun p e s m args below meth c base D cI cF H locs ls C hW hS hL => lv_ldc2 C.1 C.2.1 C.2.2.2.2.1 (C.2.2.2.2.2.1 _ hw) hd (kk p e s m args below meth c base D cI cF H locs ls C hW hS hL)
theorem a_iload_n {i : Fin 4} {x : Int32} (hl : L[(i : Nat)]? = some (some (.int x))) (hd : decode M.1 pc = .ok (.iload_n i, 1)) (hq : pc + 1 = q) (kk : AW l M res k n q L (.int x :: st) Γ h) : AW l M res k n pc L (st) Γ h := by
  subst hq
  exact fun p e s m args below meth c base D cI cF H locs ls C hW hS hL => lv_iload_n C.1 C.2.1 hd rfl (hL.2.2 _ _ hl) (kk p e s m args below meth c base D cI cF H locs ls C hW hS hL)
theorem a_iload {i : Nat} {x : Int32} (hl : L[i]? = some (some (.int x))) (hd : decode M.1 pc = .ok (.iload i, 2)) (hq : pc + 2 = q) (kk : AW l M res k n q L (.int x :: st) Γ h) : AW l M res k n pc L (st) Γ h := by
  subst hq
  exact fun p e s m args below meth c base D cI cF H locs ls C hW hS hL => lv_iload C.1 C.2.1 hd (hL.2.2 _ _ hl) (kk p e s m args below meth c base D cI cF H locs ls C hW hS hL)
theorem a_lload_n {i : Fin 4} {x : Int64} (hl : L[(i : Nat)]? = some (some (.long x))) (hd : decode M.1 pc = .ok (.lload_n i, 1)) (hq : pc + 1 = q) (kk : AW l M res k n q L (.long x :: st) Γ h) : AW l M res k n pc L (st) Γ h := by
  subst hq
  exact fun p e s m args below meth c base D cI cF H locs ls C hW hS hL => lv_lload_n C.1 C.2.1 hd rfl (hL.2.2 _ _ hl) (kk p e s m args below meth c base D cI cF H locs ls C hW hS hL)
theorem a_lload {i : Nat} {x : Int64} (hl : L[i]? = some (some (.long x))) (hd : decode M.1 pc = .ok (.lload i, 2)) (hq : pc + 2 = q) (kk : AW l M res k n q L (.long x :: st) Γ h) : AW l M res k n pc L (st) Γ h := by
  subst hq
  exact fun p e s m args below meth c base D cI cF H locs ls C hW hS hL => lv_lload C.1 C.2.1 hd (hL.2.2 _ _ hl) (kk p e s m args below meth c base D cI cF H locs ls C hW hS hL)
theorem a_aload_n {i : Fin 4} {x : Nat} (hl : L[(i : Nat)]? = some (some (.ref x))) (hd : decode M.1 pc = .ok (.aload_n i, 1)) (hq : pc + 1 = q) (kk : AW l M res k n q L (.ref x :: st) Γ h) : AW l M res k n pc L (st) Γ h := by
  subst hq
  exact fun p e s m args below meth c base D cI cF H locs ls C hW hS hL => lv_aload_n C.1 C.2.1 hd rfl (hL.2.2 _ _ hl) (kk p e s m args below meth c base D cI cF H locs ls C hW hS hL)
theorem a_aload {i : Nat} {x : Nat} (hl : L[i]? = some (some (.ref x))) (hd : decode M.1 pc = .ok (.aload i, 2)) (hq : pc + 2 = q) (kk : AW l M res k n q L (.ref x :: st) Γ h) : AW l M res k n pc L (st) Γ h := by
  subst hq
  exact fun p e s m args below meth c base D cI cF H locs ls C hW hS hL => lv_aload C.1 C.2.1 hd (hL.2.2 _ _ hl) (kk p e s m args below meth c base D cI cF H locs ls C hW hS hL)
theorem a_aload_nN {i : Fin 4} (hl : L[(i : Nat)]? = some (some .null)) (hd : decode M.1 pc = .ok (.aload_n i, 1)) (hq : pc + 1 = q) (kk : AW l M res k n q L (.null :: st) Γ h) : AW l M res k n pc L (st) Γ h := by
  subst hq
  exact fun p e s m args below meth c base D cI cF H locs ls C hW hS hL => lv_aload_nN C.1 C.2.1 hd rfl (hL.2.2 _ _ hl) (kk p e s m args below meth c base D cI cF H locs ls C hW hS hL)
theorem a_istore_n {i : Fin 4} {x : Int32} {L' : List (Option Value)} (hd : decode M.1 pc = .ok (.istore_n i, 1)) (hq : pc + 1 = q) (hi : (i : Nat) < M.2.1) (hn : am_nl L (i : Nat)) (hl : L.set (i : Nat) (some (Value.int x)) = L') (kk : AW l M res k n q L' st Γ h) : AW l M res k n pc L (.int x :: st) Γ h := by
  subst hq
  subst hl
  exact fun p e s m args below meth c base D cI cF H locs ls C hW hS hL => lv_istore_n C.1 C.2.1 hd rfl hL.has hi rfl (fun ls' hl' => kk p e s m args below meth c base D cI cF H locs ls' C hW hS (am_L.put1 hn hl'))
theorem a_istore {i : Nat} {x : Int32} {L' : List (Option Value)} (hd : decode M.1 pc = .ok (.istore i, 2)) (hq : pc + 2 = q) (hi : i < M.2.1) (hn : am_nl L i) (hl : L.set i (some (Value.int x)) = L') (kk : AW l M res k n q L' st Γ h) : AW l M res k n pc L (.int x :: st) Γ h := by
  subst hq
  subst hl
  exact fun p e s m args below meth c base D cI cF H locs ls C hW hS hL => lv_istore C.1 C.2.1 hd  hL.has hi rfl (fun ls' hl' => kk p e s m args below meth c base D cI cF H locs ls' C hW hS (am_L.put1 hn hl'))
theorem a_astore_n {i : Fin 4} {x : Nat} {L' : List (Option Value)} (hd : decode M.1 pc = .ok (.astore_n i, 1)) (hq : pc + 1 = q) (hi : (i : Nat) < M.2.1) (hn : am_nl L (i : Nat)) (hl : L.set (i : Nat) (some (Value.ref x)) = L') (kk : AW l M res k n q L' st Γ h) : AW l M res k n pc L (.ref x :: st) Γ h := by
  subst hq
  subst hl
  exact fun p e s m args below meth c base D cI cF H locs ls C hW hS hL => lv_astore_n C.1 C.2.1 hd rfl hL.has hi rfl (fun ls' hl' => kk p e s m args below meth c base D cI cF H locs ls' C hW hS (am_L.put1 hn hl'))
theorem a_astore {i : Nat} {x : Nat} {L' : List (Option Value)} (hd : decode M.1 pc = .ok (.astore i, 2)) (hq : pc + 2 = q) (hi : i < M.2.1) (hn : am_nl L i) (hl : L.set i (some (Value.ref x)) = L') (kk : AW l M res k n q L' st Γ h) : AW l M res k n pc L (.ref x :: st) Γ h := by
  subst hq
  subst hl
  exact fun p e s m args below meth c base D cI cF H locs ls C hW hS hL => lv_astore C.1 C.2.1 hd  hL.has hi rfl (fun ls' hl' => kk p e s m args below meth c base D cI cF H locs ls' C hW hS (am_L.put1 hn hl'))
theorem a_astore_nN {i : Fin 4} {L' : List (Option Value)} (hd : decode M.1 pc = .ok (.astore_n i, 1)) (hq : pc + 1 = q) (hi : (i : Nat) < M.2.1) (hn : am_nl L (i : Nat)) (hl : L.set (i : Nat) (some Value.null) = L') (kk : AW l M res k n q L' st Γ h) : AW l M res k n pc L (.null :: st) Γ h := by
  subst hq
  subst hl
  exact fun p e s m args below meth c base D cI cF H locs ls C hW hS hL => lv_astore_nN C.1 C.2.1 hd rfl hL.has hi rfl (fun ls' hl' => kk p e s m args below meth c base D cI cF H locs ls' C hW hS (am_L.put1 hn hl'))
theorem a_lstore_n {i : Fin 4} {x : Int64} {L' : List (Option Value)} (hd : decode M.1 pc = .ok (.lstore_n i, 1)) (hq : pc + 1 = q) (hi : (i : Nat) + 1 < M.2.1) (hn : am_nl L (i : Nat)) (hl : (L.set (i : Nat) (some (Value.long x))).set ((i : Nat) + 1) none = L') (kk : AW l M res k n q L' st Γ h) : AW l M res k n pc L (.long x :: st) Γ h := by
  subst hq
  subst hl
  exact fun p e s m args below meth c base D cI cF H locs ls C hW hS hL => lv_lstore_n C.1 C.2.1 hd rfl hL.has hi rfl (fun ls' hl' => kk p e s m args below meth c base D cI cF H locs ls' C hW hS (am_L.put2 hn hl'))
theorem a_lstore {i : Nat} {x : Int64} {L' : List (Option Value)} (hd : decode M.1 pc = .ok (.lstore i, 2)) (hq : pc + 2 = q) (hi : i + 1 < M.2.1) (hn : am_nl L i) (hl : (L.set i (some (Value.long x))).set (i + 1) none = L') (kk : AW l M res k n q L' st Γ h) : AW l M res k n pc L (.long x :: st) Γ h := by
  subst hq
  subst hl
  exact fun p e s m args below meth c base D cI cF H locs ls C hW hS hL => lv_lstore C.1 C.2.1 hd  hL.has hi rfl (fun ls' hl' => kk p e s m args below meth c base D cI cF H locs ls' C hW hS (am_L.put2 hn hl'))
theorem a_iinc {i : Nat} {d : Int} {x v : Int32} {L' : List (Option Value)} (hd : decode M.1 pc = .ok (.iinc i d, 3)) (hq : pc + 3 = q) (hx : L[i]? = some (some (.int x))) (hv : x + Int32.ofInt d = v) (hi : i < M.2.1) (hn : am_nl L i) (hl : L.set i (some (Value.int v)) = L') (kk : AW l M res k n q L' st Γ h) : AW l M res k n pc L st Γ h := by
  subst hq
  subst hl
  intro p e s m args below meth c base D cI cF H locs ls C hW hS hL
  obtain ⟨z, hz⟩ := List.getElem?_of_mem (am_ll_mem (base := base) hx)
  exact lv_iinc C.1 C.2.1 hd hL.has hz hv hi rfl (fun ls' hl' => kk p e s m args below meth c base D cI cF H locs ls' C hW hS (am_L.put1 hn hl'))
theorem a_iincW {i : Nat} {d : Int} {x v : Int32} {L' : List (Option Value)} (hd : decode M.1 pc = .ok (.iinc i d, 6)) (hq : pc + 6 = q) (hx : L[i]? = some (some (.int x))) (hv : x + Int32.ofInt d = v) (hi : i < M.2.1) (hn : am_nl L i) (hl : L.set i (some (Value.int v)) = L') (kk : AW l M res k n q L' st Γ h) : AW l M res k n pc L st Γ h := by
  subst hq
  subst hl
  intro p e s m args below meth c base D cI cF H locs ls C hW hS hL
  obtain ⟨z, hz⟩ := List.getElem?_of_mem (am_ll_mem (base := base) hx)
  exact lv_iincW C.1 C.2.1 hd hL.has hz hv hi rfl (fun ls' hl' => kk p e s m args below meth c base D cI cF H locs ls' C hW hS (am_L.put1 hn hl'))
theorem a_dup {v : Value} (hc : v.category = 1) (hd : decode M.1 pc = .ok (.dup, 1)) (hq : pc + 1 = q) (kk : AW l M res k n q L (v :: v :: st) Γ h) : AW l M res k n pc L (v :: st) Γ h := by
  subst hq
  exact fun p e s m args below meth c base D cI cF H locs ls C hW hS hL => lv_dup C.1 C.2.1 hd ((am_v_cat base v).trans hc) (kk p e s m args below meth c base D cI cF H locs ls C hW hS hL)
theorem a_pop {v : Value} (hc : v.category = 1) (hd : decode M.1 pc = .ok (.pop, 1)) (hq : pc + 1 = q) (kk : AW l M res k n q L (st) Γ h) : AW l M res k n pc L (v :: st) Γ h := by
  subst hq
  exact fun p e s m args below meth c base D cI cF H locs ls C hW hS hL => lv_pop C.1 C.2.1 hd ((am_v_cat base v).trans hc) (kk p e s m args below meth c base D cI cF H locs ls C hW hS hL)
theorem a_dup2 {v w : Value} (hc : v.category = 1) (hc2 : w.category = 1) (hd : decode M.1 pc = .ok (.dup2, 1)) (hq : pc + 1 = q) (kk : AW l M res k n q L (v :: w :: v :: w :: st) Γ h) : AW l M res k n pc L (v :: w :: st) Γ h := by
  subst hq
  exact fun p e s m args below meth c base D cI cF H locs ls C hW hS hL => lv_dup2_11 C.1 C.2.1 hd ((am_v_cat base v).trans hc) ((am_v_cat base w).trans hc2) (kk p e s m args below meth c base D cI cF H locs ls C hW hS hL)
def am_ushr (x y : Int32) : Int32 := (x.toUInt32 >>> (y.toUInt32 &&& Int32.toUInt32 31)).toInt32
def am_shl (x y : Int32) : Int32 := x <<< (y &&& 31)
def am_shr (x y : Int32) : Int32 := x >>> (y &&& 31)
def am_irem (x y : Int32) : Int32 := x - x / y * y
def am_lrem (x y : Int64) : Int64 := x - x / y * y
def am_lshl (x : Int64) (y : Int32) : Int64 := x <<< (y.toInt64 &&& 63)
theorem a_iadd {x y : Int32} (hd : decode M.1 pc = .ok (.iadd, 1)) (hq : pc + 1 = q) (kk : AW l M res k n q L (.int (x + y) :: st) Γ h) : AW l M res k n pc L (.int y :: .int x :: st) Γ h := by
  subst hq
  exact fun p e s m args below meth c base D cI cF H locs ls C hW hS hL => lv_iadd C.1 C.2.1 hd (kk p e s m args below meth c base D cI cF H locs ls C hW hS hL)
theorem a_isub {x y : Int32} (hd : decode M.1 pc = .ok (.isub, 1)) (hq : pc + 1 = q) (kk : AW l M res k n q L (.int (x - y) :: st) Γ h) : AW l M res k n pc L (.int y :: .int x :: st) Γ h := by
  subst hq
  exact fun p e s m args below meth c base D cI cF H locs ls C hW hS hL => lv_isub C.1 C.2.1 hd (kk p e s m args below meth c base D cI cF H locs ls C hW hS hL)
theorem a_imul {x y : Int32} (hd : decode M.1 pc = .ok (.imul, 1)) (hq : pc + 1 = q) (kk : AW l M res k n q L (.int (x * y) :: st) Γ h) : AW l M res k n pc L (.int y :: .int x :: st) Γ h := by
  subst hq
  exact fun p e s m args below meth c base D cI cF H locs ls C hW hS hL => lv_imul C.1 C.2.1 hd (kk p e s m args below meth c base D cI cF H locs ls C hW hS hL)
theorem a_iand {x y : Int32} (hd : decode M.1 pc = .ok (.iand, 1)) (hq : pc + 1 = q) (kk : AW l M res k n q L (.int (x &&& y) :: st) Γ h) : AW l M res k n pc L (.int y :: .int x :: st) Γ h := by
  subst hq
  exact fun p e s m args below meth c base D cI cF H locs ls C hW hS hL => lv_iand C.1 C.2.1 hd (kk p e s m args below meth c base D cI cF H locs ls C hW hS hL)
theorem a_ior {x y : Int32} (hd : decode M.1 pc = .ok (.ior, 1)) (hq : pc + 1 = q) (kk : AW l M res k n q L (.int (x ||| y) :: st) Γ h) : AW l M res k n pc L (.int y :: .int x :: st) Γ h := by
  subst hq
  exact fun p e s m args below meth c base D cI cF H locs ls C hW hS hL => lv_ior C.1 C.2.1 hd (kk p e s m args below meth c base D cI cF H locs ls C hW hS hL)
theorem a_ixor {x y : Int32} (hd : decode M.1 pc = .ok (.ixor, 1)) (hq : pc + 1 = q) (kk : AW l M res k n q L (.int (x ^^^ y) :: st) Γ h) : AW l M res k n pc L (.int y :: .int x :: st) Γ h := by
  subst hq
  exact fun p e s m args below meth c base D cI cF H locs ls C hW hS hL => lv_ixor C.1 C.2.1 hd (kk p e s m args below meth c base D cI cF H locs ls C hW hS hL)
theorem a_ishl {x y : Int32} (hd : decode M.1 pc = .ok (.ishl, 1)) (hq : pc + 1 = q) (kk : AW l M res k n q L (.int (am_shl x y) :: st) Γ h) : AW l M res k n pc L (.int y :: .int x :: st) Γ h := by
  subst hq
  exact fun p e s m args below meth c base D cI cF H locs ls C hW hS hL => lv_ishl C.1 C.2.1 hd (kk p e s m args below meth c base D cI cF H locs ls C hW hS hL)
theorem a_ishr {x y : Int32} (hd : decode M.1 pc = .ok (.ishr, 1)) (hq : pc + 1 = q) (kk : AW l M res k n q L (.int (am_shr x y) :: st) Γ h) : AW l M res k n pc L (.int y :: .int x :: st) Γ h := by
  subst hq
  exact fun p e s m args below meth c base D cI cF H locs ls C hW hS hL => lv_ishr C.1 C.2.1 hd (kk p e s m args below meth c base D cI cF H locs ls C hW hS hL)
theorem a_iushr {x y : Int32} (hd : decode M.1 pc = .ok (.iushr, 1)) (hq : pc + 1 = q) (kk : AW l M res k n q L (.int (am_ushr x y) :: st) Γ h) : AW l M res k n pc L (.int y :: .int x :: st) Γ h := by
  subst hq
  exact fun p e s m args below meth c base D cI cF H locs ls C hW hS hL => lv_iushr C.1 C.2.1 hd rfl (kk p e s m args below meth c base D cI cF H locs ls C hW hS hL)
theorem a_irem {x y : Int32} (hy : ¬ y = 0) (hd : decode M.1 pc = .ok (.irem, 1)) (hq : pc + 1 = q) (kk : AW l M res k n q L (.int (am_irem x y) :: st) Γ h) : AW l M res k n pc L (.int y :: .int x :: st) Γ h := by
  subst hq
  exact fun p e s m args below meth c base D cI cF H locs ls C hW hS hL => lv_irem C.1 C.2.1 hd hy (kk p e s m args below meth c base D cI cF H locs ls C hW hS hL)
theorem a_ladd {x y : Int64} (hd : decode M.1 pc = .ok (.ladd, 1)) (hq : pc + 1 = q) (kk : AW l M res k n q L (.long (x + y) :: st) Γ h) : AW l M res k n pc L (.long y :: .long x :: st) Γ h := by
  subst hq
  exact fun p e s m args below meth c base D cI cF H locs ls C hW hS hL => lv_ladd C.1 C.2.1 hd (kk p e s m args below meth c base D cI cF H locs ls C hW hS hL)
theorem a_lmul {x y : Int64} (hd : decode M.1 pc = .ok (.lmul, 1)) (hq : pc + 1 = q) (kk : AW l M res k n q L (.long (x * y) :: st) Γ h) : AW l M res k n pc L (.long y :: .long x :: st) Γ h := by
  subst hq
  exact fun p e s m args below meth c base D cI cF H locs ls C hW hS hL => lv_lmul C.1 C.2.1 hd (kk p e s m args below meth c base D cI cF H locs ls C hW hS hL)
theorem a_lor {x y : Int64} (hd : decode M.1 pc = .ok (.lor, 1)) (hq : pc + 1 = q) (kk : AW l M res k n q L (.long (x ||| y) :: st) Γ h) : AW l M res k n pc L (.long y :: .long x :: st) Γ h := by
  subst hq
  exact fun p e s m args below meth c base D cI cF H locs ls C hW hS hL => lv_lor C.1 C.2.1 hd (kk p e s m args below meth c base D cI cF H locs ls C hW hS hL)
theorem a_lxor {x y : Int64} (hd : decode M.1 pc = .ok (.lxor, 1)) (hq : pc + 1 = q) (kk : AW l M res k n q L (.long (x ^^^ y) :: st) Γ h) : AW l M res k n pc L (.long y :: .long x :: st) Γ h := by
  subst hq
  exact fun p e s m args below meth c base D cI cF H locs ls C hW hS hL => lv_lxor C.1 C.2.1 hd (kk p e s m args below meth c base D cI cF H locs ls C hW hS hL)
theorem a_lrem {x y : Int64} (hy : ¬ y = 0) (hd : decode M.1 pc = .ok (.lrem, 1)) (hq : pc + 1 = q) (kk : AW l M res k n q L (.long (am_lrem x y) :: st) Γ h) : AW l M res k n pc L (.long y :: .long x :: st) Γ h := by
  subst hq
  exact fun p e s m args below meth c base D cI cF H locs ls C hW hS hL => lv_lrem C.1 C.2.1 hd hy (kk p e s m args below meth c base D cI cF H locs ls C hW hS hL)
theorem a_lshl {x : Int64} {y : Int32} (hd : decode M.1 pc = .ok (.lshl, 1)) (hq : pc + 1 = q) (kk : AW l M res k n q L (.long (am_lshl x y) :: st) Γ h) : AW l M res k n pc L (.int y :: .long x :: st) Γ h := by
  subst hq
  exact fun p e s m args below meth c base D cI cF H locs ls C hW hS hL => lv_lshl C.1 C.2.1 hd rfl (kk p e s m args below meth c base D cI cF H locs ls C hW hS hL)
theorem a_i2l {x : Int32} (hd : decode M.1 pc = .ok (.i2l, 1)) (hq : pc + 1 = q) (kk : AW l M res k n q L (.long x.toInt64 :: st) Γ h) : AW l M res k n pc L (.int x :: st) Γ h := by
  subst hq
  exact fun p e s m args below meth c base D cI cF H locs ls C hW hS hL => lv_i2l C.1 C.2.1 hd rfl (kk p e s m args below meth c base D cI cF H locs ls C hW hS hL)
theorem a_l2i {x : Int64} (hd : decode M.1 pc = .ok (.l2i, 1)) (hq : pc + 1 = q) (kk : AW l M res k n q L (.int x.toInt32 :: st) Γ h) : AW l M res k n pc L (.long x :: st) Γ h := by
  subst hq
  exact fun p e s m args below meth c base D cI cF H locs ls C hW hS hL => lv_l2i C.1 C.2.1 hd rfl (kk p e s m args below meth c base D cI cF H locs ls C hW hS hL)
theorem a_lcmp {x y : Int64} (hd : decode M.1 pc = .ok (.lcmp, 1)) (hq : pc + 1 = q) (kk : AW l M res k n q L (.int (lg_cmp x y) :: st) Γ h) : AW l M res k n pc L (.long y :: .long x :: st) Γ h := by
  subst hq
  exact fun p e s m args below meth c base D cI cF H locs ls C hW hS hL => W.lcmp C.1 C.2.1 hd (kk p e s m args below meth c base D cI cF H locs ls C hW hS hL)
variable {ρ : Type} {A B : Option ρ} {rr : ρ}
theorem a_if_eq {x : Int32} {off : Int} {t : Nat} (hd : decode M.1 pc = .ok (.ifCond .eq off, 3)) (hq : pc + 3 = q) (ht : (pc : Int) + off = (t : Int)) (hf : (if x = 0 then A else B) = some rr) (kt : x = 0 → A = some rr → AW l M res k n t L st Γ h) (kf : ¬ (x = 0) → B = some rr → AW l M res k n q L st Γ h) : AW l M res k n pc L (.int x :: st) Γ h := by
  subst hq
  exact fun p e s m args below meth c base D cI cF H locs ls C hW hS hL => lv_if_eq C.1 C.2.1 hd ht (fun hc => kt hc (by rw [if_pos hc] at hf; exact hf) p e s m args below meth c base D cI cF H locs ls C hW hS hL) (fun hc => kf hc (by rw [if_neg hc] at hf; exact hf) p e s m args below meth c base D cI cF H locs ls C hW hS hL)
theorem a_if_eq_t {x : Int32} {off : Int} {t : Nat} (hd : decode M.1 pc = .ok (.ifCond .eq off, 3)) (ht : (pc : Int) + off = (t : Int)) (hc : x = 0) (kt : AW l M res k n t L st Γ h) : AW l M res k n pc L (.int x :: st) Γ h :=
  fun p e s m args below meth c base D cI cF H locs ls C hW hS hL => lv_if_eq C.1 C.2.1 hd ht (fun _ => kt p e s m args below meth c base D cI cF H locs ls C hW hS hL) (fun hn => absurd hc hn)
theorem a_if_eq_f {x : Int32} {off : Int} {t : Nat} (hd : decode M.1 pc = .ok (.ifCond .eq off, 3)) (hq : pc + 3 = q) (ht : (pc : Int) + off = (t : Int)) (hc : ¬ (x = 0)) (kf : AW l M res k n q L st Γ h) : AW l M res k n pc L (.int x :: st) Γ h := by
  subst hq
  exact fun p e s m args below meth c base D cI cF H locs ls C hW hS hL => lv_if_eq C.1 C.2.1 hd ht (fun hp => absurd hp hc) (fun _ => kf p e s m args below meth c base D cI cF H locs ls C hW hS hL)
theorem a_icmp_eq {x y : Int32} {off : Int} {t : Nat} (hd : decode M.1 pc = .ok (.if_icmp .eq off, 3)) (hq : pc + 3 = q) (ht : (pc : Int) + off = (t : Int)) (hf : (if x = y then A else B) = some rr) (kt : x = y → A = some rr → AW l M res k n t L st Γ h) (kf : ¬ (x = y) → B = some rr → AW l M res k n q L st Γ h) : AW l M res k n pc L (.int y :: .int x :: st) Γ h := by
  subst hq
  exact fun p e s m args below meth c base D cI cF H locs ls C hW hS hL => lv_icmp_eq C.1 C.2.1 hd ht (fun hc => kt hc (by rw [if_pos hc] at hf; exact hf) p e s m args below meth c base D cI cF H locs ls C hW hS hL) (fun hc => kf hc (by rw [if_neg hc] at hf; exact hf) p e s m args below meth c base D cI cF H locs ls C hW hS hL)
theorem a_icmp_eq_t {x y : Int32} {off : Int} {t : Nat} (hd : decode M.1 pc = .ok (.if_icmp .eq off, 3)) (ht : (pc : Int) + off = (t : Int)) (hc : x = y) (kt : AW l M res k n t L st Γ h) : AW l M res k n pc L (.int y :: .int x :: st) Γ h :=
  fun p e s m args below meth c base D cI cF H locs ls C hW hS hL => lv_icmp_eq C.1 C.2.1 hd ht (fun _ => kt p e s m args below meth c base D cI cF H locs ls C hW hS hL) (fun hn => absurd hc hn)
theorem a_icmp_eq_f {x y : Int32} {off : Int} {t : Nat} (hd : decode M.1 pc = .ok (.if_icmp .eq off, 3)) (hq : pc + 3 = q) (ht : (pc : Int) + off = (t : Int)) (hc : ¬ (x = y)) (kf : AW l M res k n q L st Γ h) : AW l M res k n pc L (.int y :: .int x :: st) Γ h := by
  subst hq
  exact fun p e s m args below meth c base D cI cF H locs ls C hW hS hL => lv_icmp_eq C.1 C.2.1 hd ht (fun hp => absurd hp hc) (fun _ => kf p e s m args below meth c base D cI cF H locs ls C hW hS hL)
theorem a_if_ne {x : Int32} {off : Int} {t : Nat} (hd : decode M.1 pc = .ok (.ifCond .ne off, 3)) (hq : pc + 3 = q) (ht : (pc : Int) + off = (t : Int)) (hf : (if x = 0 then A else B) = some rr) (kf : x = 0 → A = some rr → AW l M res k n q L st Γ h) (kt : ¬ (x = 0) → B = some rr → AW l M res k n t L st Γ h) : AW l M res k n pc L (.int x :: st) Γ h := by
  subst hq
  exact fun p e s m args below meth c base D cI cF H locs ls C hW hS hL => lv_if_ne C.1 C.2.1 hd ht (fun hc => kt hc (by rw [if_neg hc] at hf; exact hf) p e s m args below meth c base D cI cF H locs ls C hW hS hL) (fun hc => kf hc (by rw [if_pos hc] at hf; exact hf) p e s m args below meth c base D cI cF H locs ls C hW hS hL)
theorem a_if_ne_t {x : Int32} {off : Int} {t : Nat} (hd : decode M.1 pc = .ok (.ifCond .ne off, 3)) (ht : (pc : Int) + off = (t : Int)) (hc : ¬ x = 0) (kt : AW l M res k n t L st Γ h) : AW l M res k n pc L (.int x :: st) Γ h :=
  fun p e s m args below meth c base D cI cF H locs ls C hW hS hL => lv_if_ne C.1 C.2.1 hd ht (fun _ => kt p e s m args below meth c base D cI cF H locs ls C hW hS hL) (fun hn => absurd hn hc)
theorem a_if_ne_f {x : Int32} {off : Int} {t : Nat} (hd : decode M.1 pc = .ok (.ifCond .ne off, 3)) (hq : pc + 3 = q) (ht : (pc : Int) + off = (t : Int)) (hc : x = 0) (kf : AW l M res k n q L st Γ h) : AW l M res k n pc L (.int x :: st) Γ h := by
  subst hq
  exact fun p e s m args below meth c base D cI cF H locs ls C hW hS hL => lv_if_ne C.1 C.2.1 hd ht (fun hp => absurd hc hp) (fun _ => kf p e s m args below meth c base D cI cF H locs ls C hW hS hL)
theorem a_icmp_ne {x y : Int32} {off : Int} {t : Nat} (hd : decode M.1 pc = .ok (.if_icmp .ne off, 3)) (hq : pc + 3 = q) (ht : (pc : Int) + off = (t : Int)) (hf : (if x = y then A else B) = some rr) (kf : x = y → A = some rr → AW l M res k n q L st Γ h) (kt : ¬ (x = y) → B = some rr → AW l M res k n t L st Γ h) : AW l M res k n pc L (.int y :: .int x :: st) Γ h := by
  subst hq
  exact fun p e s m args below meth c base D cI cF H locs ls C hW hS hL => lv_icmp_ne C.1 C.2.1 hd ht (fun hc => kt hc (by rw [if_neg hc] at hf; exact hf) p e s m args below meth c base D cI cF H locs ls C hW hS hL) (fun hc => kf hc (by rw [if_pos hc] at hf; exact hf) p e s m args below meth c base D cI cF H locs ls C hW hS hL)
theorem a_icmp_ne_t {x y : Int32} {off : Int} {t : Nat} (hd : decode M.1 pc = .ok (.if_icmp .ne off, 3)) (ht : (pc : Int) + off = (t : Int)) (hc : ¬ x = y) (kt : AW l M res k n t L st Γ h) : AW l M res k n pc L (.int y :: .int x :: st) Γ h :=
  fun p e s m args below meth c base D cI cF H locs ls C hW hS hL => lv_icmp_ne C.1 C.2.1 hd ht (fun _ => kt p e s m args below meth c base D cI cF H locs ls C hW hS hL) (fun hn => absurd hn hc)
theorem a_icmp_ne_f {x y : Int32} {off : Int} {t : Nat} (hd : decode M.1 pc = .ok (.if_icmp .ne off, 3)) (hq : pc + 3 = q) (ht : (pc : Int) + off = (t : Int)) (hc : x = y) (kf : AW l M res k n q L st Γ h) : AW l M res k n pc L (.int y :: .int x :: st) Γ h := by
  subst hq
  exact fun p e s m args below meth c base D cI cF H locs ls C hW hS hL => lv_icmp_ne C.1 C.2.1 hd ht (fun hp => absurd hc hp) (fun _ => kf p e s m args below meth c base D cI cF H locs ls C hW hS hL)
theorem a_if_lt {x : Int32} {off : Int} {t : Nat} (hd : decode M.1 pc = .ok (.ifCond .lt off, 3)) (hq : pc + 3 = q) (ht : (pc : Int) + off = (t : Int)) (hf : (if x < 0 then A else B) = some rr) (kt : x < 0 → A = some rr → AW l M res k n t L st Γ h) (kf : ¬ (x < 0) → B = some rr → AW l M res k n q L st Γ h) : AW l M res k n pc L (.int x :: st) Γ h := by
  subst hq
  exact fun p e s m args below meth c base D cI cF H locs ls C hW hS hL => lv_if_lt C.1 C.2.1 hd ht (fun hc => kt hc (by rw [if_pos hc] at hf; exact hf) p e s m args below meth c base D cI cF H locs ls C hW hS hL) (fun hc => kf hc (by rw [if_neg hc] at hf; exact hf) p e s m args below meth c base D cI cF H locs ls C hW hS hL)
theorem a_if_lt_t {x : Int32} {off : Int} {t : Nat} (hd : decode M.1 pc = .ok (.ifCond .lt off, 3)) (ht : (pc : Int) + off = (t : Int)) (hc : x < 0) (kt : AW l M res k n t L st Γ h) : AW l M res k n pc L (.int x :: st) Γ h :=
  fun p e s m args below meth c base D cI cF H locs ls C hW hS hL => lv_if_lt C.1 C.2.1 hd ht (fun _ => kt p e s m args below meth c base D cI cF H locs ls C hW hS hL) (fun hn => absurd hc hn)
theorem a_if_lt_f {x : Int32} {off : Int} {t : Nat} (hd : decode M.1 pc = .ok (.ifCond .lt off, 3)) (hq : pc + 3 = q) (ht : (pc : Int) + off = (t : Int)) (hc : ¬ (x < 0)) (kf : AW l M res k n q L st Γ h) : AW l M res k n pc L (.int x :: st) Γ h := by
  subst hq
  exact fun p e s m args below meth c base D cI cF H locs ls C hW hS hL => lv_if_lt C.1 C.2.1 hd ht (fun hp => absurd hp hc) (fun _ => kf p e s m args below meth c base D cI cF H locs ls C hW hS hL)
theorem a_icmp_lt {x y : Int32} {off : Int} {t : Nat} (hd : decode M.1 pc = .ok (.if_icmp .lt off, 3)) (hq : pc + 3 = q) (ht : (pc : Int) + off = (t : Int)) (hf : (if x < y then A else B) = some rr) (kt : x < y → A = some rr → AW l M res k n t L st Γ h) (kf : ¬ (x < y) → B = some rr → AW l M res k n q L st Γ h) : AW l M res k n pc L (.int y :: .int x :: st) Γ h := by
  subst hq
  exact fun p e s m args below meth c base D cI cF H locs ls C hW hS hL => lv_icmp_lt C.1 C.2.1 hd ht (fun hc => kt hc (by rw [if_pos hc] at hf; exact hf) p e s m args below meth c base D cI cF H locs ls C hW hS hL) (fun hc => kf hc (by rw [if_neg hc] at hf; exact hf) p e s m args below meth c base D cI cF H locs ls C hW hS hL)
theorem a_icmp_lt_t {x y : Int32} {off : Int} {t : Nat} (hd : decode M.1 pc = .ok (.if_icmp .lt off, 3)) (ht : (pc : Int) + off = (t : Int)) (hc : x < y) (kt : AW l M res k n t L st Γ h) : AW l M res k n pc L (.int y :: .int x :: st) Γ h :=
  fun p e s m args below meth c base D cI cF H locs ls C hW hS hL => lv_icmp_lt C.1 C.2.1 hd ht (fun _ => kt p e s m args below meth c base D cI cF H locs ls C hW hS hL) (fun hn => absurd hc hn)
theorem a_icmp_lt_f {x y : Int32} {off : Int} {t : Nat} (hd : decode M.1 pc = .ok (.if_icmp .lt off, 3)) (hq : pc + 3 = q) (ht : (pc : Int) + off = (t : Int)) (hc : ¬ (x < y)) (kf : AW l M res k n q L st Γ h) : AW l M res k n pc L (.int y :: .int x :: st) Γ h := by
  subst hq
  exact fun p e s m args below meth c base D cI cF H locs ls C hW hS hL => lv_icmp_lt C.1 C.2.1 hd ht (fun hp => absurd hp hc) (fun _ => kf p e s m args below meth c base D cI cF H locs ls C hW hS hL)
theorem a_if_ge {x : Int32} {off : Int} {t : Nat} (hd : decode M.1 pc = .ok (.ifCond .ge off, 3)) (hq : pc + 3 = q) (ht : (pc : Int) + off = (t : Int)) (hf : (if 0 ≤ x then A else B) = some rr) (kt : 0 ≤ x → A = some rr → AW l M res k n t L st Γ h) (kf : ¬ (0 ≤ x) → B = some rr → AW l M res k n q L st Γ h) : AW l M res k n pc L (.int x :: st) Γ h := by
  subst hq
  exact fun p e s m args below meth c base D cI cF H locs ls C hW hS hL => lv_if_ge C.1 C.2.1 hd ht (fun hc => kt hc (by rw [if_pos hc] at hf; exact hf) p e s m args below meth c base D cI cF H locs ls C hW hS hL) (fun hc => kf hc (by rw [if_neg hc] at hf; exact hf) p e s m args below meth c base D cI cF H locs ls C hW hS hL)
theorem a_if_ge_t {x : Int32} {off : Int} {t : Nat} (hd : decode M.1 pc = .ok (.ifCond .ge off, 3)) (ht : (pc : Int) + off = (t : Int)) (hc : 0 ≤ x) (kt : AW l M res k n t L st Γ h) : AW l M res k n pc L (.int x :: st) Γ h :=
  fun p e s m args below meth c base D cI cF H locs ls C hW hS hL => lv_if_ge C.1 C.2.1 hd ht (fun _ => kt p e s m args below meth c base D cI cF H locs ls C hW hS hL) (fun hn => absurd hc hn)
theorem a_if_ge_f {x : Int32} {off : Int} {t : Nat} (hd : decode M.1 pc = .ok (.ifCond .ge off, 3)) (hq : pc + 3 = q) (ht : (pc : Int) + off = (t : Int)) (hc : ¬ (0 ≤ x)) (kf : AW l M res k n q L st Γ h) : AW l M res k n pc L (.int x :: st) Γ h := by
  subst hq
  exact fun p e s m args below meth c base D cI cF H locs ls C hW hS hL => lv_if_ge C.1 C.2.1 hd ht (fun hp => absurd hp hc) (fun _ => kf p e s m args below meth c base D cI cF H locs ls C hW hS hL)
theorem a_icmp_ge {x y : Int32} {off : Int} {t : Nat} (hd : decode M.1 pc = .ok (.if_icmp .ge off, 3)) (hq : pc + 3 = q) (ht : (pc : Int) + off = (t : Int)) (hf : (if y ≤ x then A else B) = some rr) (kt : y ≤ x → A = some rr → AW l M res k n t L st Γ h) (kf : ¬ (y ≤ x) → B = some rr → AW l M res k n q L st Γ h) : AW l M res k n pc L (.int y :: .int x :: st) Γ h := by
  subst hq
  exact fun p e s m args below meth c base D cI cF H locs ls C hW hS hL => lv_icmp_ge C.1 C.2.1 hd ht (fun hc => kt hc (by rw [if_pos hc] at hf; exact hf) p e s m args below meth c base D cI cF H locs ls C hW hS hL) (fun hc => kf hc (by rw [if_neg hc] at hf; exact hf) p e s m args below meth c base D cI cF H locs ls C hW hS hL)
theorem a_icmp_ge_t {x y : Int32} {off : Int} {t : Nat} (hd : decode M.1 pc = .ok (.if_icmp .ge off, 3)) (ht : (pc : Int) + off = (t : Int)) (hc : y ≤ x) (kt : AW l M res k n t L st Γ h) : AW l M res k n pc L (.int y :: .int x :: st) Γ h :=
  fun p e s m args below meth c base D cI cF H locs ls C hW hS hL => lv_icmp_ge C.1 C.2.1 hd ht (fun _ => kt p e s m args below meth c base D cI cF H locs ls C hW hS hL) (fun hn => absurd hc hn)
theorem a_icmp_ge_f {x y : Int32} {off : Int} {t : Nat} (hd : decode M.1 pc = .ok (.if_icmp .ge off, 3)) (hq : pc + 3 = q) (ht : (pc : Int) + off = (t : Int)) (hc : ¬ (y ≤ x)) (kf : AW l M res k n q L st Γ h) : AW l M res k n pc L (.int y :: .int x :: st) Γ h := by
  subst hq
  exact fun p e s m args below meth c base D cI cF H locs ls C hW hS hL => lv_icmp_ge C.1 C.2.1 hd ht (fun hp => absurd hp hc) (fun _ => kf p e s m args below meth c base D cI cF H locs ls C hW hS hL)
theorem a_if_gt {x : Int32} {off : Int} {t : Nat} (hd : decode M.1 pc = .ok (.ifCond .gt off, 3)) (hq : pc + 3 = q) (ht : (pc : Int) + off = (t : Int)) (hf : (if 0 < x then A else B) = some rr) (kt : 0 < x → A = some rr → AW l M res k n t L st Γ h) (kf : ¬ (0 < x) → B = some rr → AW l M res k n q L st Γ h) : AW l M res k n pc L (.int x :: st) Γ h := by
  subst hq
  exact fun p e s m args below meth c base D cI cF H locs ls C hW hS hL => lv_if_gt C.1 C.2.1 hd ht (fun hc => kt hc (by rw [if_pos hc] at hf; exact hf) p e s m args below meth c base D cI cF H locs ls C hW hS hL) (fun hc => kf hc (by rw [if_neg hc] at hf; exact hf) p e s m args below meth c base D cI cF H locs ls C hW hS hL)
theorem a_if_gt_t {x : Int32} {off : Int} {t : Nat} (hd : decode M.1 pc = .ok (.ifCond .gt off, 3)) (ht : (pc : Int) + off = (t : Int)) (hc : 0 < x) (kt : AW l M res k n t L st Γ h) : AW l M res k n pc L (.int x :: st) Γ h :=
  fun p e s m args below meth c base D cI cF H locs ls C hW hS hL => lv_if_gt C.1 C.2.1 hd ht (fun _ => kt p e s m args below meth c base D cI cF H locs ls C hW hS hL) (fun hn => absurd hc hn)
theorem a_if_gt_f {x : Int32} {off : Int} {t : Nat} (hd : decode M.1 pc = .ok (.ifCond .gt off, 3)) (hq : pc + 3 = q) (ht : (pc : Int) + off = (t : Int)) (hc : ¬ (0 < x)) (kf : AW l M res k n q L st Γ h) : AW l M res k n pc L (.int x :: st) Γ h := by
  subst hq
  exact fun p e s m args below meth c base D cI cF H locs ls C hW hS hL => lv_if_gt C.1 C.2.1 hd ht (fun hp => absurd hp hc) (fun _ => kf p e s m args below meth c base D cI cF H locs ls C hW hS hL)
theorem a_icmp_gt {x y : Int32} {off : Int} {t : Nat} (hd : decode M.1 pc = .ok (.if_icmp .gt off, 3)) (hq : pc + 3 = q) (ht : (pc : Int) + off = (t : Int)) (hf : (if y < x then A else B) = some rr) (kt : y < x → A = some rr → AW l M res k n t L st Γ h) (kf : ¬ (y < x) → B = some rr → AW l M res k n q L st Γ h) : AW l M res k n pc L (.int y :: .int x :: st) Γ h := by
  subst hq
  exact fun p e s m args below meth c base D cI cF H locs ls C hW hS hL => lv_icmp_gt C.1 C.2.1 hd ht (fun hc => kt hc (by rw [if_pos hc] at hf; exact hf) p e s m args below meth c base D cI cF H locs ls C hW hS hL) (fun hc => kf hc (by rw [if_neg hc] at hf; exact hf) p e s m args below meth c base D cI cF H locs ls C hW hS hL)
theorem a_icmp_gt_t {x y : Int32} {off : Int} {t : Nat} (hd : decode M.1 pc = .ok (.if_icmp .gt off, 3)) (ht : (pc : Int) + off = (t : Int)) (hc : y < x) (kt : AW l M res k n t L st Γ h) : AW l M res k n pc L (.int y :: .int x :: st) Γ h :=
  fun p e s m args below meth c base D cI cF H locs ls C hW hS hL => lv_icmp_gt C.1 C.2.1 hd ht (fun _ => kt p e s m args below meth c base D cI cF H locs ls C hW hS hL) (fun hn => absurd hc hn)
theorem a_icmp_gt_f {x y : Int32} {off : Int} {t : Nat} (hd : decode M.1 pc = .ok (.if_icmp .gt off, 3)) (hq : pc + 3 = q) (ht : (pc : Int) + off = (t : Int)) (hc : ¬ (y < x)) (kf : AW l M res k n q L st Γ h) : AW l M res k n pc L (.int y :: .int x :: st) Γ h := by
  subst hq
  exact fun p e s m args below meth c base D cI cF H locs ls C hW hS hL => lv_icmp_gt C.1 C.2.1 hd ht (fun hp => absurd hp hc) (fun _ => kf p e s m args below meth c base D cI cF H locs ls C hW hS hL)
theorem a_if_le {x : Int32} {off : Int} {t : Nat} (hd : decode M.1 pc = .ok (.ifCond .le off, 3)) (hq : pc + 3 = q) (ht : (pc : Int) + off = (t : Int)) (hf : (if x ≤ 0 then A else B) = some rr) (kt : x ≤ 0 → A = some rr → AW l M res k n t L st Γ h) (kf : ¬ (x ≤ 0) → B = some rr → AW l M res k n q L st Γ h) : AW l M res k n pc L (.int x :: st) Γ h := by
  subst hq
  exact fun p e s m args below meth c base D cI cF H locs ls C hW hS hL => lv_if_le C.1 C.2.1 hd ht (fun hc => kt hc (by rw [if_pos hc] at hf; exact hf) p e s m args below meth c base D cI cF H locs ls C hW hS hL) (fun hc => kf hc (by rw [if_neg hc] at hf; exact hf) p e s m args below meth c base D cI cF H locs ls C hW hS hL)
theorem a_if_le_t {x : Int32} {off : Int} {t : Nat} (hd : decode M.1 pc = .ok (.ifCond .le off, 3)) (ht : (pc : Int) + off = (t : Int)) (hc : x ≤ 0) (kt : AW l M res k n t L st Γ h) : AW l M res k n pc L (.int x :: st) Γ h :=
  fun p e s m args below meth c base D cI cF H locs ls C hW hS hL => lv_if_le C.1 C.2.1 hd ht (fun _ => kt p e s m args below meth c base D cI cF H locs ls C hW hS hL) (fun hn => absurd hc hn)
theorem a_if_le_f {x : Int32} {off : Int} {t : Nat} (hd : decode M.1 pc = .ok (.ifCond .le off, 3)) (hq : pc + 3 = q) (ht : (pc : Int) + off = (t : Int)) (hc : ¬ (x ≤ 0)) (kf : AW l M res k n q L st Γ h) : AW l M res k n pc L (.int x :: st) Γ h := by
  subst hq
  exact fun p e s m args below meth c base D cI cF H locs ls C hW hS hL => lv_if_le C.1 C.2.1 hd ht (fun hp => absurd hp hc) (fun _ => kf p e s m args below meth c base D cI cF H locs ls C hW hS hL)
theorem a_icmp_le {x y : Int32} {off : Int} {t : Nat} (hd : decode M.1 pc = .ok (.if_icmp .le off, 3)) (hq : pc + 3 = q) (ht : (pc : Int) + off = (t : Int)) (hf : (if x ≤ y then A else B) = some rr) (kt : x ≤ y → A = some rr → AW l M res k n t L st Γ h) (kf : ¬ (x ≤ y) → B = some rr → AW l M res k n q L st Γ h) : AW l M res k n pc L (.int y :: .int x :: st) Γ h := by
  subst hq
  exact fun p e s m args below meth c base D cI cF H locs ls C hW hS hL => lv_icmp_le C.1 C.2.1 hd ht (fun hc => kt hc (by rw [if_pos hc] at hf; exact hf) p e s m args below meth c base D cI cF H locs ls C hW hS hL) (fun hc => kf hc (by rw [if_neg hc] at hf; exact hf) p e s m args below meth c base D cI cF H locs ls C hW hS hL)
theorem a_icmp_le_t {x y : Int32} {off : Int} {t : Nat} (hd : decode M.1 pc = .ok (.if_icmp .le off, 3)) (ht : (pc : Int) + off = (t : Int)) (hc : x ≤ y) (kt : AW l M res k n t L st Γ h) : AW l M res k n pc L (.int y :: .int x :: st) Γ h :=
  fun p e s m args below meth c base D cI cF H locs ls C hW hS hL => lv_icmp_le C.1 C.2.1 hd ht (fun _ => kt p e s m args below meth c base D cI cF H locs ls C hW hS hL) (fun hn => absurd hc hn)
theorem a_icmp_le_f {x y : Int32} {off : Int} {t : Nat} (hd : decode M.1 pc = .ok (.if_icmp .le off, 3)) (hq : pc + 3 = q) (ht : (pc : Int) + off = (t : Int)) (hc : ¬ (x ≤ y)) (kf : AW l M res k n q L st Γ h) : AW l M res k n pc L (.int y :: .int x :: st) Γ h := by
  subst hq
  exact fun p e s m args below meth c base D cI cF H locs ls C hW hS hL => lv_icmp_le C.1 C.2.1 hd ht (fun hp => absurd hp hc) (fun _ => kf p e s m args below meth c base D cI cF H locs ls C hW hS hL)
theorem a_goto {off : Int} {t : Nat} (hd : decode M.1 pc = .ok (.goto off, 3)) (ht : (pc : Int) + off = (t : Int)) (kk : AW l M res k n t L st Γ h) : AW l M res k n pc L st Γ h :=
  fun p e s m args below meth c base D cI cF H locs ls C hW hS hL => lv_goto C.1 C.2.1 hd ht (kk p e s m args below meth c base D cI cF H locs ls C hW hS hL)
theorem a_ifnullR {x : Nat} {off : Int} (hd : decode M.1 pc = .ok (.ifnull off, 3)) (hq : pc + 3 = q) (kk : AW l M res k n q L st Γ h) : AW l M res k n pc L (.ref x :: st) Γ h := by
  subst hq
  exact fun p e s m args below meth c base D cI cF H locs ls C hW hS hL => lv_ifnull C.1 C.2.1 hd (kk p e s m args below meth c base D cI cF H locs ls C hW hS hL)
theorem a_ifnullN {off : Int} {t : Nat} (hd : decode M.1 pc = .ok (.ifnull off, 3)) (ht : (pc : Int) + off = (t : Int)) (kk : AW l M res k n t L st Γ h) : AW l M res k n pc L (.null :: st) Γ h :=
  fun p e s m args below meth c base D cI cF H locs ls C hW hS hL => lv_ifnullN C.1 C.2.1 hd ht (kk p e s m args below meth c base D cI cF H locs ls C hW hS hL)
theorem a_ifnonnullR {x : Nat} {off : Int} {t : Nat} (hd : decode M.1 pc = .ok (.ifnonnull off, 3)) (ht : (pc : Int) + off = (t : Int)) (kk : AW l M res k n t L st Γ h) : AW l M res k n pc L (.ref x :: st) Γ h :=
  fun p e s m args below meth c base D cI cF H locs ls C hW hS hL => lv_ifnonnull C.1 C.2.1 hd ht (kk p e s m args below meth c base D cI cF H locs ls C hW hS hL)
theorem a_ifnonnullN {off : Int} (hd : decode M.1 pc = .ok (.ifnonnull off, 3)) (hq : pc + 3 = q) (kk : AW l M res k n q L st Γ h) : AW l M res k n pc L (.null :: st) Γ h := by
  subst hq
  exact fun p e s m args below meth c base D cI cF H locs ls C hW hS hL => lv_ifnonnullN C.1 C.2.1 hd (kk p e s m args below meth c base D cI cF H locs ls C hW hS hL)
theorem a_tswIn {x c : Int32} {dflt lo hi off : Int} {offs : Array Int} {ln t : Nat} (hd : decode M.1 pc = .ok (.tableswitch dflt lo hi offs, ln)) (hx : x = c) (h1 : ¬ c.toInt < lo) (h2 : ¬ hi < c.toInt) (ho : offs[(c.toInt - lo).toNat]? = some off) (ht : (pc : Int) + off = (t : Int)) (kk : AW l M res k n t L st Γ h) : AW l M res k n pc L (.int x :: st) Γ h := by
  subst hx
  exact fun p e s m args below meth c base D cI cF H locs ls C hW hS hL => lv_tableIn C.1 C.2.1 hd h1 h2 ho ht (kk p e s m args below meth c base D cI cF H locs ls C hW hS hL)
theorem a_tswOut {x : Int32} {dflt lo hi : Int} {offs : Array Int} {ln t : Nat} (hd : decode M.1 pc = .ok (.tableswitch dflt lo hi offs, ln)) (hx : x.toInt < lo ∨ hi < x.toInt) (ht : (pc : Int) + dflt = (t : Int)) (kk : AW l M res k n t L st Γ h) : AW l M res k n pc L (.int x :: st) Γ h :=
  fun p e s m args below meth c base D cI cF H locs ls C hW hS hL => lv_tableOut C.1 C.2.1 hd hx ht (kk p e s m args below meth c base D cI cF H locs ls C hW hS hL)
theorem a_lsw {x : Int32} {dflt off : Int} {ps : Array (Int × Int)} {ln t : Nat} (hd : decode M.1 pc = .ok (.lookupswitch dflt ps, ln)) (hp : (ps.toList.zip (ps.toList.drop 1)).all (fun (a, next) => a.1 < next.1) = true) (ho : Op.lookupswitch.offset ps.toList dflt x.toInt = off) (ht : (pc : Int) + off = (t : Int)) (kk : AW l M res k n t L st Γ h) : AW l M res k n pc L (.int x :: st) Γ h :=
  fun p e s m args below meth c base D cI cF H locs ls C hW hS hL => lv_lookup C.1 C.2.1 hd hp ho ht (kk p e s m args below meth c base D cI cF H locs ls C hW hS hL)
theorem am_if {c : Prop} {d : Decidable c} {P : Prop} (hf : (@ite _ c d A B) = some rr) (kt : c → A = some rr → P) (kf : ¬ c → B = some rr → P) : P := by
  by_cases hc : c
  · exact kt hc (by rw [if_pos hc] at hf; exact hf)
  · exact kf hc (by rw [if_neg hc] at hf; exact hf)
theorem am_z {x : Int32} (h : x = 0 ∨ x = 1) : narrow .boolean (.int x) = .int x := by rcases h with rfl | rfl <;> rfl
/-- the answer: a reference's kind, or 0 or 1 for a boolean -/
theorem a_ret  (hd : decode M.1 pc = .ok (.return_, 1)) (hr : M.2.2.1 = none) (hm : M.2.2.2.2.2.2.1 = k) (hm2 : M.2.2.2.2.2.2.2.1 = n)  : AW l M (none, Γ, h) k n pc L [] Γ h := by
  intro p e s m args below meth c base D cI cF H locs ls C hW hS hL
  have hlocks : meth.locks = false := C.2.2.2.2.2.2.1
  rw [hm, hm2]
  exact W.vret C.1 C.2.1 (by rw [C.2.2.1, hr])  (fun t ht hWm => ⟨rfl, ⟨fun b hb => (by cases hb), fun _ x hx => (by cases hx)⟩, by rw [ht]; exact hW, hS.1.F ht⟩) hS.1.2.2 hd hlocks
theorem a_iret {x : Int32} (hd : decode M.1 pc = .ok (.ireturn, 1)) (hr : M.2.2.1 = some .int) (hm : M.2.2.2.2.2.2.1 = k) (hm2 : M.2.2.2.2.2.2.2.1 = n) (h9 : M.2.2.2.2.2.2.2.2 ≠ 98) : AW l M (some (.int x), Γ, h) k n pc L [.int x] Γ h := by
  intro p e s m args below meth c base D cI cF H locs ls C hW hS hL
  have hlocks : meth.locks = false := C.2.2.2.2.2.2.1
  rw [hm, hm2]
  exact W.iret C.1 C.2.1 (by rw [C.2.2.1, hr])  (fun t ht hWm => ⟨rfl, ⟨fun b hb => (by cases hb), fun h98 => absurd h98 h9⟩, by rw [ht]; exact hW, hS.1.F ht⟩) hS.1.2.2 hd hlocks
theorem a_zret {x : Int32} (hd : decode M.1 pc = .ok (.ireturn, 1)) (hr : M.2.2.1 = some .boolean) (hm : M.2.2.2.2.2.2.1 = k) (hm2 : M.2.2.2.2.2.2.2.1 = n) (hx : x = 0 ∨ x = 1) : AW l M (some (.int x), Γ, h) k n pc L [.int x] Γ h := by
  intro p e s m args below meth c base D cI cF H locs ls C hW hS hL
  have hlocks : meth.locks = false := C.2.2.2.2.2.2.1
  rw [hm, hm2]
  exact W.zret C.1 C.2.1 (by rw [C.2.2.1, hr]) (am_z hx) (fun t ht hWm => ⟨rfl, ⟨fun b hb => (by cases hb), fun _ z hz => (by cases hz; exact hx)⟩, by rw [ht]; exact hW, hS.1.F ht⟩) hS.1.2.2 hd hlocks
theorem a_lret {x : Int64} (hd : decode M.1 pc = .ok (.lreturn, 1)) (hr : M.2.2.1 = some .long) (hm : M.2.2.2.2.2.2.1 = k) (hm2 : M.2.2.2.2.2.2.2.1 = n)  : AW l M (some (.long x), Γ, h) k n pc L [.long x] Γ h := by
  intro p e s m args below meth c base D cI cF H locs ls C hW hS hL
  have hlocks : meth.locks = false := C.2.2.2.2.2.2.1
  rw [hm, hm2]
  exact W.lret C.1 C.2.1 (by rw [C.2.2.1, hr])  (fun t ht hWm => ⟨rfl, ⟨fun b hb => (by cases hb), fun _ x hx => (by cases hx)⟩, by rw [ht]; exact hW, hS.1.F ht⟩) hS.1.2.2 hd hlocks
theorem a_aretN {rt : String} (hd : decode M.1 pc = .ok (.areturn, 1)) (hr : M.2.2.1 = some (.object rt)) (hm : M.2.2.2.2.2.2.1 = k) (hm2 : M.2.2.2.2.2.2.2.1 = n)  : AW l M (some (am_o none), Γ, h) k n pc L [.null] Γ h := by
  intro p e s m args below meth c base D cI cF H locs ls C hW hS hL
  have hlocks : meth.locks = false := C.2.2.2.2.2.2.1
  rw [hm, hm2]
  exact W.aret C.1 C.2.1 (by rw [C.2.2.1, hr]) (Or.inl ⟨_, rfl⟩) (Or.inl rfl) (fun t ht hWm => ⟨rfl, ⟨fun b hb => (by cases hb), fun _ x hx => (by cases hx)⟩, by rw [ht]; exact hW, hS.1.F ht⟩) hS.1.2.2 hd hlocks
theorem a_aretR {rt : String} {b nb : Nat} (hd : decode M.1 pc = .ok (.areturn, 1)) (hr : M.2.2.1 = some (.object rt)) (hm : M.2.2.2.2.2.2.1 = k) (hm2 : M.2.2.2.2.2.2.2.1 = n) (hb : Γ[b]? = some (M.2.2.2.2.2.2.2.2, nb)) : AW l M (some (am_o (some b)), Γ, h) k n pc L [.ref b] Γ h := by
  intro p e s m args below meth c base D cI cF H locs ls C hW hS hL
  have hlocks : meth.locks = false := C.2.2.2.2.2.2.1
  rw [hm, hm2]
  exact W.aret C.1 C.2.1 (by rw [C.2.2.1, hr]) (Or.inl ⟨_, rfl⟩) (Or.inr ⟨_, rfl⟩) (fun t ht hWm => ⟨rfl, ⟨fun b hb => (by cases hb; exact fun _ => ⟨_, ‹_›⟩), fun _ x hx => (by cases hx)⟩, by rw [ht]; exact hW, hS.1.F ht⟩) hS.1.2.2 hd hlocks
theorem AW.null (kk : AW l M res k n pc L (.null :: st) Γ h) : AW l M res k n pc L (am_o none :: st) Γ h := kk
theorem AW.refo {b : Nat} (kk : AW l M res k n pc L (.ref b :: st) Γ h) : AW l M res k n pc L (am_o (some b) :: st) Γ h := kk
end AMR
end
section
/-! ===== fields, rows, calls ===== -/
def am_ok (i : Int32) (n : Nat) : Bool := decide (0 ≤ i) && decide (i.toNatClampNeg < n)
theorem am_ok_in {i : Int32} {n : Nat} (h : am_ok i n = true) : vp_in i n := by
  simp only [am_ok, Bool.and_eq_true, decide_eq_true_eq] at h
  intro q
  rcases q with q | q
  · exact absurd h.1 (Int32.not_le.mpr q)
  · omega
def am_okc (sp dp n : Int32) (ns nd : Nat) : Bool := decide (0 ≤ sp) && decide (0 ≤ dp) && decide (0 ≤ n) && decide (sp.toNatClampNeg + n.toNatClampNeg ≤ ns) && decide (dp.toNatClampNeg + n.toNatClampNeg ≤ nd)
/-- what a class's fields are: of the table, and of the words -/
def am_FC (ci : Nat) (C : String) (T : u_T) (N : Nat) : Prop := ci < 10 ∧ vwCl[ci]? = some (C, T, N) ∧ N = am_nf ci ∧ ∀ w ∈ u_ws C T N, w ∈ am_T
def am_FL (own : String) (idx ci j : Nat) : Prop := ∃ (C : String) (T : u_T) (N : Nat), am_FC ci C T N ∧ j < N ∧ (Cond.fieldLink own idx (T j).1 (T j).2.1 (T j).2.2.1 ∈ am_T ∨ ∃ host, Cond.fieldLinkNest own idx (T j).1 (T j).2.1 (T j).2.2.1 host ∈ am_nw)
def am_FP (own : String) (idx ci j : Nat) (ty : FieldType) (fin : Bool) : Prop := ∃ (C : String) (T : u_T) (N : Nat) (ty0 : Nat → FieldType), am_FC ci C T N ∧ j < N ∧ (Cond.fieldLink own idx (T j).1 (T j).2.1 (T j).2.2.1 ∈ am_T ∨ ((∃ host, Cond.fieldLinkNest own idx (T j).1 (T j).2.1 (T j).2.2.1 host ∈ am_nw) ∧ fin = false)) ∧
  (∀ k, k < N → parseFieldDescriptor (T k).2.2.1 = some (ty0 k)) ∧ (∀ a, a < N → ∀ b, b < N → a ≠ b → (T a).2.1 ≠ (T b).2.1) ∧ parseFieldDescriptor (T j).2.2.1 = some ty ∧ (T j).2.2.2 = fin ∧ (fin = true → (T j).1 = own)
theorem am_fl_of_fp {own : String} {idx ci j : Nat} {ty : FieldType} {fin : Bool} (h : am_FP own idx ci j ty fin) : am_FL own idx ci j := by
  obtain ⟨C, T, N, ty0, h1, h2, h3, -⟩ := h
  exact ⟨C, T, N, h1, h2, h3.imp id (fun q => q.1)⟩
section AMH
variable {l : Launch} {M : AMt} {res : ARs} {k n pc q : Nat} {L : List (Option Value)} {st : List Value} {Γ : Gm} {h : AH} {ρ : Type} {A B : Option ρ} {rr : ρ}
theorem am_getV {idx ci j a nn : Nat} (fl : am_FL M.2.2.2.1 idx ci j) (hd : decode M.1 pc = .ok (.getfield idx, 3)) (hk : Γ[a]? = some (ci, nn)) {p : Program} {e : Env} {s : State} {m : MethodId} {args : Array Value} {below : List Frame} {meth : Method} {c : Code} {base : Nat} {D : va_G} {cI cF : ClassId} {H : Heap} {locs : List Loc} {ls : Array Slot} {Q : State → Prop} {R : Room} {rest : List Value}
    (C : am_Cx M p s m args meth c base D cI cF) (hW : am_Wd D cI cF base Γ h H) (kk : W p l e R s m args below meth c H locs k n Q (F0 m (pc + 3) ls (am_fld base ci a h j :: rest))) : W p l e R s m args below meth c H locs k n Q (F0 m pc ls (.ref (base + a) :: rest)) := by
  obtain ⟨CC, T, N, ⟨hc, hv, hN, hin⟩, hj, hl⟩ := fl
  have he : (am_ws cI cF base Γ h)[a]? = some (base + a, .inr (ci, (List.range (am_nf ci)).map (am_fld base ci a h))) := by rw [am_at hk, am_cell_O hc]
  rcases hl with hl | ⟨host, hl⟩
  · exact va_get C.1 C.2.1 C.2.2.2.2.2.1 hin C.2.2.2.2.1 C.2.2.2.2.2.2.2.2.1 hW.2 a he hv j hj (C.2.2.2.2.2.1 _ hl) (fun _ x => x) (am_fs_at (by rw [← hN]; exact hj)) hd kk
  · exact va_getN C.1 C.2.1 C.2.2.2.2.2.1 hin C.2.2.2.2.1 C.2.2.2.2.2.2.2.2.1 hW.2 a he hv j hj (va_Nw.use rfl (C.2.2.2.2.2.2.2.2.2.1.1 _ hl)) (fun _ x => x) (am_fs_at (by rw [← hN]; exact hj)) hd kk
theorem a_getI {idx ci j a nn : Nat} (fl : am_FL M.2.2.2.1 idx ci j) (hd : decode M.1 pc = .ok (.getfield idx, 3)) (hq : pc + 3 = q) (hk : Γ[a]? = some (ci, nn)) (h9 : am_fk ci j = 99) (kk : AW l M res k n q L (.int (h.1 a j) :: st) Γ h) : AW l M res k n pc L (.ref a :: st) Γ h := by
  subst hq
  intro p e s m args below meth c base D cI cF H locs ls C hW hS hL
  refine am_getV fl hd hk C hW ?_
  rw [show am_fld base ci a h j = .int (h.1 a j) by simp [am_fld, h9]]
  exact kk p e s m args below meth c base D cI cF H locs ls C hW hS hL
theorem a_getR {idx ci j a nn κ : Nat} {K : Nat → Option ρ} (fl : am_FL M.2.2.2.1 idx ci j) (hd : decode M.1 pc = .ok (.getfield idx, 3)) (hq : pc + 3 = q) (hk : Γ[a]? = some (ci, nn)) (h9 : am_fk ci j = κ) (h8 : κ ≠ 99) (hf : (h.2 a j).bind K = some rr) (kk : ∀ b nb : Nat, h.2 a j = some b → Γ[b]? = some (κ, nb) → K b = some rr → AW l M res k n q L (.ref b :: st) Γ h) : AW l M res k n pc L (.ref a :: st) Γ h := by
  subst hq
  subst h9
  intro p e s m args below meth c base D cI cF H locs ls C hW hS hL
  obtain ⟨b, hb, hf⟩ := Option.bind_eq_some_iff.mp hf
  obtain ⟨nb, hnb⟩ := hW.1 a _ j b hk hb h8
  refine am_getV fl hd hk C hW ?_
  rw [show am_fld base ci a h j = .ref (base + b) by simp [am_fld, h8, hb, va_rf]]
  exact kk b nb hb hnb hf p e s m args below meth c base D cI cF H locs ls C hW hS hL
theorem am_putV {idx ci j a nn : Nat} {ty : FieldType} {fin : Bool} {h' : AH} {v : Value} (fp : am_FP M.2.2.2.1 idx ci j ty fin) (hfi : fin = true → M.2.2.2.2.1 = true) (hd : decode M.1 pc = .ok (.putfield idx, 3)) (hk : Γ[a]? = some (ci, nn)) {p : Program} {e : Env} {s : State} {m : MethodId} {args : Array Value} {below : List Frame} {meth : Method} {c : Code} {base : Nat} {D : va_G} {cI cF : ClassId} {H : Heap} {locs : List Loc} {ls : Array Slot} {Q : State → Prop} {R : Room} {rest : List Value}
    (hn : narrow ty v = v) (hft : fits ty v = true) (hT : am_WT Γ h') (h1 : ∀ b, b ≠ a → h'.1 b = h.1 b) (h2 : ∀ b, b ≠ a → h'.2 b = h.2 b) (hv' : am_fld base ci a h' j = v) (ho : ∀ i, i ≠ j → am_fld base ci a h' i = am_fld base ci a h i)
    (C : am_Cx M p s m args meth c base D cI cF) (hW : am_Wd D cI cF base Γ h H) (hS : am_S base s k Γ H locs) (kk : ∀ H1 locs1, am_Wd D cI cF base Γ h' H1 → am_S base s k Γ H1 locs1 → W p l e R s m args below meth c H1 locs1 k n Q (F0 m (pc + 3) ls rest)) : W p l e R s m args below meth c H locs k n Q (F0 m pc ls (v :: .ref (base + a) :: rest)) := by
  obtain ⟨CC, T, N, ty0, ⟨hc, hv, hN, hin⟩, hj, hl, hty, hnm, hpd, hfn, hfo⟩ := fp
  have he : (am_ws cI cF base Γ h)[a]? = some (base + a, .inr (ci, (List.range (am_nf ci)).map (am_fld base ci a h))) := by rw [am_at hk, am_cell_O hc]
  have hset : (am_ws cI cF base Γ h).set a (base + a, .inr (ci, ((List.range (am_nf ci)).map (am_fld base ci a h)).set j v)) = am_ws cI cF base Γ h' := am_ws_set hk h1 h2 (by rw [am_cell_O hc, am_fs_set hv' ho])
  have hlen : j < ((List.range (am_nf ci)).map (am_fld base ci a h)).length := by simp; omega
  have go : ∀ (H1 : Heap) (locs1 : List Loc), va_P D vwCl ((am_ws cI cF base Γ h).set a (base + a, .inr (ci, ((List.range (am_nf ci)).map (am_fld base ci a h)).set j v))) H1 → va_S (fun q => base ≤ q) s.heap H1 locs1 → W p l e R s m args below meth c H1 locs1 k n Q (F0 m (pc + 3) ls rest) := fun H1 locs1 a1 a2 => kk H1 locs1 ⟨hT, hset ▸ a1⟩ ⟨a2, hS.2⟩
  cases fin with
  | false =>
    rcases hl with hl | ⟨⟨host, hl⟩, -⟩
    · exact va_put C.1 C.2.1 C.2.2.2.2.2.1 hin ty0 hty hnm C.2.2.2.2.1 C.2.2.2.2.2.2.2.2.1 hW.2 am_D hS.1 a he hv j hj (C.2.2.2.2.2.1 _ hl) (fun _ x => x) hfn hpd hn hft hlen hd (fun H1 locs1 a1 _ a3 => go H1 locs1 a1 a3)
    · exact va_putN C.1 C.2.1 C.2.2.2.2.2.1 hin ty0 hty hnm C.2.2.2.2.1 C.2.2.2.2.2.2.2.2.1 hW.2 am_D hS.1 a he hv j hj (va_Nw.use rfl (C.2.2.2.2.2.2.2.2.2.1.1 _ hl)) (fun _ x => x) hfn hpd hn hft hlen hd (fun H1 locs1 a1 _ a3 => go H1 locs1 a1 a3)
  | true =>
    rcases hl with hl | ⟨-, hl⟩
    · exact va_putF C.1 C.2.1 C.2.2.2.2.2.1 hin ty0 hty hnm C.2.2.2.2.1 C.2.2.2.2.2.2.2.2.1 hW.2 am_D hS.1 a he hv j hj (C.2.2.2.2.2.1 _ hl) (fun _ x => x) hfn (C.2.2.2.2.2.2.2.1 (hfi rfl)) (hfo rfl) hpd hn hft hlen hd (fun H1 locs1 a1 _ a3 => go H1 locs1 a1 a3)
    · cases hl
theorem am_fld_setI {base ci a j : Nat} {h : AH} {x : Int32} (h9 : am_fk ci j = 99) : am_fld base ci a (am_setI h a j x) j = .int x ∧ ∀ i, i ≠ j → am_fld base ci a (am_setI h a j x) i = am_fld base ci a h i := by
  refine ⟨by simp [am_fld, h9, am_setI, upd], fun i hi => ?_⟩
  simp [am_fld, am_setI, upd, hi]
theorem am_fld_setR {base ci a j b : Nat} {h : AH} (h9 : am_fk ci j ≠ 99) : am_fld base ci a (am_setR h a j (some b)) j = .ref (base + b) ∧ ∀ i, i ≠ j → am_fld base ci a (am_setR h a j (some b)) i = am_fld base ci a h i := by
  refine ⟨by simp [am_fld, h9, am_setR, va_up, va_rf], fun i hi => ?_⟩
  simp [am_fld, am_setR, va_up, hi]
theorem am_WT_setI {a j : Nat} {x : Int32} (hT : am_WT Γ h) : am_WT Γ (am_setI h a j x) := hT
theorem am_WT_cpy {a b i j m : Nat} (hT : am_WT Γ h) : am_WT Γ (am_cpy h a b i j m) := hT
theorem am_WT_setR {a j ci nn b nb : Nat} (hT : am_WT Γ h) (hk : Γ[a]? = some (ci, nn)) (hb : Γ[b]? = some (am_fk ci j, nb)) : am_WT Γ (am_setR h a j (some b)) := by
  intro a' kd j' b' h1 h2 h3
  by_cases ha : a' = a
  · subst ha
    rw [hk] at h1
    cases h1
    by_cases hj : j' = j
    · subst hj
      simp only [am_setR, va_up, if_true] at h2
      cases h2
      exact ⟨_, hb⟩
    · simp only [am_setR, va_up, if_true, if_neg hj] at h2
      exact hT _ _ _ _ hk h2 h3
  · simp only [am_setR, if_neg ha] at h2
    exact hT _ _ _ _ h1 h2 h3
theorem a_putI {idx ci j a nn : Nat} {x : Int32} (fp : am_FP M.2.2.2.1 idx ci j .int false) (hd : decode M.1 pc = .ok (.putfield idx, 3)) (hq : pc + 3 = q) (hk : Γ[a]? = some (ci, nn)) (h9 : am_fk ci j = 99) (kk : AW l M res k n q L st Γ (am_setI h a j x)) : AW l M res k n pc L (.int x :: .ref a :: st) Γ h := by
  subst hq
  intro p e s m args below meth c base D cI cF H locs ls C hW hS hL
  exact am_putV (v := .int x) (h := h) (h' := am_setI h a j x) fp (fun z => by cases z) hd hk rfl rfl (am_WT_setI hW.1) (fun b hb => by simp [am_setI, hb]) (fun b hb => rfl) (am_fld_setI h9).1 (am_fld_setI h9).2 C hW hS (fun H1 locs1 a1 a2 => kk p e s m args below meth c base D cI cF H1 locs1 ls C a1 a2 hL)
theorem a_putZ {idx ci j a nn : Nat} {x : Int32} (fp : am_FP M.2.2.2.1 idx ci j .boolean false) (hd : decode M.1 pc = .ok (.putfield idx, 3)) (hq : pc + 3 = q) (hk : Γ[a]? = some (ci, nn)) (h9 : am_fk ci j = 99) (hx : x = 0 ∨ x = 1) (kk : AW l M res k n q L st Γ (am_setI h a j x)) : AW l M res k n pc L (.int x :: .ref a :: st) Γ h := by
  subst hq
  intro p e s m args below meth c base D cI cF H locs ls C hW hS hL
  exact am_putV (v := .int x) (h := h) (h' := am_setI h a j x) fp (fun z => by cases z) hd hk (am_z hx) (by rcases hx with rfl | rfl <;> rfl) (am_WT_setI hW.1) (fun b hb => by simp [am_setI, hb]) (fun b hb => rfl) (am_fld_setI h9).1 (am_fld_setI h9).2 C hW hS (fun H1 locs1 a1 a2 => kk p e s m args below meth c base D cI cF H1 locs1 ls C a1 a2 hL)
theorem a_putR {idx ci j a nn b nb : Nat} {ty : FieldType} {fin : Bool} (fp : am_FP M.2.2.2.1 idx ci j ty fin) (hfi : fin = true → M.2.2.2.2.1 = true) (hn : ∀ z : Nat, narrow ty (.ref z) = .ref z) (hft : ∀ z : Nat, fits ty (.ref z) = true) (hd : decode M.1 pc = .ok (.putfield idx, 3)) (hq : pc + 3 = q) (hk : Γ[a]? = some (ci, nn)) (h9 : am_fk ci j ≠ 99) (hb : Γ[b]? = some (am_fk ci j, nb)) (kk : AW l M res k n q L st Γ (am_setR h a j (some b))) : AW l M res k n pc L (.ref b :: .ref a :: st) Γ h := by
  subst hq
  intro p e s m args below meth c base D cI cF H locs ls C hW hS hL
  exact am_putV (v := .ref (base + b)) (h := h) (h' := am_setR h a j (some b)) fp hfi hd hk (hn _) (hft _) (am_WT_setR hW.1 hk hb) (fun b hb => rfl) (fun b hb => by simp [am_setR, hb]) (am_fld_setR h9).1 (am_fld_setR h9).2 C hW hS (fun H1 locs1 a1 a2 => kk p e s m args below meth c base D cI cF H1 locs1 ls C a1 a2 hL)
/-! rows of ints -/
theorem a_alen {a nn : Nat} (hd : decode M.1 pc = .ok (.arraylength, 1)) (hq : pc + 1 = q) (hk : Γ[a]? = some (10, nn)) (kk : AW l M res k n q L (.int (nI (am_len Γ a)) :: st) Γ h) : AW l M res k n pc L (.ref a :: st) Γ h := by
  subst hq
  rw [am_len_of hk] at kk
  intro p e s m args below meth c base D cI cF H locs ls C hW hS hL
  exact va_alen C.1 C.2.1 C.2.2.2.2.2.2.2.2.1 hW.2 a 0 (by rw [am_at hk, am_cell_I]) rfl (v := nI nn) rfl hd (kk p e s m args below meth c base D cI cF H locs ls C hW hS hL)
theorem a_alenF {a nn : Nat} (hd : decode M.1 pc = .ok (.arraylength, 1)) (hq : pc + 1 = q) (hk : Γ[a]? = some (11, nn)) (kk : AW l M res k n q L (.int (nI (am_len Γ a)) :: st) Γ h) : AW l M res k n pc L (.ref a :: st) Γ h := by
  subst hq
  rw [am_len_of hk] at kk
  intro p e s m args below meth c base D cI cF H locs ls C hW hS hL
  exact va_alen C.1 C.2.1 C.2.2.2.2.2.2.2.2.1 hW.2 a 1 (by rw [am_at hk, am_cell_F]) rfl (v := nI nn) rfl hd (kk p e s m args below meth c base D cI cF H locs ls C hW hS hL)
theorem a_iald {a nn : Nat} {i : Int32} (hd : decode M.1 pc = .ok (.iaload, 1)) (hq : pc + 1 = q) (hk : Γ[a]? = some (10, nn)) (hf : (if am_ok i (am_len Γ a) then A else none) = some rr) (kk : A = some rr → AW l M res k n q L (.int (h.1 a i.toNatClampNeg) :: st) Γ h) : AW l M res k n pc L (.int i :: .ref a :: st) Γ h := by
  subst hq
  by_cases hok : am_ok i (am_len Γ a) = true
  · rw [if_pos hok] at hf
    rw [am_len_of hk] at hok
    intro p e s m args below meth c base D cI cF H locs ls C hW hS hL
    exact va_iald C.1 C.2.1 C.2.2.2.2.2.2.2.2.1 hW.2 a 0 (by rw [am_at hk, am_cell_I]) rfl (am_ok_in hok) hd (kk hf p e s m args below meth c base D cI cF H locs ls C hW hS hL)
  · rw [if_neg hok] at hf
    cases hf
theorem a_iast {a nn : Nat} {i x : Int32} (hd : decode M.1 pc = .ok (.iastore, 1)) (hq : pc + 1 = q) (hk : Γ[a]? = some (10, nn)) (hf : (if am_ok i (am_len Γ a) then A else none) = some rr) (kk : A = some rr → AW l M res k n q L st Γ (am_setI h a i.toNatClampNeg x)) : AW l M res k n pc L (.int x :: .int i :: .ref a :: st) Γ h := by
  subst hq
  by_cases hok : am_ok i (am_len Γ a) = true
  · rw [if_pos hok] at hf
    rw [am_len_of hk] at hok
    intro p e s m args below meth c base D cI cF H locs ls C hW hS hL
    refine va_iast C.1 C.2.1 C.2.2.2.2.2.2.2.2.1 hW.2 am_D hS.1 a 0 (by rw [am_at hk, am_cell_I]) rfl (am_ok_in hok) hd (fun H1 locs1 a1 _ a3 => ?_)
    refine kk hf p e s m args below meth c base D cI cF H1 locs1 ls C ⟨am_WT_setI hW.1, ?_⟩ ⟨a3, hS.2⟩ hL
    rw [← am_ws_set (h := h) (h' := am_setI h a i.toNatClampNeg x) hk (fun b hb => by simp [am_setI, hb]) (fun b hb => rfl) (by rw [am_cell_I])]
    have e : (am_setI h a i.toNatClampNeg x).1 a = upd (h.1 a) i.toNatClampNeg x := by simp [am_setI]
    rw [e]
    exact a1
  · rw [if_neg hok] at hf
    cases hf
theorem a_aald {a nn : Nat} {i : Int32} {K : Nat → Option ρ} (hd : decode M.1 pc = .ok (.aaload, 1)) (hq : pc + 1 = q) (hk : Γ[a]? = some (11, nn)) (hf : (if am_ok i (am_len Γ a) then (h.2 a i.toNatClampNeg).elim A K else none) = some rr) (kn : A = some rr → AW l M res k n q L (.null :: st) Γ h) (kk : ∀ b nb : Nat, h.2 a i.toNatClampNeg = some b → Γ[b]? = some (1, nb) → K b = some rr → AW l M res k n q L (.ref b :: st) Γ h) : AW l M res k n pc L (.int i :: .ref a :: st) Γ h := by
  subst hq
  by_cases hok : am_ok i (am_len Γ a) = true
  · rw [if_pos hok] at hf
    rw [am_len_of hk] at hok
    intro p e s m args below meth c base D cI cF H locs ls C hW hS hL
    refine va_aldq C.1 C.2.1 C.2.2.2.2.2.2.2.2.1 hW.2 a 1 (by rw [am_at hk, am_cell_F]) rfl (am_ok_in hok) hd ?_
    cases hb : h.2 a i.toNatClampNeg with
    | none =>
      rw [hb] at hf
      exact kn hf p e s m args below meth c base D cI cF H locs ls C hW hS hL
    | some b =>
      obtain ⟨nb, hnb⟩ := hW.1 a _ i.toNatClampNeg b hk hb (by simp [am_fk])
      have hf2 := hf
      rw [hb] at hf2
      exact kk b nb hb hnb hf2 p e s m args below meth c base D cI cF H locs ls C hW hS hL
  · rw [if_neg hok] at hf
    cases hf
theorem a_copy {idx a0 n0 a1 n1 : Nat} {sp dp z : Int32} (hd : decode M.1 pc = .ok (.invokestatic idx, 3)) (hq : pc + 3 = q) (hl : Cond.methodLink M.2.2.2.1 idx arraycopyName ∈ am_T) (hn : Cond.native arraycopyName ∈ am_T) (hs : Cond.static arraycopyName ∈ am_T) (hi : Cond.initialized "java/lang/System" ∈ am_T) (hR : 1 ≤ M.2.2.2.2.2.1.frames ∧ 32 ≤ M.2.2.2.2.2.1.locals) (hk0 : Γ[a0]? = some (10, n0)) (hk1 : Γ[a1]? = some (10, n1)) (hf : (if am_okc sp dp z (am_len Γ a0) (am_len Γ a1) then A else none) = some rr) (kk : A = some rr → AW l M res k n q L [] Γ (am_cpy h a0 a1 sp.toNatClampNeg dp.toNatClampNeg z.toNatClampNeg)) : AW l M res k n pc L [.int z, .int dp, .ref a1, .int sp, .ref a0] Γ h := by
  subst hq
  by_cases hok : am_okc sp dp z (am_len Γ a0) (am_len Γ a1) = true
  · rw [if_pos hok] at hf
    rw [am_len_of hk0, am_len_of hk1] at hok
    simp only [am_okc, Bool.and_eq_true, decide_eq_true_eq] at hok
    obtain ⟨⟨⟨⟨o1, o2⟩, o3⟩, o4⟩, o5⟩ := hok
    intro p e s m args below meth c base D cI cF H locs ls C hW hS hL
    refine va_copyi (rest := []) C.1 C.2.1 (by rw [C.2.2.2.1]; exact hL.1.symm) C.2.2.2.2.1 (C.2.2.2.2.2.1 _ hl) (C.2.2.2.2.2.1 _ hn) (C.2.2.2.2.2.1 _ hs) (C.2.2.2.2.2.1 _ hi) C.2.2.2.2.2.2.2.2.1 hW.2 am_D hS.1 a0 a1 0 0 (by rw [am_at hk0, am_cell_I]) (by rw [am_at hk1, am_cell_I]) rfl rfl rfl (Int32.not_lt.mpr o1) (Int32.not_lt.mpr o2) (Int32.not_lt.mpr o3) o4 o5 (fun _ _ => rfl) hR.1 (Nat.le_trans (by decide) hR.2) hd (fun H1 locs1 b1 _ b3 => ?_)
    refine kk hf p e s m args below meth c base D cI cF H1 locs1 ls C ⟨am_WT_cpy hW.1, ?_⟩ ⟨b3, hS.2⟩ hL
    rw [← am_ws_set (h := h) (h' := am_cpy h a0 a1 sp.toNatClampNeg dp.toNatClampNeg z.toNatClampNeg) hk1 (fun b hb => by simp [am_cpy, hb]) (fun b hb => rfl) (by rw [am_cell_I])]
    have e : (am_cpy h a0 a1 sp.toNatClampNeg dp.toNatClampNeg z.toNatClampNeg).1 a1 = va_cpy (h.1 a0) (h.1 a1) sp.toNatClampNeg dp.toNatClampNeg z.toNatClampNeg := by simp [am_cpy]
    rw [e]
    exact b1
  · rw [if_neg hok] at hf
    cases hf
def am_max (x y : Int32) : Int32 := if x < y then y else x
def am_min (x y : Int32) : Int32 := if y < x then y else x
theorem am_cats {base : Nat} {st : List Value} : ((st.map (am_v base)).map fun v => v.category) = st.map fun v => v.category := by simp [am_v_cat]
theorem a_max {idx : Nat} {x y : Int32} (hd : decode M.1 pc = .ok (.invokestatic idx, 3)) (hq : pc + 3 = q) (hl : Cond.methodLink M.2.2.2.1 idx Lib.Math.max.name ∈ am_T) (hs : Cond.static Lib.Math.max.name ∈ am_T) (hi : Cond.initialized "java/lang/Math" ∈ am_T) (hc : Cond.code Lib.Math.max.name Lib.Math.max.code 2 (some .int) ∈ am_T) (hR : 1 ≤ M.2.2.2.2.2.1.frames ∧ (st.map fun v => v.category).sum + 13 ≤ M.2.2.2.2.2.1.locals ∧ k ≤ M.2.2.2.2.2.1.cells ∧ n ≤ M.2.2.2.2.2.1.slots) (kk : AW l M res k n q L (.int (am_max x y) :: st) Γ h) : AW l M res k n pc L (.int y :: .int x :: st) Γ h := by
  subst hq
  intro p e s m args below meth c base D cI cF H locs ls C hW hS hL
  exact va_mmax (rest := st.map (am_v base)) C.1 C.2.1 (by rw [C.2.2.2.1]; exact hL.1.symm) C.2.2.2.2.1 (C.2.2.2.2.2.1 _ hl) (C.2.2.2.2.2.1 _ hs) (C.2.2.2.2.2.1 _ hi) (C.2.2.2.2.2.1 _ hc) hR.1 (by rw [am_cats]; exact hR.2.1) hR.2.2.1 hR.2.2.2 hd (kk p e s m args below meth c base D cI cF H locs ls C hW hS hL)
theorem a_min {idx : Nat} {x y : Int32} (hd : decode M.1 pc = .ok (.invokestatic idx, 3)) (hq : pc + 3 = q) (hl : Cond.methodLink M.2.2.2.1 idx Lib.Math.min.name ∈ am_T) (hs : Cond.static Lib.Math.min.name ∈ am_T) (hi : Cond.initialized "java/lang/Math" ∈ am_T) (hc : Cond.code Lib.Math.min.name Lib.Math.min.code 2 (some .int) ∈ am_T) (hR : 1 ≤ M.2.2.2.2.2.1.frames ∧ (st.map fun v => v.category).sum + 13 ≤ M.2.2.2.2.2.1.locals ∧ k ≤ M.2.2.2.2.2.1.cells ∧ n ≤ M.2.2.2.2.2.1.slots) (kk : AW l M res k n q L (.int (am_min x y) :: st) Γ h) : AW l M res k n pc L (.int y :: .int x :: st) Γ h := by
  subst hq
  intro p e s m args below meth c base D cI cF H locs ls C hW hS hL
  exact va_mmin (rest := st.map (am_v base)) C.1 C.2.1 (by rw [C.2.2.2.1]; exact hL.1.symm) C.2.2.2.2.1 (C.2.2.2.2.2.1 _ hl) (C.2.2.2.2.2.1 _ hs) (C.2.2.2.2.2.1 _ hi) (C.2.2.2.2.2.1 _ hc) hR.1 (by rw [am_cats]; exact hR.2.1) hR.2.2.1 hR.2.2.2 hd (kk p e s m args below meth c base D cI cF H locs ls C hW hS hL)
/-! calls -/
theorem am_sz {p : Program} {e : Env} {R : Room} {s : State} {m : MethodId} {args : Array Value} {below : List Frame} {meth : Method} {c : Code} {H : Heap} {locs : List Loc} {Q : State → Prop} {g : JFrame} (kk : H.size ≤ s.heap.size + k → W p l e R s m args below meth c H locs k n Q g) : W p l e R s m args below meth c H locs k n Q g := by
  intro T hT X
  have h1 : (T.setVm s.vm).heap.size ≤ s.heap.size + k := X.same.2.2.1
  have h2 : (T.setVm s.vm).heap = T.heap := rfl
  rw [h2, hT] at h1
  exact kk h1 T hT X
theorem am_size {s : State} {base : Nat} {D : va_G} {cI cF : ClassId} {H : Heap} {locs : List Loc} (hW : am_Wd D cI cF base Γ h H) (hS : am_S base s k Γ H locs) (hb : base ≤ s.heap.size) (hu : H.size ≤ s.heap.size + k) : H.size = base + Γ.length := by
  have h1 : base + Γ.length ≤ H.size := by
    cases hl : Γ.length with
    | zero => have := hS.1.1; omega
    | succ z =>
      have hz : z < Γ.length := by omega
      have h2 := (hW.2 z _ (am_at (List.getElem?_eq_getElem hz))).lt
      simp only at h2
      omega
  have := hS.2
  omega
theorem am_N.same {u U : State} (hv : u.vm = U.vm) (hN : am_N u) : am_N U := by
  refine ⟨fun w hw => ?_, hN.2.moved (by rw [hv]; exact Vm.Alike.refl U.vm)⟩
  have h1 := hN.1 w hw
  have h2 : am_isN w = true := List.all_eq_true.mp am_nw_all w hw
  cases w <;> first | exact va_Nw.same rfl hv h1 | (exact absurd h2 (by simp [am_isN]))
def am_Pc (base : Nat) (D : va_G) (cI cF : ClassId) (Γ : Gm) (h : AH) (args : List Value) : Array Value → State → Prop := va_Pc (args.map (am_v base)) (fun U => va_K D vwCl (am_tys cI cF) U ∧ am_N U ∧ U.heap.size = base + Γ.length ∧ am_Wd D cI cF base Γ h U.heap)
theorem am_blind {base : Nat} {D : va_G} {cI cF : ClassId} {Γ : Gm} {h : AH} {args : List Value} : FrameBlind (am_Pc base D cI cF Γ h args) := by
  intro a U g mk hq
  obtain ⟨h1, h2, h3, h4, h5⟩ := hq
  exact ⟨h1, va_K.moved (u := U) (U := U.calling g mk a) (Vm.Alike.refl U.vm) h2, am_N.same (u := U) (U := U.calling g mk a) rfl h3, h4, h5⟩
theorem am_pre {p : Program} {s : State} {m : MethodId} {args : Array Value} {meth : Method} {c : Code} {base : Nat} {D : va_G} {cI cF : ClassId} {H : Heap} {locs : List Loc} {As : List Value} (C : am_Cx M p s m args meth c base D cI cF) (hW : am_Wd D cI cF base Γ h H) (hS : am_S base s k Γ H locs) (hu : H.size ≤ s.heap.size + k) : ∀ U : State, U.heap = H → s.WarmedH U.vm → am_Pc base D cI cF Γ h As (As.map (am_v base)).toArray U := by
  intro U hU hWm
  refine ⟨rfl, va_K.moved hWm.alike C.2.2.2.2.2.2.2.2.1, C.2.2.2.2.2.2.2.2.2.1.warm hWm, ?_, by rw [hU]; exact hW⟩
  rw [hU]
  exact am_size hW hS C.2.2.2.2.2.2.2.2.2.2 hu
theorem am_cont {p : Program} {e : Env} {R : Room} {s : State} {m : MethodId} {args : Array Value} {below : List Frame} {meth : Method} {c : Code} {base mc ms rk : Nat} {D : va_G} {cI cF : ClassId} {H : Heap} {locs : List Loc} {ls : Array Slot} {st0 rest : List Value} {Q : State → Prop} {a : Array Value} {r1 : ARs} {Γ : Gm}
    (hr : va_Run p l e R s m args below meth c H locs k n mc ms (F0 m pc ls st0) rest (am_Q D cI cF base rk r1 a) (fun q => base ≤ q)) (hS : am_S base s k Γ H locs) (hg : r1.2.1.length = Γ.length + mc)
    (kk : ∀ (H1 : Heap) (locs1 : List Loc), am_rk rk r1 → am_Wd D cI cF base r1.2.1 r1.2.2 H1 → am_S base s (k + mc) r1.2.1 H1 locs1 → W p l e R s m args below meth c H1 locs1 (k + mc) (n + ms) Q (F0 m (pc + 3) ls ((r1.1.map (am_v base)).toList ++ rest))) : W p l e R s m args below meth c H locs k n Q (F0 m pc ls st0) := by
  intro T hT X
  obtain ⟨v, st₀, t, T', Lc, h0, X', hLc, e1, e2, ⟨hv, hrk, hw, hz, hk⟩, stp⟩ := hr T hT X
  have hv := Outcome.returned.inj hv
  subst hv
  rw [h0] at hz hk
  have hS1 := hS.1
  obtain ⟨t2, a1, b1⟩ := kk T'.heap (locs ++ Lc) hrk (by rw [e1]; exact hw) ⟨⟨Nat.le_trans hS1.1 (by rw [e1]; exact hz), fun q h1 h2 => by rw [e1, hk q (Nat.lt_of_lt_of_le h1 hS1.1) h2]; exact hS1.2.1 q h1 h2, fun q hq => by
      rcases List.mem_append.mp hq with h | h
      · exact hS1.2.2 q h
      · exact hLc q h⟩, by rw [hg, ← Nat.add_assoc, hS.2, Nat.add_assoc]⟩ T' rfl X'
  exact ⟨t2, stp t2 a1, b1⟩
/-- what the words say of a callee: its code, its name, how many values it takes -/
def am_CC (y : MethodName) (M' : AMt) (ar : Nat) : Prop := Cond.code y M'.1 M'.2.1 M'.2.2.1 ∈ am_T ∧ Cond.initialized y.cls ∈ am_T ∧ (y.cls ≠ "java/lang/invoke/MethodHandle" ∧ y.cls ≠ "java/lang/invoke/VarHandle" ∧ (parseMethodDescriptor y.desc).map (fun d => d.parameters.length) = some ar) ∧ M'.2.2.2.2.2.1.cells = M'.2.2.2.2.2.2.1 ∧ M'.2.2.2.2.2.1.slots = M'.2.2.2.2.2.2.2.1
def am_CR (M M' : AMt) (k n : Nat) : Prop := M'.2.2.2.2.2.1.frames + 1 ≤ M.2.2.2.2.2.1.frames ∧ 8 + (M'.2.1 + 11) + M'.2.2.2.2.2.1.locals ≤ M.2.2.2.2.2.1.locals ∧ k + M'.2.2.2.2.2.2.1 ≤ M.2.2.2.2.2.1.cells ∧ n + M'.2.2.2.2.2.2.2.1 ≤ M.2.2.2.2.2.1.slots
theorem am_goodc {y : MethodName} {M' : AMt} {ar : Nat} (hc : am_CC y M' ar) : GoodIn am_T (.code y M'.1 M'.2.1 M'.2.2.1 :: am_T) := am_T_good (fun w hw => by
  rcases List.mem_cons.mp hw with rfl | hw
  · exact hc.1
  · exact hw)
theorem am_stk {base : Nat} {As st : List Value} : (As.reverse ++ st).map (am_v base) = (As.map (am_v base)).reverse ++ st.map (am_v base) := by simp
theorem am_room {base : Nat} {m : MethodId} {ls : Array Slot} {st st0 : List Value} (hs : (st.map fun v => v.category).sum ≤ 8) : 2 * (F0 m pc ls st0).monitorRoom + ((st.map (am_v base)).map fun v => v.category).sum ≤ 8 := by
  rw [am_cats]
  exact (by have : (F0 m pc ls st0).monitorRoom = 0 := rfl
            rw [this]; simpa using hs)
theorem a_callV {idx b ci nb ar : Nat} {y : MethodName} {M' : AMt} {As : List Value} {r1 : ARs} {CN : String} {T : u_T} {N : Nat} (hM : AR l y M' (.ref b :: As) Γ h r1) (hc : am_CC y M' ar) (hl : Cond.methodLink M.2.2.2.1 idx y ∈ am_T) (hi : Cond.instanceMethod y ∈ am_T) (hs : Cond.selects CN y y ∈ am_T) (hv : vwCl[ci]? = some (CN, T, N)) (hc10 : ci < 10) (hR : am_CR M M' k n)
    (hd : decode M.1 pc = .ok (.invokevirtual idx, 3)) (hq : pc + 3 = q) (hk : Γ[b]? = some (ci, nb)) (hn : As.length = ar) (hst : (st.map fun v => v.category).sum ≤ 8) (hg : r1.2.1.length = Γ.length + M'.2.2.2.2.2.2.1) {st0 : List Value} (hs0 : st0 = As.reverse ++ .ref b :: st)
    (kk : am_rk M'.2.2.2.2.2.2.2.2 r1 → AW l M res (k + M'.2.2.2.2.2.2.1) (n + M'.2.2.2.2.2.2.2.1) q L (r1.1.toList ++ st) r1.2.1 r1.2.2) : AW l M res k n pc L st0 Γ h := by
  subst hq
  subst hs0
  intro p e s m args below meth c base D cI cF H locs ls C hW hS hL
  refine am_sz (fun hu => ?_)
  have hpre := am_pre (As := .ref b :: As) C hW hS hu
  have hrc : ∃ cellB : Cell, H[base + b]? = some cellB ∧ cellB.vm.isStatics = false ∧ s.vm.findClass CN = some cellB.cls := va_recv C.2.2.2.2.2.2.2.2.1 hW.2 hv (by rw [am_at hk, am_cell_O hc10])
  have cb : CallB M.2.2.2.2.2.1 s args M.2.2.2.1 idx y M'.1 M'.2.1 M'.2.2.1 (.code y M'.1 M'.2.1 M'.2.2.1 :: am_T) M'.2.2.2.2.2.1 M'.2.2.2.2.2.2.1 M'.2.2.2.2.2.2.2.1 ar := callB_of ar C.2.2.2.2.2.1 (am_goodc hc) rfl hc.2.2.2.1 hc.2.2.2.2 (C.2.2.2.2.2.1 _ hc.2.1) (C.2.2.2.2.2.1 _ hl) hc.2.2.1 ⟨hR.1, hR.2.1⟩
  have run := va_runV (H := H) (locs := locs) (cells := k) (slots := n) (rest := st.map (am_v base)) (below := below) (meth := meth) (e := e) (g := F0 m pc ls ((As.reverse ++ .ref b :: st).map (am_v base))) (b := base + b) (As := As.map (am_v base)) ⟨C.1, C.2.1, C.2.2.2.1, C.2.2.2.2.1, C.2.2.2.2.2.1⟩ (hM base D cI cF) ⟨cb, C.2.2.2.2.2.1 _ hi, C.2.2.2.2.2.1 _ hs⟩ ⟨am_blind, hrc, hpre⟩ rfl (by simpa using hn) hL.1 (by simp [am_v]) (am_room hst) hd ⟨hR.2.2.1, hR.2.2.2⟩
  refine am_cont run hS hg (fun H1 locs1 a0 a1 a2 => ?_)
  have := kk a0 p e s m args below meth c base D cI cF H1 locs1 ls C a1 a2 hL
  rw [List.map_append] at this
  cases hr1 : r1.1 with
  | none => rw [hr1] at this; exact this
  | some v => rw [hr1] at this; exact this
theorem a_callS {idx ar : Nat} {y : MethodName} {M' : AMt} {As : List Value} {r1 : ARs} (hM : AR l y M' As Γ h r1) (hc : am_CC y M' ar) (hl : Cond.methodLink M.2.2.2.1 idx y ∈ am_T) (hi : Cond.static y ∈ am_T) (hR : am_CR M M' k n)
    (hd : decode M.1 pc = .ok (.invokestatic idx, 3)) (hq : pc + 3 = q) (hn : As.length = ar) (hst : (st.map fun v => v.category).sum ≤ 8) (hg : r1.2.1.length = Γ.length + M'.2.2.2.2.2.2.1) {st0 : List Value} (hs0 : st0 = As.reverse ++ st)
    (kk : am_rk M'.2.2.2.2.2.2.2.2 r1 → AW l M res (k + M'.2.2.2.2.2.2.1) (n + M'.2.2.2.2.2.2.2.1) q L (r1.1.toList ++ st) r1.2.1 r1.2.2) : AW l M res k n pc L st0 Γ h := by
  subst hq
  subst hs0
  intro p e s m args below meth c base D cI cF H locs ls C hW hS hL
  refine am_sz (fun hu => ?_)
  have hpre := am_pre (As := As) C hW hS hu
  have cb : CallB M.2.2.2.2.2.1 s args M.2.2.2.1 idx y M'.1 M'.2.1 M'.2.2.1 (.code y M'.1 M'.2.1 M'.2.2.1 :: am_T) M'.2.2.2.2.2.1 M'.2.2.2.2.2.2.1 M'.2.2.2.2.2.2.2.1 ar := callB_of ar C.2.2.2.2.2.1 (am_goodc hc) rfl hc.2.2.2.1 hc.2.2.2.2 (C.2.2.2.2.2.1 _ hc.2.1) (C.2.2.2.2.2.1 _ hl) hc.2.2.1 ⟨hR.1, hR.2.1⟩
  have run := va_runS (H := H) (locs := locs) (cells := k) (slots := n) (rest := st.map (am_v base)) (below := below) (meth := meth) (e := e) (g := F0 m pc ls ((As.reverse ++ st).map (am_v base))) (As := As.map (am_v base)) ⟨C.1, C.2.1, C.2.2.2.1, C.2.2.2.2.1, C.2.2.2.2.2.1⟩ (hM base D cI cF) ⟨cb, C.2.2.2.2.2.1 _ hi⟩ ⟨am_blind, hpre⟩ rfl (by simpa using hn) hL.1 (by simp) (am_room hst) hd ⟨hR.2.2.1, hR.2.2.2⟩
  refine am_cont run hS hg (fun H1 locs1 a0 a1 a2 => ?_)
  have := kk a0 p e s m args below meth c base D cI cF H1 locs1 ls C a1 a2 hL
  rw [List.map_append] at this
  cases hr1 : r1.1 with
  | none => rw [hr1] at this; exact this
  | some v => rw [hr1] at this; exact this
theorem a_callSN {idx ar : Nat} {y : MethodName} {M' : AMt} {As : List Value} {r1 : ARs} {host : String} (hM : AR l y M' As Γ h r1) (hc : am_CC y M' ar) (hl : Cond.methodLinkNest M.2.2.2.1 idx y host ∈ am_nw) (hi : Cond.static y ∈ am_T) (hR : am_CR M M' k n)
    (hd : decode M.1 pc = .ok (.invokestatic idx, 3)) (hq : pc + 3 = q) (hn : As.length = ar) (hst : (st.map fun v => v.category).sum ≤ 8) (hg : r1.2.1.length = Γ.length + M'.2.2.2.2.2.2.1) {st0 : List Value} (hs0 : st0 = As.reverse ++ st)
    (kk : am_rk M'.2.2.2.2.2.2.2.2 r1 → AW l M res (k + M'.2.2.2.2.2.2.1) (n + M'.2.2.2.2.2.2.2.1) q L (r1.1.toList ++ st) r1.2.1 r1.2.2) : AW l M res k n pc L st0 Γ h := by
  subst hq
  subst hs0
  intro p e s m args below meth c base D cI cF H locs ls C hW hS hL
  refine am_sz (fun hu => ?_)
  have hpre := am_pre (As := As) C hW hS hu
  have cb := va_cnB (R := M.2.2.2.2.2.1) (mc := M'.2.2.2.2.2.2.1) (ms := M'.2.2.2.2.2.2.2.1) ar C.2.2.2.2.2.1 (am_goodc hc) rfl hc.2.2.2.1 hc.2.2.2.2 (C.2.2.2.2.2.2.2.2.2.1.1 _ hl) (C.2.2.2.2.2.1 _ hc.2.1) hc.2.2.1 ⟨hR.1, hR.2.1⟩
  have run := va_runSN (H := H) (locs := locs) (cells := k) (slots := n) (rest := st.map (am_v base)) (below := below) (meth := meth) (e := e) (g := F0 m pc ls ((As.reverse ++ st).map (am_v base))) (As := As.map (am_v base)) ⟨C.1, C.2.1, C.2.2.2.1, C.2.2.2.2.1, C.2.2.2.2.2.1⟩ (hM base D cI cF) ⟨cb, C.2.2.2.2.2.1 _ hi, trivial⟩ ⟨am_blind, hpre⟩ rfl (by simpa using hn) hL.1 (by simp) (am_room hst) hd ⟨hR.2.2.1, hR.2.2.2⟩
  refine am_cont run hS hg (fun H1 locs1 a0 a1 a2 => ?_)
  have := kk a0 p e s m args below meth c base D cI cF H1 locs1 ls C a1 a2 hL
  rw [List.map_append] at this
  cases hr1 : r1.1 with
  | none => rw [hr1] at this; exact this
  | some v => rw [hr1] at this; exact this
end AMH
end
