section
/-- a private method of a class that the tables say can be made, by its rows of tables_1 -/
def lw_okq (q : MethodName × Nat) : Prop := (q.1.cls ≠ "java/lang/invoke/MethodHandle" ∧ q.1.cls ≠ "java/lang/invoke/VarHandle") ∧ Cond.instantiable q.1.cls q.2 ∈ tables_1 ∧ Cond.privateMethod q.1 ∈ tables_1 ∧ Cond.instanceMethod q.1 ∈ tables_1
theorem lw_p0 : lw_okq (⟨"CoconutShies$Booth", "readPart", "(LCoconutShies$Text;I)I"⟩, 14) := ⟨⟨by decide +kernel, by decide +kernel⟩, List.mem_of_getElem? (i := 205) (by decide +kernel), List.mem_of_getElem? (i := 338) (by decide +kernel), List.mem_of_getElem? (i := 339) (by decide +kernel)⟩
theorem lw_p1 : lw_okq (⟨"CoconutShies$Booth", "readHusk", "(LCoconutShies$Text;I)I"⟩, 14) := ⟨⟨by decide +kernel, by decide +kernel⟩, List.mem_of_getElem? (i := 205) (by decide +kernel), List.mem_of_getElem? (i := 342) (by decide +kernel), List.mem_of_getElem? (i := 343) (by decide +kernel)⟩
theorem lw_p2 : lw_okq (⟨"CoconutShies$Booth", "readThrower", "(LCoconutShies$Text;I)I"⟩, 14) := ⟨⟨by decide +kernel, by decide +kernel⟩, List.mem_of_getElem? (i := 205) (by decide +kernel), List.mem_of_getElem? (i := 350) (by decide +kernel), List.mem_of_getElem? (i := 351) (by decide +kernel)⟩
theorem lw_p3 : lw_okq (⟨"CoconutShies$Booth", "readLaw", "(LCoconutShies$Text;I)I"⟩, 14) := ⟨⟨by decide +kernel, by decide +kernel⟩, List.mem_of_getElem? (i := 205) (by decide +kernel), List.mem_of_getElem? (i := 354) (by decide +kernel), List.mem_of_getElem? (i := 355) (by decide +kernel)⟩
theorem lw_p4 : lw_okq (⟨"CoconutShies", "refusalOfThrow", "(III)I"⟩, 11) := ⟨⟨by decide +kernel, by decide +kernel⟩, List.mem_of_getElem? (i := 16) (by decide +kernel), List.mem_of_getElem? (i := 411) (by decide +kernel), List.mem_of_getElem? (i := 412) (by decide +kernel)⟩
theorem lw_p5 : lw_okq (⟨"CoconutShies$Booth", "astray", "(II)I"⟩, 14) := ⟨⟨by decide +kernel, by decide +kernel⟩, List.mem_of_getElem? (i := 205) (by decide +kernel), List.mem_of_getElem? (i := 422) (by decide +kernel), List.mem_of_getElem? (i := 423) (by decide +kernel)⟩
theorem lw_p6 : lw_okq (⟨"CoconutShies$Booth", "drift", "(II)I"⟩, 14) := ⟨⟨by decide +kernel, by decide +kernel⟩, List.mem_of_getElem? (i := 205) (by decide +kernel), List.mem_of_getElem? (i := 426) (by decide +kernel), List.mem_of_getElem? (i := 427) (by decide +kernel)⟩
theorem lw_p7 : lw_okq (⟨"CoconutShies$Seeker", "weigh", "(II)V"⟩, 3) := ⟨⟨by decide +kernel, by decide +kernel⟩, List.mem_of_getElem? (i := 137) (by decide +kernel), List.mem_of_getElem? (i := 568) (by decide +kernel), List.mem_of_getElem? (i := 569) (by decide +kernel)⟩
theorem lw_p8 : lw_okq (⟨"CoconutShies$Seeker", "staysUp", "(LCoconutShies$Booth;LCoconutShies$Stand;II)Z"⟩, 3) := ⟨⟨by decide +kernel, by decide +kernel⟩, List.mem_of_getElem? (i := 137) (by decide +kernel), List.mem_of_getElem? (i := 582) (by decide +kernel), List.mem_of_getElem? (i := 583) (by decide +kernel)⟩
theorem lw_p9 : lw_okq (⟨"CoconutShies$Sightings", "agree", "(II)Z"⟩, 4) := ⟨⟨by decide +kernel, by decide +kernel⟩, List.mem_of_getElem? (i := 102) (by decide +kernel), List.mem_of_getElem? (i := 639) (by decide +kernel), List.mem_of_getElem? (i := 640) (by decide +kernel)⟩
theorem lw_p10 : lw_okq (⟨"CoconutShies$Parties", "weigh", "(LCoconutShies$Booth;LCoconutShies$Stand;II)V"⟩, 5) := ⟨⟨by decide +kernel, by decide +kernel⟩, List.mem_of_getElem? (i := 156) (by decide +kernel), List.mem_of_getElem? (i := 651) (by decide +kernel), List.mem_of_getElem? (i := 652) (by decide +kernel)⟩
theorem lw_p11 : lw_okq (⟨"CoconutShies$Parties", "costOf", "(LCoconutShies$Booth;II)I"⟩, 5) := ⟨⟨by decide +kernel, by decide +kernel⟩, List.mem_of_getElem? (i := 156) (by decide +kernel), List.mem_of_getElem? (i := 656) (by decide +kernel), List.mem_of_getElem? (i := 657) (by decide +kernel)⟩
theorem lw_p12 : lw_okq (⟨"CoconutShies$Parties", "isRest", "(III)Z"⟩, 5) := ⟨⟨by decide +kernel, by decide +kernel⟩, List.mem_of_getElem? (i := 156) (by decide +kernel), List.mem_of_getElem? (i := 664) (by decide +kernel), List.mem_of_getElem? (i := 665) (by decide +kernel)⟩
theorem lw_p13 : lw_okq (⟨"CoconutShiesModel", "readFair", "()I"⟩, 41) := ⟨⟨by decide +kernel, by decide +kernel⟩, List.mem_of_getElem? (i := 724) (by decide +kernel), List.mem_of_getElem? (i := 870) (by decide +kernel), List.mem_of_getElem? (i := 871) (by decide +kernel)⟩
theorem lw_p14 : lw_okq (⟨"CoconutShiesModel", "figure", "(II)I"⟩, 41) := ⟨⟨by decide +kernel, by decide +kernel⟩, List.mem_of_getElem? (i := 724) (by decide +kernel), List.mem_of_getElem? (i := 874) (by decide +kernel), List.mem_of_getElem? (i := 875) (by decide +kernel)⟩
theorem lw_p15 : lw_okq (⟨"CoconutShiesModel", "readPart", "()Z"⟩, 41) := ⟨⟨by decide +kernel, by decide +kernel⟩, List.mem_of_getElem? (i := 724) (by decide +kernel), List.mem_of_getElem? (i := 878) (by decide +kernel), List.mem_of_getElem? (i := 879) (by decide +kernel)⟩
def lw_privs_1 : List (MethodName × Nat) := [(⟨"CoconutShies$Booth", "readPart", "(LCoconutShies$Text;I)I"⟩, 14), (⟨"CoconutShies$Booth", "readHusk", "(LCoconutShies$Text;I)I"⟩, 14), (⟨"CoconutShies$Booth", "readThrower", "(LCoconutShies$Text;I)I"⟩, 14), (⟨"CoconutShies$Booth", "readLaw", "(LCoconutShies$Text;I)I"⟩, 14), (⟨"CoconutShies", "refusalOfThrow", "(III)I"⟩, 11), (⟨"CoconutShies$Booth", "astray", "(II)I"⟩, 14), (⟨"CoconutShies$Booth", "drift", "(II)I"⟩, 14), (⟨"CoconutShies$Seeker", "weigh", "(II)V"⟩, 3), (⟨"CoconutShies$Seeker", "staysUp", "(LCoconutShies$Booth;LCoconutShies$Stand;II)Z"⟩, 3), (⟨"CoconutShies$Sightings", "agree", "(II)Z"⟩, 4), (⟨"CoconutShies$Parties", "weigh", "(LCoconutShies$Booth;LCoconutShies$Stand;II)V"⟩, 5), (⟨"CoconutShies$Parties", "costOf", "(LCoconutShies$Booth;II)I"⟩, 5), (⟨"CoconutShies$Parties", "isRest", "(III)Z"⟩, 5), (⟨"CoconutShiesModel", "readFair", "()I"⟩, 41), (⟨"CoconutShiesModel", "figure", "(II)I"⟩, 41), (⟨"CoconutShiesModel", "readPart", "()Z"⟩, 41)]
theorem lw_r1 : ∀ q ∈ lw_privs_1, lw_okq q := List.forall_mem_cons.mpr ⟨lw_p0, List.forall_mem_cons.mpr ⟨lw_p1, List.forall_mem_cons.mpr ⟨lw_p2, List.forall_mem_cons.mpr ⟨lw_p3, List.forall_mem_cons.mpr ⟨lw_p4, List.forall_mem_cons.mpr ⟨lw_p5, List.forall_mem_cons.mpr ⟨lw_p6, List.forall_mem_cons.mpr ⟨lw_p7, List.forall_mem_cons.mpr ⟨lw_p8, List.forall_mem_cons.mpr ⟨lw_p9, List.forall_mem_cons.mpr ⟨lw_p10, List.forall_mem_cons.mpr ⟨lw_p11, List.forall_mem_cons.mpr ⟨lw_p12, List.forall_mem_cons.mpr ⟨lw_p13, List.forall_mem_cons.mpr ⟨lw_p14, List.forall_mem_cons.mpr ⟨lw_p15, fun _ h => absurd h List.not_mem_nil⟩⟩⟩⟩⟩⟩⟩⟩⟩⟩⟩⟩⟩⟩⟩⟩
theorem lw_p16 : lw_okq (⟨"CoconutShiesModel", "readOneHusk", "()Z"⟩, 41) := ⟨⟨by decide +kernel, by decide +kernel⟩, List.mem_of_getElem? (i := 724) (by decide +kernel), List.mem_of_getElem? (i := 882) (by decide +kernel), List.mem_of_getElem? (i := 883) (by decide +kernel)⟩
theorem lw_p17 : lw_okq (⟨"CoconutShiesModel", "readPlace", "()I"⟩, 41) := ⟨⟨by decide +kernel, by decide +kernel⟩, List.mem_of_getElem? (i := 724) (by decide +kernel), List.mem_of_getElem? (i := 886) (by decide +kernel), List.mem_of_getElem? (i := 887) (by decide +kernel)⟩
theorem lw_p18 : lw_okq (⟨"CoconutShiesModel", "readOneThrower", "()Z"⟩, 41) := ⟨⟨by decide +kernel, by decide +kernel⟩, List.mem_of_getElem? (i := 724) (by decide +kernel), List.mem_of_getElem? (i := 891) (by decide +kernel), List.mem_of_getElem? (i := 892) (by decide +kernel)⟩
theorem lw_p19 : lw_okq (⟨"CoconutShiesModel", "readOneLaw", "()Z"⟩, 41) := ⟨⟨by decide +kernel, by decide +kernel⟩, List.mem_of_getElem? (i := 724) (by decide +kernel), List.mem_of_getElem? (i := 895) (by decide +kernel), List.mem_of_getElem? (i := 896) (by decide +kernel)⟩
theorem lw_p20 : lw_okq (⟨"CoconutShiesModel", "noHusk", "(I)Z"⟩, 41) := ⟨⟨by decide +kernel, by decide +kernel⟩, List.mem_of_getElem? (i := 724) (by decide +kernel), List.mem_of_getElem? (i := 914) (by decide +kernel), List.mem_of_getElem? (i := 915) (by decide +kernel)⟩
theorem lw_p21 : lw_okq (⟨"CoconutShiesModel", "firm", "([II)I"⟩, 41) := ⟨⟨by decide +kernel, by decide +kernel⟩, List.mem_of_getElem? (i := 724) (by decide +kernel), List.mem_of_getElem? (i := 918) (by decide +kernel), List.mem_of_getElem? (i := 919) (by decide +kernel)⟩
theorem lw_p22 : lw_okq (⟨"CoconutShiesModel", "noThrower", "(I)Z"⟩, 41) := ⟨⟨by decide +kernel, by decide +kernel⟩, List.mem_of_getElem? (i := 724) (by decide +kernel), List.mem_of_getElem? (i := 929) (by decide +kernel), List.mem_of_getElem? (i := 930) (by decide +kernel)⟩
theorem lw_p23 : lw_okq (⟨"CoconutShiesModel", "force", "(I)I"⟩, 41) := ⟨⟨by decide +kernel, by decide +kernel⟩, List.mem_of_getElem? (i := 724) (by decide +kernel), List.mem_of_getElem? (i := 934) (by decide +kernel), List.mem_of_getElem? (i := 935) (by decide +kernel)⟩
theorem lw_p24 : lw_okq (⟨"CoconutShiesModel", "noThrow", "(III)I"⟩, 41) := ⟨⟨by decide +kernel, by decide +kernel⟩, List.mem_of_getElem? (i := 724) (by decide +kernel), List.mem_of_getElem? (i := 942) (by decide +kernel), List.mem_of_getElem? (i := 943) (by decide +kernel)⟩
theorem lw_p25 : lw_okq (⟨"CoconutShiesModel", "landing", "([IIII)I"⟩, 41) := ⟨⟨by decide +kernel, by decide +kernel⟩, List.mem_of_getElem? (i := 724) (by decide +kernel), List.mem_of_getElem? (i := 946) (by decide +kernel), List.mem_of_getElem? (i := 947) (by decide +kernel)⟩
theorem lw_p26 : lw_okq (⟨"CoconutShiesModel", "blows", "([II)I"⟩, 41) := ⟨⟨by decide +kernel, by decide +kernel⟩, List.mem_of_getElem? (i := 724) (by decide +kernel), List.mem_of_getElem? (i := 950) (by decide +kernel), List.mem_of_getElem? (i := 951) (by decide +kernel)⟩
theorem lw_p27 : lw_okq (⟨"CoconutShiesModel", "note", "()V"⟩, 41) := ⟨⟨by decide +kernel, by decide +kernel⟩, List.mem_of_getElem? (i := 724) (by decide +kernel), List.mem_of_getElem? (i := 958) (by decide +kernel), List.mem_of_getElem? (i := 959) (by decide +kernel)⟩
theorem lw_p28 : lw_okq (⟨"CoconutShiesModel", "goThrow", "([IIII)V"⟩, 41) := ⟨⟨by decide +kernel, by decide +kernel⟩, List.mem_of_getElem? (i := 724) (by decide +kernel), List.mem_of_getElem? (i := 962) (by decide +kernel), List.mem_of_getElem? (i := 963) (by decide +kernel)⟩
theorem lw_p29 : lw_okq (⟨"CoconutShiesModel", "huskAt", "(I)I"⟩, 41) := ⟨⟨by decide +kernel, by decide +kernel⟩, List.mem_of_getElem? (i := 724) (by decide +kernel), List.mem_of_getElem? (i := 966) (by decide +kernel), List.mem_of_getElem? (i := 967) (by decide +kernel)⟩
theorem lw_p30 : lw_okq (⟨"CoconutShiesModel", "fall", "([II)V"⟩, 41) := ⟨⟨by decide +kernel, by decide +kernel⟩, List.mem_of_getElem? (i := 724) (by decide +kernel), List.mem_of_getElem? (i := 970) (by decide +kernel), List.mem_of_getElem? (i := 971) (by decide +kernel)⟩
theorem lw_p31 : lw_okq (⟨"CoconutShiesModel", "findFewest", "(I)V"⟩, 41) := ⟨⟨by decide +kernel, by decide +kernel⟩, List.mem_of_getElem? (i := 724) (by decide +kernel), List.mem_of_getElem? (i := 1008) (by decide +kernel), List.mem_of_getElem? (i := 1009) (by decide +kernel)⟩
def lw_privs_2 : List (MethodName × Nat) := [(⟨"CoconutShiesModel", "readOneHusk", "()Z"⟩, 41), (⟨"CoconutShiesModel", "readPlace", "()I"⟩, 41), (⟨"CoconutShiesModel", "readOneThrower", "()Z"⟩, 41), (⟨"CoconutShiesModel", "readOneLaw", "()Z"⟩, 41), (⟨"CoconutShiesModel", "noHusk", "(I)Z"⟩, 41), (⟨"CoconutShiesModel", "firm", "([II)I"⟩, 41), (⟨"CoconutShiesModel", "noThrower", "(I)Z"⟩, 41), (⟨"CoconutShiesModel", "force", "(I)I"⟩, 41), (⟨"CoconutShiesModel", "noThrow", "(III)I"⟩, 41), (⟨"CoconutShiesModel", "landing", "([IIII)I"⟩, 41), (⟨"CoconutShiesModel", "blows", "([II)I"⟩, 41), (⟨"CoconutShiesModel", "note", "()V"⟩, 41), (⟨"CoconutShiesModel", "goThrow", "([IIII)V"⟩, 41), (⟨"CoconutShiesModel", "huskAt", "(I)I"⟩, 41), (⟨"CoconutShiesModel", "fall", "([II)V"⟩, 41), (⟨"CoconutShiesModel", "findFewest", "(I)V"⟩, 41)]
theorem lw_r2 : ∀ q ∈ lw_privs_2, lw_okq q := List.forall_mem_cons.mpr ⟨lw_p16, List.forall_mem_cons.mpr ⟨lw_p17, List.forall_mem_cons.mpr ⟨lw_p18, List.forall_mem_cons.mpr ⟨lw_p19, List.forall_mem_cons.mpr ⟨lw_p20, List.forall_mem_cons.mpr ⟨lw_p21, List.forall_mem_cons.mpr ⟨lw_p22, List.forall_mem_cons.mpr ⟨lw_p23, List.forall_mem_cons.mpr ⟨lw_p24, List.forall_mem_cons.mpr ⟨lw_p25, List.forall_mem_cons.mpr ⟨lw_p26, List.forall_mem_cons.mpr ⟨lw_p27, List.forall_mem_cons.mpr ⟨lw_p28, List.forall_mem_cons.mpr ⟨lw_p29, List.forall_mem_cons.mpr ⟨lw_p30, List.forall_mem_cons.mpr ⟨lw_p31, fun _ h => absurd h List.not_mem_nil⟩⟩⟩⟩⟩⟩⟩⟩⟩⟩⟩⟩⟩⟩⟩⟩
theorem lw_p32 : lw_okq (⟨"CoconutShiesModel", "throwsAt", "(II)Z"⟩, 41) := ⟨⟨by decide +kernel, by decide +kernel⟩, List.mem_of_getElem? (i := 724) (by decide +kernel), List.mem_of_getElem? (i := 1015) (by decide +kernel), List.mem_of_getElem? (i := 1016) (by decide +kernel)⟩
theorem lw_p33 : lw_okq (⟨"CoconutShiesModel", "placeAt", "([III)I"⟩, 41) := ⟨⟨by decide +kernel, by decide +kernel⟩, List.mem_of_getElem? (i := 724) (by decide +kernel), List.mem_of_getElem? (i := 1019) (by decide +kernel), List.mem_of_getElem? (i := 1020) (by decide +kernel)⟩
theorem lw_p34 : lw_okq (⟨"CoconutShiesModel", "findMatch", "(I)V"⟩, 41) := ⟨⟨by decide +kernel, by decide +kernel⟩, List.mem_of_getElem? (i := 724) (by decide +kernel), List.mem_of_getElem? (i := 1031) (by decide +kernel), List.mem_of_getElem? (i := 1032) (by decide +kernel)⟩
theorem lw_p35 : lw_okq (⟨"CoconutShiesModel", "holdsUp", "(I)Z"⟩, 41) := ⟨⟨by decide +kernel, by decide +kernel⟩, List.mem_of_getElem? (i := 724) (by decide +kernel), List.mem_of_getElem? (i := 1042) (by decide +kernel), List.mem_of_getElem? (i := 1043) (by decide +kernel)⟩
theorem lw_p36 : lw_okq (⟨"CoconutShiesModel", "does", "(I)Z"⟩, 41) := ⟨⟨by decide +kernel, by decide +kernel⟩, List.mem_of_getElem? (i := 724) (by decide +kernel), List.mem_of_getElem? (i := 1051) (by decide +kernel), List.mem_of_getElem? (i := 1052) (by decide +kernel)⟩
theorem lw_p37 : lw_okq (⟨"CoconutShiesModel", "findRests", "()V"⟩, 41) := ⟨⟨by decide +kernel, by decide +kernel⟩, List.mem_of_getElem? (i := 724) (by decide +kernel), List.mem_of_getElem? (i := 1085) (by decide +kernel), List.mem_of_getElem? (i := 1086) (by decide +kernel)⟩
theorem lw_p38 : lw_okq (⟨"CoconutShiesModel", "layWorth", "(II)V"⟩, 41) := ⟨⟨by decide +kernel, by decide +kernel⟩, List.mem_of_getElem? (i := 724) (by decide +kernel), List.mem_of_getElem? (i := 1089) (by decide +kernel), List.mem_of_getElem? (i := 1090) (by decide +kernel)⟩
def lw_privs_3 : List (MethodName × Nat) := [(⟨"CoconutShiesModel", "throwsAt", "(II)Z"⟩, 41), (⟨"CoconutShiesModel", "placeAt", "([III)I"⟩, 41), (⟨"CoconutShiesModel", "findMatch", "(I)V"⟩, 41), (⟨"CoconutShiesModel", "holdsUp", "(I)Z"⟩, 41), (⟨"CoconutShiesModel", "does", "(I)Z"⟩, 41), (⟨"CoconutShiesModel", "findRests", "()V"⟩, 41), (⟨"CoconutShiesModel", "layWorth", "(II)V"⟩, 41)]
theorem lw_r3 : ∀ q ∈ lw_privs_3, lw_okq q := List.forall_mem_cons.mpr ⟨lw_p32, List.forall_mem_cons.mpr ⟨lw_p33, List.forall_mem_cons.mpr ⟨lw_p34, List.forall_mem_cons.mpr ⟨lw_p35, List.forall_mem_cons.mpr ⟨lw_p36, List.forall_mem_cons.mpr ⟨lw_p37, List.forall_mem_cons.mpr ⟨lw_p38, fun _ h => absurd h List.not_mem_nil⟩⟩⟩⟩⟩⟩⟩
def lw_privs : List (MethodName × Nat) := lw_privs_1 ++ (lw_privs_2 ++ (lw_privs_3))
def lw_tbl : List Cond := k2_sels lw_privs ++ tables_1
theorem lw_privs_ok : ∀ q ∈ lw_privs, lw_okq q := by
  show ∀ q ∈ lw_privs_1 ++ (lw_privs_2 ++ (lw_privs_3)), lw_okq q
  exact List.forall_mem_append.mpr ⟨lw_r1, List.forall_mem_append.mpr ⟨lw_r2, lw_r3⟩⟩
def RX0 : String := "CoconutShies$Acts"
def TX0 : u_T := fun k => match k with
  | 0 => ("CoconutShies$Acts", "before", "[LCoconutShies$Stand;", true)
  | 1 => ("CoconutShies$Acts", "first", "I", false)
  | _ => ("CoconutShies$Acts", "count", "I", false)
def tyX0 : Nat → FieldType := fun k => match k with
  | 0 => .array (.object "CoconutShies$Stand")
  | 1 => .int
  | _ => .int
abbrev wsX00 : List Cond := u_ws RX0 TX0 3
theorem nmX0 : ∀ a, a < 3 → ∀ b, b < 3 → a ≠ b → (TX0 a).2.1 ≠ (TX0 b).2.1 := by decide +kernel
theorem tyX0_ok : ∀ k, k < 3 → parseFieldDescriptor (TX0 k).2.2.1 = some (tyX0 k) := by decide +kernel
abbrev cX0_init : ByteArray := prog_2_method_1_code
def yX0_init : MethodName := ⟨RX0, "<init>", "()V"⟩
abbrev cX0_remember : ByteArray := prog_2_method_2_code
def yX0_remember : MethodName := ⟨RX0, "remember", "(LCoconutShies$Stand;)V"⟩
abbrev cX0_takeBack : ByteArray := prog_2_method_3_code
def yX0_takeBack : MethodName := ⟨RX0, "takeBack", "(LCoconutShies$Stand;)Z"⟩
abbrev cX0_forgetAll : ByteArray := prog_2_method_4_code
def yX0_forgetAll : MethodName := ⟨RX0, "forgetAll", "()V"⟩
def RX1 : String := "CoconutShies$Booth"
def TX1 : u_T := fun k => match k with
  | 0 => ("CoconutShies$Booth", "place", "[I", true)
  | 1 => ("CoconutShies$Booth", "hold", "[I", true)
  | 2 => ("CoconutShies$Booth", "huskKind", "[I", true)
  | 3 => ("CoconutShies$Booth", "aim", "[I", true)
  | 4 => ("CoconutShies$Booth", "force", "[I", true)
  | 5 => ("CoconutShies$Booth", "throwerKind", "[I", true)
  | 6 => ("CoconutShies$Booth", "lawOf", "[I", true)
  | 7 => ("CoconutShies$Booth", "lawFor", "[I", true)
  | 8 => ("CoconutShies$Booth", "lawKind", "[I", true)
  | 9 => ("CoconutShies$Booth", "husks", "I", false)
  | 10 => ("CoconutShies$Booth", "throwers", "I", false)
  | 11 => ("CoconutShies$Booth", "laws", "I", false)
  | 12 => ("CoconutShies$Booth", "windAtFirst", "I", false)
  | _ => ("CoconutShies$Booth", "paidAtFirst", "I", false)
def tyX1 : Nat → FieldType := fun k => match k with
  | 0 => .array .int
  | 1 => .array .int
  | 2 => .array .int
  | 3 => .array .int
  | 4 => .array .int
  | 5 => .array .int
  | 6 => .array .int
  | 7 => .array .int
  | 8 => .array .int
  | 9 => .int
  | 10 => .int
  | 11 => .int
  | 12 => .int
  | _ => .int
abbrev wsX10 : List Cond := u_ws RX1 TX1 14
theorem nmX1 : ∀ a, a < 14 → ∀ b, b < 14 → a ≠ b → (TX1 a).2.1 ≠ (TX1 b).2.1 := by decide +kernel
theorem tyX1_ok : ∀ k, k < 14 → parseFieldDescriptor (TX1 k).2.2.1 = some (tyX1 k) := by decide +kernel
abbrev cX1_init : ByteArray := prog_3_method_1_code
def yX1_init : MethodName := ⟨RX1, "<init>", "()V"⟩
abbrev cX1_isHusk : ByteArray := prog_3_method_2_code
def yX1_isHusk : MethodName := ⟨RX1, "isHusk", "(I)Z"⟩
abbrev cX1_isThrower : ByteArray := prog_3_method_3_code
def yX1_isThrower : MethodName := ⟨RX1, "isThrower", "(I)Z"⟩
abbrev cX1_readFrom : ByteArray := prog_3_method_4_code
def yX1_readFrom : MethodName := ⟨RX1, "readFrom", "(LCoconutShies$Text;)I"⟩
abbrev cX1_readPart : ByteArray := prog_3_method_5_code
def yX1_readPart : MethodName := ⟨RX1, "readPart", "(LCoconutShies$Text;I)I"⟩
abbrev cX1_readHusk : ByteArray := prog_3_method_6_code
def yX1_readHusk : MethodName := ⟨RX1, "readHusk", "(LCoconutShies$Text;I)I"⟩
abbrev cX1_readThrower : ByteArray := prog_3_method_7_code
def yX1_readThrower : MethodName := ⟨RX1, "readThrower", "(LCoconutShies$Text;I)I"⟩
abbrev cX1_readLaw : ByteArray := prog_3_method_8_code
def yX1_readLaw : MethodName := ⟨RX1, "readLaw", "(LCoconutShies$Text;I)I"⟩
abbrev cX1_huskAt : ByteArray := prog_3_method_9_code
def yX1_huskAt : MethodName := ⟨RX1, "huskAt", "(I)I"⟩
abbrev cX1_loosensBy : ByteArray := prog_3_method_10_code
def yX1_loosensBy : MethodName := ⟨RX1, "loosensBy", "(I)I"⟩
abbrev cX1_landing : ByteArray := prog_3_method_11_code
def yX1_landing : MethodName := ⟨RX1, "landing", "(IIII)I"⟩
abbrev cX1_reaches : ByteArray := prog_3_method_12_code
def yX1_reaches : MethodName := ⟨RX1, "reaches", "(III)Z"⟩
abbrev cX1_astray : ByteArray := prog_3_method_13_code
def yX1_astray : MethodName := ⟨RX1, "astray", "(II)I"⟩
abbrev cX1_drift : ByteArray := prog_3_method_14_code
def yX1_drift : MethodName := ⟨RX1, "drift", "(II)I"⟩
def RX2 : String := "CoconutShies$Chances"
def TX2 : u_T := fun k => match k with
  | 0 => ("CoconutShies$Chances", "tries", "[LCoconutShies$Stand;", true)
  | 1 => ("CoconutShies$Chances", "thrower", "I", false)
  | 2 => ("CoconutShies$Chances", "place", "I", false)
  | _ => ("CoconutShies$Chances", "tenths", "I", false)
def tyX2 : Nat → FieldType := fun k => match k with
  | 0 => .array (.object "CoconutShies$Stand")
  | 1 => .int
  | 2 => .int
  | _ => .int
abbrev wsX20 : List Cond := u_ws RX2 TX2 4
theorem nmX2 : ∀ a, a < 4 → ∀ b, b < 4 → a ≠ b → (TX2 a).2.1 ≠ (TX2 b).2.1 := by decide +kernel
theorem tyX2_ok : ∀ k, k < 4 → parseFieldDescriptor (TX2 k).2.2.1 = some (tyX2 k) := by decide +kernel
abbrev cX2_init : ByteArray := prog_4_method_1_code
def yX2_init : MethodName := ⟨RX2, "<init>", "()V"⟩
abbrev cX2_waysDown : ByteArray := prog_4_method_2_code
def yX2_waysDown : MethodName := ⟨RX2, "waysDown", "(LCoconutShies$Booth;LCoconutShies$Stand;II)I"⟩
abbrev cX2_allWays : ByteArray := prog_4_method_3_code
def yX2_allWays : MethodName := ⟨RX2, "allWays", "(I)I"⟩
abbrev cX2_waysFrom : ByteArray := prog_4_method_4_code
def yX2_waysFrom : MethodName := ⟨RX2, "waysFrom", "(LCoconutShies$Chances;LCoconutShies$Booth;III)I"⟩
abbrev cX2_startFrom : ByteArray := prog_4_method_5_code
def yX2_startFrom : MethodName := ⟨RX2, "startFrom", "(LCoconutShies$Stand;)V"⟩
abbrev cX2_downBehindDrawn : ByteArray := prog_4_method_6_code
def yX2_downBehindDrawn : MethodName := ⟨RX2, "downBehindDrawn", "(LCoconutShies$Booth;I)I"⟩
def RX3 : String := "CoconutShies$Parties"
def TX3 : u_T := fun k => match k with
  | 0 => ("CoconutShies$Parties", "worthToOne", "[I", true)
  | 1 => ("CoconutShies$Parties", "worthToOther", "[I", true)
  | 2 => ("CoconutShies$Parties", "tried", "LCoconutShies$Stand;", true)
  | 3 => ("CoconutShies$Parties", "count", "I", false)
  | _ => ("CoconutShies$Parties", "first", "I", false)
def tyX3 : Nat → FieldType := fun k => match k with
  | 0 => .array .int
  | 1 => .array .int
  | 2 => .object "CoconutShies$Stand"
  | 3 => .int
  | _ => .int
abbrev wsX30 : List Cond := u_ws RX3 TX3 5
theorem nmX3 : ∀ a, a < 5 → ∀ b, b < 5 → a ≠ b → (TX3 a).2.1 ≠ (TX3 b).2.1 := by decide +kernel
theorem tyX3_ok : ∀ k, k < 5 → parseFieldDescriptor (TX3 k).2.2.1 = some (tyX3 k) := by decide +kernel
abbrev cX3_init : ByteArray := prog_5_method_1_code
def yX3_init : MethodName := ⟨RX3, "<init>", "()V"⟩
abbrev cX3_settle : ByteArray := prog_5_method_2_code
def yX3_settle : MethodName := ⟨RX3, "settle", "(LCoconutShies$Booth;LCoconutShies$Stand;)V"⟩
abbrev cX3_weigh : ByteArray := prog_5_method_3_code
def yX3_weigh : MethodName := ⟨RX3, "weigh", "(LCoconutShies$Booth;LCoconutShies$Stand;II)V"⟩
abbrev cX3_costOf : ByteArray := prog_5_method_4_code
def yX3_costOf : MethodName := ⟨RX3, "costOf", "(LCoconutShies$Booth;II)I"⟩
abbrev cX3_isRest : ByteArray := prog_5_method_5_code
def yX3_isRest : MethodName := ⟨RX3, "isRest", "(III)Z"⟩
def RX4 : String := "CoconutShies$Seeker"
def TX4 : u_T := fun k => match k with
  | 0 => ("CoconutShies$Seeker", "tries", "[LCoconutShies$Stand;", true)
  | 1 => ("CoconutShies$Seeker", "mostDown", "I", false)
  | _ => ("CoconutShies$Seeker", "firstFigures", "I", false)
def tyX4 : Nat → FieldType := fun k => match k with
  | 0 => .array (.object "CoconutShies$Stand")
  | 1 => .int
  | _ => .int
abbrev wsX40 : List Cond := u_ws RX4 TX4 3
theorem nmX4 : ∀ a, a < 3 → ∀ b, b < 3 → a ≠ b → (TX4 a).2.1 ≠ (TX4 b).2.1 := by decide +kernel
theorem tyX4_ok : ∀ k, k < 3 → parseFieldDescriptor (TX4 k).2.2.1 = some (tyX4 k) := by decide +kernel
abbrev cX4_init : ByteArray := prog_6_method_1_code
def yX4_init : MethodName := ⟨RX4, "<init>", "()V"⟩
abbrev cX4_downBehind : ByteArray := prog_6_method_2_code
def yX4_downBehind : MethodName := ⟨RX4, "downBehind", "(LCoconutShies$Booth;LCoconutShies$Stand;III)I"⟩
abbrev cX4_firstRow : ByteArray := prog_6_method_3_code
def yX4_firstRow : MethodName := ⟨RX4, "firstRow", "(LCoconutShies$Booth;LCoconutShies$Stand;II)I"⟩
abbrev cX4_rowFrom : ByteArray := prog_6_method_4_code
def yX4_rowFrom : MethodName := ⟨RX4, "rowFrom", "([LCoconutShies$Stand;LCoconutShies$Booth;III)I"⟩
abbrev cX4_matchAmong : ByteArray := prog_6_method_5_code
def yX4_matchAmong : MethodName := ⟨RX4, "matchAmong", "(LCoconutShies$Booth;LCoconutShies$Stand;I)I"⟩
abbrev cX4_matchFrom : ByteArray := prog_6_method_6_code
def yX4_matchFrom : MethodName := ⟨RX4, "matchFrom", "(LCoconutShies$Seeker;LCoconutShies$Booth;III)V"⟩
abbrev cX4_weigh : ByteArray := prog_6_method_7_code
def yX4_weigh : MethodName := ⟨RX4, "weigh", "(II)V"⟩
abbrev cX4_fewestNails : ByteArray := prog_6_method_8_code
def yX4_fewestNails : MethodName := ⟨RX4, "fewestNails", "(LCoconutShies$Booth;LCoconutShies$Stand;I)I"⟩
abbrev cX4_staysUp : ByteArray := prog_6_method_9_code
def yX4_staysUp : MethodName := ⟨RX4, "staysUp", "(LCoconutShies$Booth;LCoconutShies$Stand;II)Z"⟩
abbrev cX4_firstThatCanNotBe : ByteArray := prog_6_method_10_code
def yX4_firstThatCanNotBe : MethodName := ⟨RX4, "firstThatCanNotBe", "(LCoconutShies$Booth;LCoconutShies$Stand;II)I"⟩
abbrev cX4_couldBeDone : ByteArray := prog_6_method_11_code
def yX4_couldBeDone : MethodName := ⟨RX4, "couldBeDone", "(LCoconutShies$Booth;LCoconutShies$Stand;II)Z"⟩
def RX5 : String := "CoconutShies$Sightings"
def TX5 : u_T := fun k => match k with
  | 0 => ("CoconutShies$Sightings", "husks", "[I", true)
  | 1 => ("CoconutShies$Sightings", "forces", "[I", true)
  | 2 => ("CoconutShies$Sightings", "fell", "[I", true)
  | _ => ("CoconutShies$Sightings", "count", "I", false)
def tyX5 : Nat → FieldType := fun k => match k with
  | 0 => .array .int
  | 1 => .array .int
  | 2 => .array .int
  | _ => .int
abbrev wsX50 : List Cond := u_ws RX5 TX5 4
theorem nmX5 : ∀ a, a < 4 → ∀ b, b < 4 → a ≠ b → (TX5 a).2.1 ≠ (TX5 b).2.1 := by decide +kernel
theorem tyX5_ok : ∀ k, k < 4 → parseFieldDescriptor (TX5 k).2.2.1 = some (tyX5 k) := by decide +kernel
abbrev cX5_init : ByteArray := prog_7_method_1_code
def yX5_init : MethodName := ⟨RX5, "<init>", "()V"⟩
abbrev cX5_append : ByteArray := prog_7_method_2_code
def yX5_append : MethodName := ⟨RX5, "append", "(III)Z"⟩
abbrev cX5_holdsOf : ByteArray := prog_7_method_3_code
def yX5_holdsOf : MethodName := ⟨RX5, "holdsOf", "(II)I"⟩
abbrev cX5_agree : ByteArray := prog_7_method_4_code
def yX5_agree : MethodName := ⟨RX5, "agree", "(II)Z"⟩
def RX6 : String := "CoconutShies$Slots"
def TX6 : u_T := fun k => match k with
  | 0 => ("CoconutShies$Slots", "kept", "[LCoconutShies$Stand;", true)
  | _ => ("CoconutShies$Slots", "used", "[Z", true)
def tyX6 : Nat → FieldType := fun k => match k with
  | 0 => .array (.object "CoconutShies$Stand")
  | _ => .array .boolean
abbrev wsX60 : List Cond := u_ws RX6 TX6 2
theorem nmX6 : ∀ a, a < 2 → ∀ b, b < 2 → a ≠ b → (TX6 a).2.1 ≠ (TX6 b).2.1 := by decide +kernel
theorem tyX6_ok : ∀ k, k < 2 → parseFieldDescriptor (TX6 k).2.2.1 = some (tyX6 k) := by decide +kernel
abbrev cX6_init : ByteArray := prog_8_method_1_code
def yX6_init : MethodName := ⟨RX6, "<init>", "()V"⟩
abbrev cX6_put : ByteArray := prog_8_method_2_code
def yX6_put : MethodName := ⟨RX6, "put", "(ILCoconutShies$Stand;)Z"⟩
abbrev cX6_get : ByteArray := prog_8_method_3_code
def yX6_get : MethodName := ⟨RX6, "get", "(ILCoconutShies$Stand;)Z"⟩
abbrev cX6_forgetAll : ByteArray := prog_8_method_4_code
def yX6_forgetAll : MethodName := ⟨RX6, "forgetAll", "()V"⟩
def RX7 : String := "CoconutShies$Stand"
def TX7 : u_T := fun k => match k with
  | 0 => ("CoconutShies$Stand", "loose", "[I", true)
  | 1 => ("CoconutShies$Stand", "hits", "[I", true)
  | 2 => ("CoconutShies$Stand", "down", "I", false)
  | 3 => ("CoconutShies$Stand", "halved", "I", false)
  | 4 => ("CoconutShies$Stand", "nailed", "I", false)
  | 5 => ("CoconutShies$Stand", "wind", "I", false)
  | _ => ("CoconutShies$Stand", "paid", "I", false)
def tyX7 : Nat → FieldType := fun k => match k with
  | 0 => .array .int
  | 1 => .array .int
  | 2 => .int
  | 3 => .int
  | 4 => .int
  | 5 => .int
  | _ => .int
abbrev wsX70 : List Cond := u_ws RX7 TX7 7
theorem nmX7 : ∀ a, a < 7 → ∀ b, b < 7 → a ≠ b → (TX7 a).2.1 ≠ (TX7 b).2.1 := by decide +kernel
theorem tyX7_ok : ∀ k, k < 7 → parseFieldDescriptor (TX7 k).2.2.1 = some (tyX7 k) := by decide +kernel
abbrev cX7_init : ByteArray := prog_9_method_1_code
def yX7_init : MethodName := ⟨RX7, "<init>", "()V"⟩
abbrev cX7_makeAnew : ByteArray := prog_9_method_2_code
def yX7_makeAnew : MethodName := ⟨RX7, "makeAnew", "(LCoconutShies$Booth;)V"⟩
abbrev cX7_becomeAs : ByteArray := prog_9_method_3_code
def yX7_becomeAs : MethodName := ⟨RX7, "becomeAs", "(LCoconutShies$Stand;)V"⟩
abbrev cX7_isUp : ByteArray := prog_9_method_4_code
def yX7_isUp : MethodName := ⟨RX7, "isUp", "(I)Z"⟩
abbrev cX7_howManyDown : ByteArray := prog_9_method_5_code
def yX7_howManyDown : MethodName := ⟨RX7, "howManyDown", "()I"⟩
abbrev cX7_firmness : ByteArray := prog_9_method_6_code
def yX7_firmness : MethodName := ⟨RX7, "firmness", "(LCoconutShies$Booth;I)I"⟩
abbrev cX7_setUp : ByteArray := prog_9_method_7_code
def yX7_setUp : MethodName := ⟨RX7, "setUp", "(I)Z"⟩
abbrev cX7_turnNail : ByteArray := prog_9_method_8_code
def yX7_turnNail : MethodName := ⟨RX7, "turnNail", "(I)Z"⟩
abbrev cX7_takePenny : ByteArray := prog_9_method_9_code
def yX7_takePenny : MethodName := ⟨RX7, "takePenny", "()Z"⟩
abbrev cX7_throwBy : ByteArray := prog_9_method_10_code
def yX7_throwBy : MethodName := ⟨RX7, "throwBy", "(LCoconutShies$Booth;III)I"⟩
abbrev cX7_canBeThrownAt : ByteArray := prog_9_method_11_code
def yX7_canBeThrownAt : MethodName := ⟨RX7, "canBeThrownAt", "(LCoconutShies$Booth;II)Z"⟩
abbrev cX7_strike : ByteArray := prog_9_method_12_code
def yX7_strike : MethodName := ⟨RX7, "strike", "(LCoconutShies$Booth;II)I"⟩
abbrev cX7_fall : ByteArray := prog_9_method_13_code
def yX7_fall : MethodName := ⟨RX7, "fall", "(LCoconutShies$Booth;LCoconutShies$Stand;III)I"⟩
def RX8 : String := "CoconutShies$Text"
def TX8 : u_T := fun k => match k with
  | 0 => ("CoconutShies$Text", "bytes", "[I", true)
  | _ => ("CoconutShies$Text", "length", "I", false)
def tyX8 : Nat → FieldType := fun k => match k with
  | 0 => .array .int
  | _ => .int
abbrev wsX80 : List Cond := u_ws RX8 TX8 2
theorem nmX8 : ∀ a, a < 2 → ∀ b, b < 2 → a ≠ b → (TX8 a).2.1 ≠ (TX8 b).2.1 := by decide +kernel
theorem tyX8_ok : ∀ k, k < 2 → parseFieldDescriptor (TX8 k).2.2.1 = some (tyX8 k) := by decide +kernel
abbrev cX8_init : ByteArray := prog_10_method_1_code
def yX8_init : MethodName := ⟨RX8, "<init>", "()V"⟩
abbrev cX8_append : ByteArray := prog_10_method_2_code
def yX8_append : MethodName := ⟨RX8, "append", "(I)Z"⟩
abbrev cX8_letterAt : ByteArray := prog_10_method_3_code
def yX8_letterAt : MethodName := ⟨RX8, "letterAt", "(I)I"⟩
abbrev cX8_figureAt : ByteArray := prog_10_method_4_code
def yX8_figureAt : MethodName := ⟨RX8, "figureAt", "(III)I"⟩
def RX9 : String := "CoconutShies"
def TX9 : u_T := fun k => match k with
  | 0 => ("CoconutShies", "text", "LCoconutShies$Text;", true)
  | 1 => ("CoconutShies", "stand", "LCoconutShies$Stand;", true)
  | 2 => ("CoconutShies", "acts", "LCoconutShies$Acts;", true)
  | 3 => ("CoconutShies", "sightings", "LCoconutShies$Sightings;", true)
  | 4 => ("CoconutShies", "slots", "LCoconutShies$Slots;", true)
  | 5 => ("CoconutShies", "seeker", "LCoconutShies$Seeker;", true)
  | 6 => ("CoconutShies", "parties", "LCoconutShies$Parties;", true)
  | 7 => ("CoconutShies", "chances", "LCoconutShies$Chances;", true)
  | 8 => ("CoconutShies", "booth", "LCoconutShies$Booth;", false)
  | 9 => ("CoconutShies", "draft", "LCoconutShies$Booth;", false)
  | _ => ("CoconutShies", "seedNow", "J", false)
def tyX9 : Nat → FieldType := fun k => match k with
  | 0 => .object "CoconutShies$Text"
  | 1 => .object "CoconutShies$Stand"
  | 2 => .object "CoconutShies$Acts"
  | 3 => .object "CoconutShies$Sightings"
  | 4 => .object "CoconutShies$Slots"
  | 5 => .object "CoconutShies$Seeker"
  | 6 => .object "CoconutShies$Parties"
  | 7 => .object "CoconutShies$Chances"
  | 8 => .object "CoconutShies$Booth"
  | 9 => .object "CoconutShies$Booth"
  | _ => .long
abbrev wsX90 : List Cond := u_ws RX9 TX9 11
theorem nmX9 : ∀ a, a < 11 → ∀ b, b < 11 → a ≠ b → (TX9 a).2.1 ≠ (TX9 b).2.1 := by decide +kernel
theorem tyX9_ok : ∀ k, k < 11 → parseFieldDescriptor (TX9 k).2.2.1 = some (tyX9 k) := by decide +kernel
abbrev cX9_init : ByteArray := prog_1_method_1_code
def yX9_init : MethodName := ⟨RX9, "<init>", "()V"⟩
abbrev cX9_write : ByteArray := prog_1_method_2_code
def yX9_write : MethodName := ⟨RX9, "write", "(I)I"⟩
abbrev cX9_wipe : ByteArray := prog_1_method_3_code
def yX9_wipe : MethodName := ⟨RX9, "wipe", "()I"⟩
abbrev cX9_fault : ByteArray := prog_1_method_4_code
def yX9_fault : MethodName := ⟨RX9, "fault", "()I"⟩
abbrev cX9_fair : ByteArray := prog_1_method_5_code
def yX9_fair : MethodName := ⟨RX9, "fair", "()I"⟩
abbrev cX9_about : ByteArray := prog_1_method_6_code
def yX9_about : MethodName := ⟨RX9, "about", "(I)I"⟩
abbrev cX9_husk : ByteArray := prog_1_method_7_code
def yX9_husk : MethodName := ⟨RX9, "husk", "(II)I"⟩
abbrev cX9_thrower : ByteArray := prog_1_method_8_code
def yX9_thrower : MethodName := ⟨RX9, "thrower", "(II)I"⟩
abbrev cX9_lands : ByteArray := prog_1_method_9_code
def yX9_lands : MethodName := ⟨RX9, "lands", "(III)I"⟩
abbrev cX9_toss : ByteArray := prog_1_method_10_code
def yX9_toss : MethodName := ⟨RX9, "toss", "(III)I"⟩
abbrev cX9_set : ByteArray := prog_1_method_11_code
def yX9_set : MethodName := ⟨RX9, "set", "(I)I"⟩
abbrev cX9_nail : ByteArray := prog_1_method_12_code
def yX9_nail : MethodName := ⟨RX9, "nail", "(I)I"⟩
abbrev cX9_pay : ByteArray := prog_1_method_13_code
def yX9_pay : MethodName := ⟨RX9, "pay", "()I"⟩
abbrev cX9_blow : ByteArray := prog_1_method_14_code
def yX9_blow : MethodName := ⟨RX9, "blow", "(I)I"⟩
abbrev cX9_undo : ByteArray := prog_1_method_15_code
def yX9_undo : MethodName := ⟨RX9, "undo", "()I"⟩
abbrev cX9_felled : ByteArray := prog_1_method_16_code
def yX9_felled : MethodName := ⟨RX9, "felled", "(III)I"⟩
abbrev cX9_fewest : ByteArray := prog_1_method_17_code
def yX9_fewest : MethodName := ⟨RX9, "fewest", "(IZ)I"⟩
abbrev cX9_winds : ByteArray := prog_1_method_18_code
def yX9_winds : MethodName := ⟨RX9, "winds", "(II)I"⟩
abbrev cX9_match : ByteArray := prog_1_method_19_code
def yX9_match : MethodName := ⟨RX9, "match", "(Z)I"⟩
abbrev cX9_nails : ByteArray := prog_1_method_20_code
def yX9_nails : MethodName := ⟨RX9, "nails", "(I)I"⟩
abbrev cX9_judge : ByteArray := prog_1_method_21_code
def yX9_judge : MethodName := ⟨RX9, "judge", "(II)I"⟩
abbrev cX9_share : ByteArray := prog_1_method_22_code
def yX9_share : MethodName := ⟨RX9, "share", "(IZ)I"⟩
abbrev cX9_see : ByteArray := prog_1_method_23_code
def yX9_see : MethodName := ⟨RX9, "see", "(III)I"⟩
abbrev cX9_unsee : ByteArray := prog_1_method_24_code
def yX9_unsee : MethodName := ⟨RX9, "unsee", "()I"⟩
abbrev cX9_holds : ByteArray := prog_1_method_25_code
def yX9_holds : MethodName := ⟨RX9, "holds", "(I)I"⟩
abbrev cX9_rests : ByteArray := prog_1_method_26_code
def yX9_rests : MethodName := ⟨RX9, "rests", "(I)I"⟩
abbrev cX9_odds : ByteArray := prog_1_method_27_code
def yX9_odds : MethodName := ⟨RX9, "odds", "(IIIIIZ)I"⟩
abbrev cX9_seed : ByteArray := prog_1_method_28_code
def yX9_seed : MethodName := ⟨RX9, "seed", "(J)J"⟩
abbrev cX9_fairs : ByteArray := prog_1_method_29_code
def yX9_fairs : MethodName := ⟨RX9, "fairs", "(I)I"⟩
abbrev cX9_keep : ByteArray := prog_1_method_30_code
def yX9_keep : MethodName := ⟨RX9, "keep", "(I)I"⟩
abbrev cX9_again : ByteArray := prog_1_method_31_code
def yX9_again : MethodName := ⟨RX9, "again", "(I)I"⟩
abbrev cX9_refusalOfThrow : ByteArray := prog_1_method_32_code
def yX9_refusalOfThrow : MethodName := ⟨RX9, "refusalOfThrow", "(III)I"⟩
abbrev cX9_isPlace : ByteArray := prog_1_method_33_code
def yX9_isPlace : MethodName := ⟨RX9, "isPlace", "(I)Z"⟩
abbrev cX9_bit : ByteArray := prog_1_method_34_code
def yX9_bit : MethodName := ⟨RX9, "bit", "(II)I"⟩
abbrev cX9_newStands : ByteArray := prog_1_method_35_code
def yX9_newStands : MethodName := ⟨RX9, "newStands", "(I)[LCoconutShies$Stand;"⟩
abbrev cX9_ordersOf : ByteArray := prog_1_method_36_code
def yX9_ordersOf : MethodName := ⟨RX9, "ordersOf", "(I)I"⟩
abbrev cX9_hundreds : ByteArray := prog_1_method_37_code
def yX9_hundreds : MethodName := ⟨RX9, "hundreds", "(I)I"⟩
abbrev cX9_inLeastTerms : ByteArray := prog_1_method_38_code
def yX9_inLeastTerms : MethodName := ⟨RX9, "inLeastTerms", "(IIZ)I"⟩
abbrev cX9_commonDivisor : ByteArray := prog_1_method_39_code
def yX9_commonDivisor : MethodName := ⟨RX9, "commonDivisor", "(II)I"⟩
def RX10 : String := "CoconutShiesModel"
def TX10 : u_T := fun k => match k with
  | 0 => ("CoconutShiesModel", "thrown", "I", false)
  | 1 => ("CoconutShiesModel", "text", "[I", true)
  | 2 => ("CoconutShiesModel", "textSize", "I", false)
  | 3 => ("CoconutShiesModel", "place", "I", false)
  | 4 => ("CoconutShiesModel", "husks", "I", false)
  | 5 => ("CoconutShiesModel", "husk", "[I", true)
  | 6 => ("CoconutShiesModel", "throwers", "I", false)
  | 7 => ("CoconutShiesModel", "thrower", "[I", true)
  | 8 => ("CoconutShiesModel", "laws", "I", false)
  | 9 => ("CoconutShiesModel", "law", "[I", true)
  | 10 => ("CoconutShiesModel", "readWind", "I", false)
  | 11 => ("CoconutShiesModel", "readPaid", "I", false)
  | 12 => ("CoconutShiesModel", "readHusks", "I", false)
  | 13 => ("CoconutShiesModel", "readHusk", "[I", true)
  | 14 => ("CoconutShiesModel", "readThrowers", "I", false)
  | 15 => ("CoconutShiesModel", "readThrower", "[I", true)
  | 16 => ("CoconutShiesModel", "readLaws", "I", false)
  | 17 => ("CoconutShiesModel", "readLaw", "[I", true)
  | 18 => ("CoconutShiesModel", "page", "[I", true)
  | 19 => ("CoconutShiesModel", "trial", "[I", true)
  | 20 => ("CoconutShiesModel", "base", "[I", true)
  | 21 => ("CoconutShiesModel", "book", "[I", true)
  | 22 => ("CoconutShiesModel", "acts", "I", false)
  | 23 => ("CoconutShiesModel", "kept", "[I", true)
  | 24 => ("CoconutShiesModel", "isKept", "[Z", true)
  | 25 => ("CoconutShiesModel", "seen", "I", false)
  | 26 => ("CoconutShiesModel", "seenHusk", "[I", true)
  | 27 => ("CoconutShiesModel", "seenForce", "[I", true)
  | 28 => ("CoconutShiesModel", "seenFell", "[I", true)
  | 29 => ("CoconutShiesModel", "seed", "J", false)
  | 30 => ("CoconutShiesModel", "fell", "I", false)
  | 31 => ("CoconutShiesModel", "heapHusk", "[I", true)
  | 32 => ("CoconutShiesModel", "heapLaw", "[I", true)
  | 33 => ("CoconutShiesModel", "fewMany", "I", false)
  | 34 => ("CoconutShiesModel", "fewRow", "I", false)
  | 35 => ("CoconutShiesModel", "matchMany", "I", false)
  | 36 => ("CoconutShiesModel", "matchRow", "I", false)
  | 37 => ("CoconutShiesModel", "restMany", "I", false)
  | 38 => ("CoconutShiesModel", "restFirst", "I", false)
  | 39 => ("CoconutShiesModel", "worth", "[I", true)
  | _ => ("CoconutShiesModel", "value", "[I", true)
def tyX10 : Nat → FieldType := fun k => match k with
  | 0 => .int
  | 1 => .array .int
  | 2 => .int
  | 3 => .int
  | 4 => .int
  | 5 => .array .int
  | 6 => .int
  | 7 => .array .int
  | 8 => .int
  | 9 => .array .int
  | 10 => .int
  | 11 => .int
  | 12 => .int
  | 13 => .array .int
  | 14 => .int
  | 15 => .array .int
  | 16 => .int
  | 17 => .array .int
  | 18 => .array .int
  | 19 => .array .int
  | 20 => .array .int
  | 21 => .array .int
  | 22 => .int
  | 23 => .array .int
  | 24 => .array .boolean
  | 25 => .int
  | 26 => .array .int
  | 27 => .array .int
  | 28 => .array .int
  | 29 => .long
  | 30 => .int
  | 31 => .array .int
  | 32 => .array .int
  | 33 => .int
  | 34 => .int
  | 35 => .int
  | 36 => .int
  | 37 => .int
  | 38 => .int
  | 39 => .array .int
  | _ => .array .int
abbrev wsX100 : List Cond := u_ws RX10 TX10 41
theorem nmX10 : ∀ a, a < 41 → ∀ b, b < 41 → a ≠ b → (TX10 a).2.1 ≠ (TX10 b).2.1 := by decide +kernel
theorem tyX10_ok : ∀ k, k < 41 → parseFieldDescriptor (TX10 k).2.2.1 = some (tyX10 k) := by decide +kernel
abbrev cX10_init : ByteArray := prog_12_method_1_code
def yX10_init : MethodName := ⟨RX10, "<init>", "()V"⟩
abbrev cX10_in : ByteArray := prog_12_method_3_code
def yX10_in : MethodName := ⟨RX10, "in", "(JJJ)Z"⟩
abbrev cX10_has : ByteArray := prog_12_method_4_code
def yX10_has : MethodName := ⟨RX10, "has", "(II)Z"⟩
abbrev cX10_many : ByteArray := prog_12_method_5_code
def yX10_many : MethodName := ⟨RX10, "many", "(I)I"⟩
abbrev cX10_noHusk : ByteArray := prog_12_method_6_code
def yX10_noHusk : MethodName := ⟨RX10, "noHusk", "(I)Z"⟩
abbrev cX10_noThrower : ByteArray := prog_12_method_7_code
def yX10_noThrower : MethodName := ⟨RX10, "noThrower", "(I)Z"⟩
abbrev cX10_write : ByteArray := prog_12_method_8_code
def yX10_write : MethodName := ⟨RX10, "write", "(I)I"⟩
abbrev cX10_wipe : ByteArray := prog_12_method_9_code
def yX10_wipe : MethodName := ⟨RX10, "wipe", "()I"⟩
abbrev cX10_figure : ByteArray := prog_12_method_10_code
def yX10_figure : MethodName := ⟨RX10, "figure", "(II)I"⟩
abbrev cX10_readPlace : ByteArray := prog_12_method_11_code
def yX10_readPlace : MethodName := ⟨RX10, "readPlace", "()I"⟩
abbrev cX10_readOneHusk : ByteArray := prog_12_method_12_code
def yX10_readOneHusk : MethodName := ⟨RX10, "readOneHusk", "()Z"⟩
abbrev cX10_readOneThrower : ByteArray := prog_12_method_13_code
def yX10_readOneThrower : MethodName := ⟨RX10, "readOneThrower", "()Z"⟩
abbrev cX10_readOneLaw : ByteArray := prog_12_method_14_code
def yX10_readOneLaw : MethodName := ⟨RX10, "readOneLaw", "()Z"⟩
abbrev cX10_readPart : ByteArray := prog_12_method_15_code
def yX10_readPart : MethodName := ⟨RX10, "readPart", "()Z"⟩
abbrev cX10_readFair : ByteArray := prog_12_method_16_code
def yX10_readFair : MethodName := ⟨RX10, "readFair", "()I"⟩
abbrev cX10_fault : ByteArray := prog_12_method_17_code
def yX10_fault : MethodName := ⟨RX10, "fault", "()I"⟩
abbrev cX10_copyRow : ByteArray := prog_12_method_18_code
def yX10_copyRow : MethodName := ⟨RX10, "copyRow", "([I[II)V"⟩
abbrev cX10_fair : ByteArray := prog_12_method_19_code
def yX10_fair : MethodName := ⟨RX10, "fair", "()I"⟩
abbrev cX10_firm : ByteArray := prog_12_method_20_code
def yX10_firm : MethodName := ⟨RX10, "firm", "([II)I"⟩
abbrev cX10_blows : ByteArray := prog_12_method_21_code
def yX10_blows : MethodName := ⟨RX10, "blows", "([II)I"⟩
abbrev cX10_force : ByteArray := prog_12_method_22_code
def yX10_force : MethodName := ⟨RX10, "force", "(I)I"⟩
abbrev cX10_landing : ByteArray := prog_12_method_23_code
def yX10_landing : MethodName := ⟨RX10, "landing", "([IIII)I"⟩
abbrev cX10_huskAt : ByteArray := prog_12_method_24_code
def yX10_huskAt : MethodName := ⟨RX10, "huskAt", "(I)I"⟩
abbrev cX10_stand : ByteArray := prog_12_method_25_code
def yX10_stand : MethodName := ⟨RX10, "stand", "([II)V"⟩
abbrev cX10_fall : ByteArray := prog_12_method_26_code
def yX10_fall : MethodName := ⟨RX10, "fall", "([II)V"⟩
abbrev cX10_goThrow : ByteArray := prog_12_method_27_code
def yX10_goThrow : MethodName := ⟨RX10, "goThrow", "([IIII)V"⟩
abbrev cX10_placeAt : ByteArray := prog_12_method_28_code
def yX10_placeAt : MethodName := ⟨RX10, "placeAt", "([III)I"⟩
abbrev cX10_about : ByteArray := prog_12_method_29_code
def yX10_about : MethodName := ⟨RX10, "about", "(I)I"⟩
abbrev cX10_husk : ByteArray := prog_12_method_30_code
def yX10_husk : MethodName := ⟨RX10, "husk", "(II)I"⟩
abbrev cX10_thrower : ByteArray := prog_12_method_31_code
def yX10_thrower : MethodName := ⟨RX10, "thrower", "(II)I"⟩
abbrev cX10_noThrow : ByteArray := prog_12_method_32_code
def yX10_noThrow : MethodName := ⟨RX10, "noThrow", "(III)I"⟩
abbrev cX10_lands : ByteArray := prog_12_method_33_code
def yX10_lands : MethodName := ⟨RX10, "lands", "(III)I"⟩
abbrev cX10_note : ByteArray := prog_12_method_34_code
def yX10_note : MethodName := ⟨RX10, "note", "()V"⟩
abbrev cX10_toss : ByteArray := prog_12_method_35_code
def yX10_toss : MethodName := ⟨RX10, "toss", "(III)I"⟩
abbrev cX10_set : ByteArray := prog_12_method_36_code
def yX10_set : MethodName := ⟨RX10, "set", "(I)I"⟩
abbrev cX10_nail : ByteArray := prog_12_method_37_code
def yX10_nail : MethodName := ⟨RX10, "nail", "(I)I"⟩
abbrev cX10_paidMore : ByteArray := prog_12_method_38_code
def yX10_paidMore : MethodName := ⟨RX10, "paidMore", "(I)I"⟩
abbrev cX10_pay : ByteArray := prog_12_method_39_code
def yX10_pay : MethodName := ⟨RX10, "pay", "()I"⟩
abbrev cX10_blow : ByteArray := prog_12_method_40_code
def yX10_blow : MethodName := ⟨RX10, "blow", "(I)I"⟩
abbrev cX10_undo : ByteArray := prog_12_method_41_code
def yX10_undo : MethodName := ⟨RX10, "undo", "()I"⟩
abbrev cX10_felled : ByteArray := prog_12_method_42_code
def yX10_felled : MethodName := ⟨RX10, "felled", "(III)I"⟩
abbrev cX10_power : ByteArray := prog_12_method_43_code
def yX10_power : MethodName := ⟨RX10, "power", "(II)I"⟩
abbrev cX10_throwsAt : ByteArray := prog_12_method_44_code
def yX10_throwsAt : MethodName := ⟨RX10, "throwsAt", "(II)Z"⟩
abbrev cX10_findFewest : ByteArray := prog_12_method_45_code
def yX10_findFewest : MethodName := ⟨RX10, "findFewest", "(I)V"⟩
abbrev cX10_fewest : ByteArray := prog_12_method_46_code
def yX10_fewest : MethodName := ⟨RX10, "fewest", "(IZ)I"⟩
abbrev cX10_winds : ByteArray := prog_12_method_47_code
def yX10_winds : MethodName := ⟨RX10, "winds", "(II)I"⟩
abbrev cX10_findMatch : ByteArray := prog_12_method_48_code
def yX10_findMatch : MethodName := ⟨RX10, "findMatch", "(I)V"⟩
abbrev cX10_match : ByteArray := prog_12_method_49_code
def yX10_match : MethodName := ⟨RX10, "match", "(Z)I"⟩
abbrev cX10_holdsUp : ByteArray := prog_12_method_50_code
def yX10_holdsUp : MethodName := ⟨RX10, "holdsUp", "(I)Z"⟩
abbrev cX10_nails : ByteArray := prog_12_method_51_code
def yX10_nails : MethodName := ⟨RX10, "nails", "(I)I"⟩
abbrev cX10_does : ByteArray := prog_12_method_52_code
def yX10_does : MethodName := ⟨RX10, "does", "(I)Z"⟩
abbrev cX10_judge : ByteArray := prog_12_method_53_code
def yX10_judge : MethodName := ⟨RX10, "judge", "(II)I"⟩
abbrev cX10_ways : ByteArray := prog_12_method_54_code
def yX10_ways : MethodName := ⟨RX10, "ways", "(I)I"⟩
abbrev cX10_divisor : ByteArray := prog_12_method_55_code
def yX10_divisor : MethodName := ⟨RX10, "divisor", "(II)I"⟩
abbrev cX10_fraction : ByteArray := prog_12_method_56_code
def yX10_fraction : MethodName := ⟨RX10, "fraction", "(IIZ)I"⟩
abbrev cX10_share : ByteArray := prog_12_method_57_code
def yX10_share : MethodName := ⟨RX10, "share", "(IZ)I"⟩
abbrev cX10_see : ByteArray := prog_12_method_58_code
def yX10_see : MethodName := ⟨RX10, "see", "(III)I"⟩
abbrev cX10_unsee : ByteArray := prog_12_method_59_code
def yX10_unsee : MethodName := ⟨RX10, "unsee", "()I"⟩
abbrev cX10_holds : ByteArray := prog_12_method_60_code
def yX10_holds : MethodName := ⟨RX10, "holds", "(I)I"⟩
abbrev cX10_layWorth : ByteArray := prog_12_method_61_code
def yX10_layWorth : MethodName := ⟨RX10, "layWorth", "(II)V"⟩
abbrev cX10_findRests : ByteArray := prog_12_method_62_code
def yX10_findRests : MethodName := ⟨RX10, "findRests", "()V"⟩
abbrev cX10_rests : ByteArray := prog_12_method_63_code
def yX10_rests : MethodName := ⟨RX10, "rests", "(I)I"⟩
abbrev cX10_odds : ByteArray := prog_12_method_64_code
def yX10_odds : MethodName := ⟨RX10, "odds", "(IIIIIZ)I"⟩
abbrev cX10_seed : ByteArray := prog_12_method_65_code
def yX10_seed : MethodName := ⟨RX10, "seed", "(J)J"⟩
abbrev cX10_fairs : ByteArray := prog_12_method_66_code
def yX10_fairs : MethodName := ⟨RX10, "fairs", "(I)I"⟩
abbrev cX10_keep : ByteArray := prog_12_method_67_code
def yX10_keep : MethodName := ⟨RX10, "keep", "(I)I"⟩
abbrev cX10_again : ByteArray := prog_12_method_68_code
def yX10_again : MethodName := ⟨RX10, "again", "(I)I"⟩
def RJ6 : String := "java/lang/Integer"
abbrev cJ6_bitCount_0f7a4 : ByteArray := prog_13_method_49_code
def yJ6_bitCount_0f7a4 : MethodName := ⟨RJ6, "bitCount", "(I)I"⟩
def RJ9 : String := "java/lang/Math"
abbrev cJ9_max_7cf53 : ByteArray := prog_14_method_65_code
def yJ9_max_7cf53 : MethodName := ⟨RJ9, "max", "(II)I"⟩
abbrev cJ9_min_7cf53 : ByteArray := prog_14_method_69_code
def yJ9_min_7cf53 : MethodName := ⟨RJ9, "min", "(II)I"⟩
def RJ10 : String := "java/lang/System"
def RL : String := "CoconutShiesLaw"
abbrev cL_law : ByteArray := code
def yL_law : MethodName := ⟨RL, "law", "([I)Z"⟩
abbrev vwCl : List vw_C := [(RX0, TX0, 3), (RX1, TX1, 14), (RX2, TX2, 4), (RX3, TX3, 5), (RX4, TX4, 3), (RX5, TX5, 4), (RX6, TX6, 2), (RX7, TX7, 7), (RX8, TX8, 2), (RX9, TX9, 11), (RX10, TX10, 41)]
end
section
theorem dX0_init_0 : decode cX0_init 0 = .ok (.aload_n 0, 1) := by decide +kernel
theorem dX0_init_1 : decode cX0_init 1 = .ok (.invokespecial 3, 3) := by decide +kernel
theorem dX0_init_4 : decode cX0_init 4 = .ok (.aload_n 0, 1) := by decide +kernel
theorem dX0_init_5 : decode cX0_init 5 = .ok (.bipush 14, 2) := by decide +kernel
theorem dX0_init_7 : decode cX0_init 7 = .ok (.invokestatic 9, 3) := by decide +kernel
theorem dX0_init_10 : decode cX0_init 10 = .ok (.putfield 13, 3) := by decide +kernel
theorem dX0_init_13 : decode cX0_init 13 = .ok (.aload_n 0, 1) := by decide +kernel
theorem dX0_init_14 : decode cX0_init 14 = .ok (.iconst 0, 1) := by decide +kernel
theorem dX0_init_15 : decode cX0_init 15 = .ok (.putfield 19, 3) := by decide +kernel
theorem dX0_init_18 : decode cX0_init 18 = .ok (.aload_n 0, 1) := by decide +kernel
theorem dX0_init_19 : decode cX0_init 19 = .ok (.iconst 0, 1) := by decide +kernel
theorem dX0_init_20 : decode cX0_init 20 = .ok (.putfield 23, 3) := by decide +kernel
theorem dX0_init_23 : decode cX0_init 23 = .ok (.return_, 1) := by decide +kernel
theorem dX0_remember_0 : decode cX0_remember 0 = .ok (.aload_n 0, 1) := by decide +kernel
theorem dX0_remember_1 : decode cX0_remember 1 = .ok (.getfield 13, 3) := by decide +kernel
theorem dX0_remember_4 : decode cX0_remember 4 = .ok (.aload_n 0, 1) := by decide +kernel
theorem dX0_remember_5 : decode cX0_remember 5 = .ok (.getfield 19, 3) := by decide +kernel
theorem dX0_remember_8 : decode cX0_remember 8 = .ok (.aload_n 0, 1) := by decide +kernel
theorem dX0_remember_9 : decode cX0_remember 9 = .ok (.getfield 23, 3) := by decide +kernel
theorem dX0_remember_12 : decode cX0_remember 12 = .ok (.iadd, 1) := by decide +kernel
theorem dX0_remember_13 : decode cX0_remember 13 = .ok (.bipush 14, 2) := by decide +kernel
theorem dX0_remember_15 : decode cX0_remember 15 = .ok (.irem, 1) := by decide +kernel
theorem dX0_remember_16 : decode cX0_remember 16 = .ok (.aaload, 1) := by decide +kernel
theorem dX0_remember_17 : decode cX0_remember 17 = .ok (.aload_n 1, 1) := by decide +kernel
theorem dX0_remember_18 : decode cX0_remember 18 = .ok (.invokevirtual 26, 3) := by decide +kernel
theorem dX0_remember_21 : decode cX0_remember 21 = .ok (.aload_n 0, 1) := by decide +kernel
theorem dX0_remember_22 : decode cX0_remember 22 = .ok (.getfield 23, 3) := by decide +kernel
theorem dX0_remember_25 : decode cX0_remember 25 = .ok (.bipush 14, 2) := by decide +kernel
theorem dX0_remember_27 : decode cX0_remember 27 = .ok (.if_icmp .ge 16, 3) := by decide +kernel
theorem dX0_remember_30 : decode cX0_remember 30 = .ok (.aload_n 0, 1) := by decide +kernel
theorem dX0_remember_31 : decode cX0_remember 31 = .ok (.dup, 1) := by decide +kernel
theorem dX0_remember_32 : decode cX0_remember 32 = .ok (.getfield 23, 3) := by decide +kernel
theorem dX0_remember_35 : decode cX0_remember 35 = .ok (.iconst 1, 1) := by decide +kernel
theorem dX0_remember_36 : decode cX0_remember 36 = .ok (.iadd, 1) := by decide +kernel
theorem dX0_remember_37 : decode cX0_remember 37 = .ok (.putfield 23, 3) := by decide +kernel
theorem dX0_remember_40 : decode cX0_remember 40 = .ok (.goto 16, 3) := by decide +kernel
theorem dX0_remember_43 : decode cX0_remember 43 = .ok (.aload_n 0, 1) := by decide +kernel
theorem dX0_remember_44 : decode cX0_remember 44 = .ok (.aload_n 0, 1) := by decide +kernel
theorem dX0_remember_45 : decode cX0_remember 45 = .ok (.getfield 19, 3) := by decide +kernel
theorem dX0_remember_48 : decode cX0_remember 48 = .ok (.iconst 1, 1) := by decide +kernel
theorem dX0_remember_49 : decode cX0_remember 49 = .ok (.iadd, 1) := by decide +kernel
theorem dX0_remember_50 : decode cX0_remember 50 = .ok (.bipush 14, 2) := by decide +kernel
theorem dX0_remember_52 : decode cX0_remember 52 = .ok (.irem, 1) := by decide +kernel
theorem dX0_remember_53 : decode cX0_remember 53 = .ok (.putfield 19, 3) := by decide +kernel
theorem dX0_remember_56 : decode cX0_remember 56 = .ok (.return_, 1) := by decide +kernel
theorem dX0_takeBack_0 : decode cX0_takeBack 0 = .ok (.aload_n 0, 1) := by decide +kernel
theorem dX0_takeBack_1 : decode cX0_takeBack 1 = .ok (.getfield 23, 3) := by decide +kernel
theorem dX0_takeBack_4 : decode cX0_takeBack 4 = .ok (.ifCond .ne 5, 3) := by decide +kernel
theorem dX0_takeBack_7 : decode cX0_takeBack 7 = .ok (.iconst 0, 1) := by decide +kernel
theorem dX0_takeBack_8 : decode cX0_takeBack 8 = .ok (.ireturn, 1) := by decide +kernel
theorem dX0_takeBack_9 : decode cX0_takeBack 9 = .ok (.aload_n 0, 1) := by decide +kernel
theorem dX0_takeBack_10 : decode cX0_takeBack 10 = .ok (.dup, 1) := by decide +kernel
theorem dX0_takeBack_11 : decode cX0_takeBack 11 = .ok (.getfield 23, 3) := by decide +kernel
theorem dX0_takeBack_14 : decode cX0_takeBack 14 = .ok (.iconst 1, 1) := by decide +kernel
theorem dX0_takeBack_15 : decode cX0_takeBack 15 = .ok (.isub, 1) := by decide +kernel
theorem dX0_takeBack_16 : decode cX0_takeBack 16 = .ok (.putfield 23, 3) := by decide +kernel
theorem dX0_takeBack_19 : decode cX0_takeBack 19 = .ok (.aload_n 1, 1) := by decide +kernel
theorem dX0_takeBack_20 : decode cX0_takeBack 20 = .ok (.aload_n 0, 1) := by decide +kernel
theorem dX0_takeBack_21 : decode cX0_takeBack 21 = .ok (.getfield 13, 3) := by decide +kernel
theorem dX0_takeBack_24 : decode cX0_takeBack 24 = .ok (.aload_n 0, 1) := by decide +kernel
theorem dX0_takeBack_25 : decode cX0_takeBack 25 = .ok (.getfield 19, 3) := by decide +kernel
theorem dX0_takeBack_28 : decode cX0_takeBack 28 = .ok (.aload_n 0, 1) := by decide +kernel
theorem dX0_takeBack_29 : decode cX0_takeBack 29 = .ok (.getfield 23, 3) := by decide +kernel
theorem dX0_takeBack_32 : decode cX0_takeBack 32 = .ok (.iadd, 1) := by decide +kernel
theorem dX0_takeBack_33 : decode cX0_takeBack 33 = .ok (.bipush 14, 2) := by decide +kernel
theorem dX0_takeBack_35 : decode cX0_takeBack 35 = .ok (.irem, 1) := by decide +kernel
theorem dX0_takeBack_36 : decode cX0_takeBack 36 = .ok (.aaload, 1) := by decide +kernel
theorem dX0_takeBack_37 : decode cX0_takeBack 37 = .ok (.invokevirtual 26, 3) := by decide +kernel
theorem dX0_takeBack_40 : decode cX0_takeBack 40 = .ok (.iconst 1, 1) := by decide +kernel
theorem dX0_takeBack_41 : decode cX0_takeBack 41 = .ok (.ireturn, 1) := by decide +kernel
theorem dX0_forgetAll_0 : decode cX0_forgetAll 0 = .ok (.aload_n 0, 1) := by decide +kernel
theorem dX0_forgetAll_1 : decode cX0_forgetAll 1 = .ok (.iconst 0, 1) := by decide +kernel
theorem dX0_forgetAll_2 : decode cX0_forgetAll 2 = .ok (.putfield 19, 3) := by decide +kernel
theorem dX0_forgetAll_5 : decode cX0_forgetAll 5 = .ok (.aload_n 0, 1) := by decide +kernel
theorem dX0_forgetAll_6 : decode cX0_forgetAll 6 = .ok (.iconst 0, 1) := by decide +kernel
theorem dX0_forgetAll_7 : decode cX0_forgetAll 7 = .ok (.putfield 23, 3) := by decide +kernel
theorem dX0_forgetAll_10 : decode cX0_forgetAll 10 = .ok (.return_, 1) := by decide +kernel
theorem dX1_init_0 : decode cX1_init 0 = .ok (.aload_n 0, 1) := by decide +kernel
theorem dX1_init_1 : decode cX1_init 1 = .ok (.invokespecial 3, 3) := by decide +kernel
theorem dX1_init_4 : decode cX1_init 4 = .ok (.aload_n 0, 1) := by decide +kernel
theorem dX1_init_5 : decode cX1_init 5 = .ok (.iconst 5, 1) := by decide +kernel
theorem dX1_init_6 : decode cX1_init 6 = .ok (.newarray .int, 2) := by decide +kernel
theorem dX1_init_8 : decode cX1_init 8 = .ok (.putfield 9, 3) := by decide +kernel
theorem dX1_init_11 : decode cX1_init 11 = .ok (.aload_n 0, 1) := by decide +kernel
theorem dX1_init_12 : decode cX1_init 12 = .ok (.iconst 5, 1) := by decide +kernel
theorem dX1_init_13 : decode cX1_init 13 = .ok (.newarray .int, 2) := by decide +kernel
theorem dX1_init_15 : decode cX1_init 15 = .ok (.putfield 15, 3) := by decide +kernel
theorem dX1_init_18 : decode cX1_init 18 = .ok (.aload_n 0, 1) := by decide +kernel
theorem dX1_init_19 : decode cX1_init 19 = .ok (.iconst 5, 1) := by decide +kernel
theorem dX1_init_20 : decode cX1_init 20 = .ok (.newarray .int, 2) := by decide +kernel
theorem dX1_init_22 : decode cX1_init 22 = .ok (.putfield 18, 3) := by decide +kernel
theorem dX1_init_25 : decode cX1_init 25 = .ok (.aload_n 0, 1) := by decide +kernel
theorem dX1_init_26 : decode cX1_init 26 = .ok (.iconst 4, 1) := by decide +kernel
theorem dX1_init_27 : decode cX1_init 27 = .ok (.newarray .int, 2) := by decide +kernel
theorem dX1_init_29 : decode cX1_init 29 = .ok (.putfield 21, 3) := by decide +kernel
theorem dX1_init_32 : decode cX1_init 32 = .ok (.aload_n 0, 1) := by decide +kernel
theorem dX1_init_33 : decode cX1_init 33 = .ok (.iconst 4, 1) := by decide +kernel
theorem dX1_init_34 : decode cX1_init 34 = .ok (.newarray .int, 2) := by decide +kernel
theorem dX1_init_36 : decode cX1_init 36 = .ok (.putfield 24, 3) := by decide +kernel
theorem dX1_init_39 : decode cX1_init 39 = .ok (.aload_n 0, 1) := by decide +kernel
theorem dX1_init_40 : decode cX1_init 40 = .ok (.iconst 4, 1) := by decide +kernel
theorem dX1_init_41 : decode cX1_init 41 = .ok (.newarray .int, 2) := by decide +kernel
theorem dX1_init_43 : decode cX1_init 43 = .ok (.putfield 27, 3) := by decide +kernel
theorem dX1_init_46 : decode cX1_init 46 = .ok (.aload_n 0, 1) := by decide +kernel
theorem dX1_init_47 : decode cX1_init 47 = .ok (.iconst 4, 1) := by decide +kernel
theorem dX1_init_48 : decode cX1_init 48 = .ok (.newarray .int, 2) := by decide +kernel
theorem dX1_init_50 : decode cX1_init 50 = .ok (.putfield 30, 3) := by decide +kernel
theorem dX1_init_53 : decode cX1_init 53 = .ok (.aload_n 0, 1) := by decide +kernel
theorem dX1_init_54 : decode cX1_init 54 = .ok (.iconst 4, 1) := by decide +kernel
theorem dX1_init_55 : decode cX1_init 55 = .ok (.newarray .int, 2) := by decide +kernel
theorem dX1_init_57 : decode cX1_init 57 = .ok (.putfield 33, 3) := by decide +kernel
theorem dX1_init_60 : decode cX1_init 60 = .ok (.aload_n 0, 1) := by decide +kernel
theorem dX1_init_61 : decode cX1_init 61 = .ok (.iconst 4, 1) := by decide +kernel
theorem dX1_init_62 : decode cX1_init 62 = .ok (.newarray .int, 2) := by decide +kernel
theorem dX1_init_64 : decode cX1_init 64 = .ok (.putfield 36, 3) := by decide +kernel
theorem dX1_init_67 : decode cX1_init 67 = .ok (.aload_n 0, 1) := by decide +kernel
theorem dX1_init_68 : decode cX1_init 68 = .ok (.iconst 0, 1) := by decide +kernel
theorem dX1_init_69 : decode cX1_init 69 = .ok (.putfield 39, 3) := by decide +kernel
theorem dX1_init_72 : decode cX1_init 72 = .ok (.aload_n 0, 1) := by decide +kernel
theorem dX1_init_73 : decode cX1_init 73 = .ok (.iconst 0, 1) := by decide +kernel
theorem dX1_init_74 : decode cX1_init 74 = .ok (.putfield 43, 3) := by decide +kernel
theorem dX1_init_77 : decode cX1_init 77 = .ok (.aload_n 0, 1) := by decide +kernel
theorem dX1_init_78 : decode cX1_init 78 = .ok (.iconst 0, 1) := by decide +kernel
theorem dX1_init_79 : decode cX1_init 79 = .ok (.putfield 46, 3) := by decide +kernel
theorem dX1_init_82 : decode cX1_init 82 = .ok (.aload_n 0, 1) := by decide +kernel
theorem dX1_init_83 : decode cX1_init 83 = .ok (.iconst 1, 1) := by decide +kernel
theorem dX1_init_84 : decode cX1_init 84 = .ok (.putfield 49, 3) := by decide +kernel
theorem dX1_init_87 : decode cX1_init 87 = .ok (.aload_n 0, 1) := by decide +kernel
theorem dX1_init_88 : decode cX1_init 88 = .ok (.iconst 0, 1) := by decide +kernel
theorem dX1_init_89 : decode cX1_init 89 = .ok (.putfield 52, 3) := by decide +kernel
theorem dX1_init_92 : decode cX1_init 92 = .ok (.return_, 1) := by decide +kernel
theorem dX1_isHusk_0 : decode cX1_isHusk 0 = .ok (.iload_n 1, 1) := by decide +kernel
theorem dX1_isHusk_1 : decode cX1_isHusk 1 = .ok (.ifCond .lt 15, 3) := by decide +kernel
theorem dX1_isHusk_4 : decode cX1_isHusk 4 = .ok (.iload_n 1, 1) := by decide +kernel
theorem dX1_isHusk_5 : decode cX1_isHusk 5 = .ok (.aload_n 0, 1) := by decide +kernel
theorem dX1_isHusk_6 : decode cX1_isHusk 6 = .ok (.getfield 39, 3) := by decide +kernel
theorem dX1_isHusk_9 : decode cX1_isHusk 9 = .ok (.if_icmp .ge 7, 3) := by decide +kernel
theorem dX1_isHusk_12 : decode cX1_isHusk 12 = .ok (.iconst 1, 1) := by decide +kernel
theorem dX1_isHusk_13 : decode cX1_isHusk 13 = .ok (.goto 4, 3) := by decide +kernel
theorem dX1_isHusk_16 : decode cX1_isHusk 16 = .ok (.iconst 0, 1) := by decide +kernel
theorem dX1_isHusk_17 : decode cX1_isHusk 17 = .ok (.ireturn, 1) := by decide +kernel
theorem dX1_isThrower_0 : decode cX1_isThrower 0 = .ok (.iload_n 1, 1) := by decide +kernel
theorem dX1_isThrower_1 : decode cX1_isThrower 1 = .ok (.ifCond .lt 15, 3) := by decide +kernel
theorem dX1_isThrower_4 : decode cX1_isThrower 4 = .ok (.iload_n 1, 1) := by decide +kernel
theorem dX1_isThrower_5 : decode cX1_isThrower 5 = .ok (.aload_n 0, 1) := by decide +kernel
theorem dX1_isThrower_6 : decode cX1_isThrower 6 = .ok (.getfield 43, 3) := by decide +kernel
theorem dX1_isThrower_9 : decode cX1_isThrower 9 = .ok (.if_icmp .ge 7, 3) := by decide +kernel
theorem dX1_isThrower_12 : decode cX1_isThrower 12 = .ok (.iconst 1, 1) := by decide +kernel
theorem dX1_isThrower_13 : decode cX1_isThrower 13 = .ok (.goto 4, 3) := by decide +kernel
theorem dX1_isThrower_16 : decode cX1_isThrower 16 = .ok (.iconst 0, 1) := by decide +kernel
theorem dX1_isThrower_17 : decode cX1_isThrower 17 = .ok (.ireturn, 1) := by decide +kernel
theorem dX1_readFrom_0 : decode cX1_readFrom 0 = .ok (.aload_n 0, 1) := by decide +kernel
theorem dX1_readFrom_1 : decode cX1_readFrom 1 = .ok (.iconst 0, 1) := by decide +kernel
theorem dX1_readFrom_2 : decode cX1_readFrom 2 = .ok (.putfield 39, 3) := by decide +kernel
theorem dX1_readFrom_5 : decode cX1_readFrom 5 = .ok (.aload_n 0, 1) := by decide +kernel
theorem dX1_readFrom_6 : decode cX1_readFrom 6 = .ok (.iconst 0, 1) := by decide +kernel
theorem dX1_readFrom_7 : decode cX1_readFrom 7 = .ok (.putfield 43, 3) := by decide +kernel
theorem dX1_readFrom_10 : decode cX1_readFrom 10 = .ok (.aload_n 0, 1) := by decide +kernel
theorem dX1_readFrom_11 : decode cX1_readFrom 11 = .ok (.iconst 0, 1) := by decide +kernel
theorem dX1_readFrom_12 : decode cX1_readFrom 12 = .ok (.putfield 46, 3) := by decide +kernel
theorem dX1_readFrom_15 : decode cX1_readFrom 15 = .ok (.aload_n 1, 1) := by decide +kernel
theorem dX1_readFrom_16 : decode cX1_readFrom 16 = .ok (.iconst 0, 1) := by decide +kernel
theorem dX1_readFrom_17 : decode cX1_readFrom 17 = .ok (.invokevirtual 55, 3) := by decide +kernel
theorem dX1_readFrom_20 : decode cX1_readFrom 20 = .ok (.bipush 83, 2) := by decide +kernel
theorem dX1_readFrom_22 : decode cX1_readFrom 22 = .ok (.if_icmp .eq 5, 3) := by decide +kernel
theorem dX1_readFrom_25 : decode cX1_readFrom 25 = .ok (.iconst 0, 1) := by decide +kernel
theorem dX1_readFrom_26 : decode cX1_readFrom 26 = .ok (.ireturn, 1) := by decide +kernel
theorem dX1_readFrom_27 : decode cX1_readFrom 27 = .ok (.aload_n 0, 1) := by decide +kernel
theorem dX1_readFrom_28 : decode cX1_readFrom 28 = .ok (.aload_n 1, 1) := by decide +kernel
theorem dX1_readFrom_29 : decode cX1_readFrom 29 = .ok (.iconst 1, 1) := by decide +kernel
theorem dX1_readFrom_30 : decode cX1_readFrom 30 = .ok (.iconst 0, 1) := by decide +kernel
theorem dX1_readFrom_31 : decode cX1_readFrom 31 = .ok (.iconst 2, 1) := by decide +kernel
theorem dX1_readFrom_32 : decode cX1_readFrom 32 = .ok (.invokevirtual 61, 3) := by decide +kernel
theorem dX1_readFrom_35 : decode cX1_readFrom 35 = .ok (.putfield 49, 3) := by decide +kernel
theorem dX1_readFrom_38 : decode cX1_readFrom 38 = .ok (.aload_n 0, 1) := by decide +kernel
theorem dX1_readFrom_39 : decode cX1_readFrom 39 = .ok (.getfield 49, 3) := by decide +kernel
theorem dX1_readFrom_42 : decode cX1_readFrom 42 = .ok (.bipush (-9), 2) := by decide +kernel
theorem dX1_readFrom_44 : decode cX1_readFrom 44 = .ok (.if_icmp .ne 5, 3) := by decide +kernel
theorem dX1_readFrom_47 : decode cX1_readFrom 47 = .ok (.iconst 1, 1) := by decide +kernel
theorem dX1_readFrom_48 : decode cX1_readFrom 48 = .ok (.ireturn, 1) := by decide +kernel
theorem dX1_readFrom_49 : decode cX1_readFrom 49 = .ok (.aload_n 0, 1) := by decide +kernel
theorem dX1_readFrom_50 : decode cX1_readFrom 50 = .ok (.aload_n 1, 1) := by decide +kernel
theorem dX1_readFrom_51 : decode cX1_readFrom 51 = .ok (.iconst 2, 1) := by decide +kernel
theorem dX1_readFrom_52 : decode cX1_readFrom 52 = .ok (.iconst 0, 1) := by decide +kernel
theorem dX1_readFrom_53 : decode cX1_readFrom 53 = .ok (.bipush 9, 2) := by decide +kernel
theorem dX1_readFrom_55 : decode cX1_readFrom 55 = .ok (.invokevirtual 61, 3) := by decide +kernel
theorem dX1_readFrom_58 : decode cX1_readFrom 58 = .ok (.putfield 52, 3) := by decide +kernel
theorem dX1_readFrom_61 : decode cX1_readFrom 61 = .ok (.aload_n 0, 1) := by decide +kernel
theorem dX1_readFrom_62 : decode cX1_readFrom 62 = .ok (.getfield 52, 3) := by decide +kernel
theorem dX1_readFrom_65 : decode cX1_readFrom 65 = .ok (.bipush (-9), 2) := by decide +kernel
theorem dX1_readFrom_67 : decode cX1_readFrom 67 = .ok (.if_icmp .ne 5, 3) := by decide +kernel
theorem dX1_readFrom_70 : decode cX1_readFrom 70 = .ok (.iconst 2, 1) := by decide +kernel
theorem dX1_readFrom_71 : decode cX1_readFrom 71 = .ok (.ireturn, 1) := by decide +kernel
theorem dX1_readFrom_72 : decode cX1_readFrom 72 = .ok (.iconst 3, 1) := by decide +kernel
theorem dX1_readFrom_73 : decode cX1_readFrom 73 = .ok (.istore_n 2, 1) := by decide +kernel
theorem dX1_readFrom_74 : decode cX1_readFrom 74 = .ok (.iload_n 2, 1) := by decide +kernel
theorem dX1_readFrom_75 : decode cX1_readFrom 75 = .ok (.aload_n 1, 1) := by decide +kernel
theorem dX1_readFrom_76 : decode cX1_readFrom 76 = .ok (.getfield 65, 3) := by decide +kernel
theorem dX1_readFrom_79 : decode cX1_readFrom 79 = .ok (.if_icmp .ge 24, 3) := by decide +kernel
theorem dX1_readFrom_82 : decode cX1_readFrom 82 = .ok (.aload_n 0, 1) := by decide +kernel
theorem dX1_readFrom_83 : decode cX1_readFrom 83 = .ok (.aload_n 1, 1) := by decide +kernel
theorem dX1_readFrom_84 : decode cX1_readFrom 84 = .ok (.iload_n 2, 1) := by decide +kernel
theorem dX1_readFrom_85 : decode cX1_readFrom 85 = .ok (.invokevirtual 68, 3) := by decide +kernel
theorem dX1_readFrom_88 : decode cX1_readFrom 88 = .ok (.istore_n 3, 1) := by decide +kernel
theorem dX1_readFrom_89 : decode cX1_readFrom 89 = .ok (.iload_n 3, 1) := by decide +kernel
theorem dX1_readFrom_90 : decode cX1_readFrom 90 = .ok (.bipush (-9), 2) := by decide +kernel
theorem dX1_readFrom_92 : decode cX1_readFrom 92 = .ok (.if_icmp .eq 5, 3) := by decide +kernel
theorem dX1_readFrom_95 : decode cX1_readFrom 95 = .ok (.iload_n 3, 1) := by decide +kernel
theorem dX1_readFrom_96 : decode cX1_readFrom 96 = .ok (.ireturn, 1) := by decide +kernel
theorem dX1_readFrom_97 : decode cX1_readFrom 97 = .ok (.iinc 2 4, 3) := by decide +kernel
theorem dX1_readFrom_100 : decode cX1_readFrom 100 = .ok (.goto (-26), 3) := by decide +kernel
theorem dX1_readFrom_103 : decode cX1_readFrom 103 = .ok (.bipush (-9), 2) := by decide +kernel
theorem dX1_readFrom_105 : decode cX1_readFrom 105 = .ok (.ireturn, 1) := by decide +kernel
theorem dX1_readPart_0 : decode cX1_readPart 0 = .ok (.aload_n 1, 1) := by decide +kernel
theorem dX1_readPart_1 : decode cX1_readPart 1 = .ok (.iload_n 2, 1) := by decide +kernel
theorem dX1_readPart_2 : decode cX1_readPart 2 = .ok (.invokevirtual 55, 3) := by decide +kernel
theorem dX1_readPart_5 : decode cX1_readPart 5 = .ok (.lookupswitch 56 #[(72, 35), (76, 49), (84, 42)], 35) := by decide +kernel
theorem dX1_readPart_40 : decode cX1_readPart 40 = .ok (.aload_n 0, 1) := by decide +kernel
theorem dX1_readPart_41 : decode cX1_readPart 41 = .ok (.aload_n 1, 1) := by decide +kernel
theorem dX1_readPart_42 : decode cX1_readPart 42 = .ok (.iload_n 2, 1) := by decide +kernel
theorem dX1_readPart_43 : decode cX1_readPart 43 = .ok (.invokevirtual 72, 3) := by decide +kernel
theorem dX1_readPart_46 : decode cX1_readPart 46 = .ok (.ireturn, 1) := by decide +kernel
theorem dX1_readPart_47 : decode cX1_readPart 47 = .ok (.aload_n 0, 1) := by decide +kernel
theorem dX1_readPart_48 : decode cX1_readPart 48 = .ok (.aload_n 1, 1) := by decide +kernel
theorem dX1_readPart_49 : decode cX1_readPart 49 = .ok (.iload_n 2, 1) := by decide +kernel
theorem dX1_readPart_50 : decode cX1_readPart 50 = .ok (.invokevirtual 75, 3) := by decide +kernel
theorem dX1_readPart_53 : decode cX1_readPart 53 = .ok (.ireturn, 1) := by decide +kernel
theorem dX1_readPart_54 : decode cX1_readPart 54 = .ok (.aload_n 0, 1) := by decide +kernel
theorem dX1_readPart_55 : decode cX1_readPart 55 = .ok (.aload_n 1, 1) := by decide +kernel
theorem dX1_readPart_56 : decode cX1_readPart 56 = .ok (.iload_n 2, 1) := by decide +kernel
theorem dX1_readPart_57 : decode cX1_readPart 57 = .ok (.invokevirtual 78, 3) := by decide +kernel
theorem dX1_readPart_60 : decode cX1_readPart 60 = .ok (.ireturn, 1) := by decide +kernel
theorem dX1_readPart_61 : decode cX1_readPart 61 = .ok (.iload_n 2, 1) := by decide +kernel
theorem dX1_readPart_62 : decode cX1_readPart 62 = .ok (.ireturn, 1) := by decide +kernel
theorem dX1_readHusk_0 : decode cX1_readHusk 0 = .ok (.aload_n 0, 1) := by decide +kernel
theorem dX1_readHusk_1 : decode cX1_readHusk 1 = .ok (.getfield 39, 3) := by decide +kernel
theorem dX1_readHusk_4 : decode cX1_readHusk 4 = .ok (.iconst 5, 1) := by decide +kernel
theorem dX1_readHusk_5 : decode cX1_readHusk 5 = .ok (.if_icmp .lt 5, 3) := by decide +kernel
theorem dX1_readHusk_8 : decode cX1_readHusk 8 = .ok (.iload_n 2, 1) := by decide +kernel
theorem dX1_readHusk_9 : decode cX1_readHusk 9 = .ok (.ireturn, 1) := by decide +kernel
theorem dX1_readHusk_10 : decode cX1_readHusk 10 = .ok (.aload_n 1, 1) := by decide +kernel
theorem dX1_readHusk_11 : decode cX1_readHusk 11 = .ok (.iload_n 2, 1) := by decide +kernel
theorem dX1_readHusk_12 : decode cX1_readHusk 12 = .ok (.iconst 1, 1) := by decide +kernel
theorem dX1_readHusk_13 : decode cX1_readHusk 13 = .ok (.iadd, 1) := by decide +kernel
theorem dX1_readHusk_14 : decode cX1_readHusk 14 = .ok (.iconst 0, 1) := by decide +kernel
theorem dX1_readHusk_15 : decode cX1_readHusk 15 = .ok (.bipush 7, 2) := by decide +kernel
theorem dX1_readHusk_17 : decode cX1_readHusk 17 = .ok (.invokevirtual 61, 3) := by decide +kernel
theorem dX1_readHusk_20 : decode cX1_readHusk 20 = .ok (.istore_n 3, 1) := by decide +kernel
theorem dX1_readHusk_21 : decode cX1_readHusk 21 = .ok (.iload_n 3, 1) := by decide +kernel
theorem dX1_readHusk_22 : decode cX1_readHusk 22 = .ok (.bipush (-9), 2) := by decide +kernel
theorem dX1_readHusk_24 : decode cX1_readHusk 24 = .ok (.if_icmp .eq 13, 3) := by decide +kernel
theorem dX1_readHusk_27 : decode cX1_readHusk 27 = .ok (.aload_n 0, 1) := by decide +kernel
theorem dX1_readHusk_28 : decode cX1_readHusk 28 = .ok (.iload_n 3, 1) := by decide +kernel
theorem dX1_readHusk_29 : decode cX1_readHusk 29 = .ok (.invokevirtual 81, 3) := by decide +kernel
theorem dX1_readHusk_32 : decode cX1_readHusk 32 = .ok (.bipush (-9), 2) := by decide +kernel
theorem dX1_readHusk_34 : decode cX1_readHusk 34 = .ok (.if_icmp .eq 7, 3) := by decide +kernel
theorem dX1_readHusk_37 : decode cX1_readHusk 37 = .ok (.iload_n 2, 1) := by decide +kernel
theorem dX1_readHusk_38 : decode cX1_readHusk 38 = .ok (.iconst 1, 1) := by decide +kernel
theorem dX1_readHusk_39 : decode cX1_readHusk 39 = .ok (.iadd, 1) := by decide +kernel
theorem dX1_readHusk_40 : decode cX1_readHusk 40 = .ok (.ireturn, 1) := by decide +kernel
theorem dX1_readHusk_41 : decode cX1_readHusk 41 = .ok (.aload_n 1, 1) := by decide +kernel
theorem dX1_readHusk_42 : decode cX1_readHusk 42 = .ok (.iload_n 2, 1) := by decide +kernel
theorem dX1_readHusk_43 : decode cX1_readHusk 43 = .ok (.iconst 2, 1) := by decide +kernel
theorem dX1_readHusk_44 : decode cX1_readHusk 44 = .ok (.iadd, 1) := by decide +kernel
theorem dX1_readHusk_45 : decode cX1_readHusk 45 = .ok (.iconst 1, 1) := by decide +kernel
theorem dX1_readHusk_46 : decode cX1_readHusk 46 = .ok (.bipush 9, 2) := by decide +kernel
theorem dX1_readHusk_48 : decode cX1_readHusk 48 = .ok (.invokevirtual 61, 3) := by decide +kernel
theorem dX1_readHusk_51 : decode cX1_readHusk 51 = .ok (.istore 4, 2) := by decide +kernel
theorem dX1_readHusk_53 : decode cX1_readHusk 53 = .ok (.iload 4, 2) := by decide +kernel
theorem dX1_readHusk_55 : decode cX1_readHusk 55 = .ok (.bipush (-9), 2) := by decide +kernel
theorem dX1_readHusk_57 : decode cX1_readHusk 57 = .ok (.if_icmp .ne 7, 3) := by decide +kernel
theorem dX1_readHusk_60 : decode cX1_readHusk 60 = .ok (.iload_n 2, 1) := by decide +kernel
theorem dX1_readHusk_61 : decode cX1_readHusk 61 = .ok (.iconst 2, 1) := by decide +kernel
theorem dX1_readHusk_62 : decode cX1_readHusk 62 = .ok (.iadd, 1) := by decide +kernel
theorem dX1_readHusk_63 : decode cX1_readHusk 63 = .ok (.ireturn, 1) := by decide +kernel
theorem dX1_readHusk_64 : decode cX1_readHusk 64 = .ok (.aload_n 1, 1) := by decide +kernel
theorem dX1_readHusk_65 : decode cX1_readHusk 65 = .ok (.iload_n 2, 1) := by decide +kernel
theorem dX1_readHusk_66 : decode cX1_readHusk 66 = .ok (.iconst 3, 1) := by decide +kernel
theorem dX1_readHusk_67 : decode cX1_readHusk 67 = .ok (.iadd, 1) := by decide +kernel
theorem dX1_readHusk_68 : decode cX1_readHusk 68 = .ok (.iconst 0, 1) := by decide +kernel
theorem dX1_readHusk_69 : decode cX1_readHusk 69 = .ok (.iconst 3, 1) := by decide +kernel
theorem dX1_readHusk_70 : decode cX1_readHusk 70 = .ok (.invokevirtual 61, 3) := by decide +kernel
theorem dX1_readHusk_73 : decode cX1_readHusk 73 = .ok (.istore 5, 2) := by decide +kernel
theorem dX1_readHusk_75 : decode cX1_readHusk 75 = .ok (.iload 5, 2) := by decide +kernel
theorem dX1_readHusk_77 : decode cX1_readHusk 77 = .ok (.bipush (-9), 2) := by decide +kernel
theorem dX1_readHusk_79 : decode cX1_readHusk 79 = .ok (.if_icmp .ne 7, 3) := by decide +kernel
theorem dX1_readHusk_82 : decode cX1_readHusk 82 = .ok (.iload_n 2, 1) := by decide +kernel
theorem dX1_readHusk_83 : decode cX1_readHusk 83 = .ok (.iconst 3, 1) := by decide +kernel
theorem dX1_readHusk_84 : decode cX1_readHusk 84 = .ok (.iadd, 1) := by decide +kernel
theorem dX1_readHusk_85 : decode cX1_readHusk 85 = .ok (.ireturn, 1) := by decide +kernel
theorem dX1_readHusk_86 : decode cX1_readHusk 86 = .ok (.aload_n 0, 1) := by decide +kernel
theorem dX1_readHusk_87 : decode cX1_readHusk 87 = .ok (.getfield 9, 3) := by decide +kernel
theorem dX1_readHusk_90 : decode cX1_readHusk 90 = .ok (.aload_n 0, 1) := by decide +kernel
theorem dX1_readHusk_91 : decode cX1_readHusk 91 = .ok (.getfield 39, 3) := by decide +kernel
theorem dX1_readHusk_94 : decode cX1_readHusk 94 = .ok (.iload_n 3, 1) := by decide +kernel
theorem dX1_readHusk_95 : decode cX1_readHusk 95 = .ok (.iastore, 1) := by decide +kernel
theorem dX1_readHusk_96 : decode cX1_readHusk 96 = .ok (.aload_n 0, 1) := by decide +kernel
theorem dX1_readHusk_97 : decode cX1_readHusk 97 = .ok (.getfield 15, 3) := by decide +kernel
theorem dX1_readHusk_100 : decode cX1_readHusk 100 = .ok (.aload_n 0, 1) := by decide +kernel
theorem dX1_readHusk_101 : decode cX1_readHusk 101 = .ok (.getfield 39, 3) := by decide +kernel
theorem dX1_readHusk_104 : decode cX1_readHusk 104 = .ok (.iload 4, 2) := by decide +kernel
theorem dX1_readHusk_106 : decode cX1_readHusk 106 = .ok (.iastore, 1) := by decide +kernel
theorem dX1_readHusk_107 : decode cX1_readHusk 107 = .ok (.aload_n 0, 1) := by decide +kernel
theorem dX1_readHusk_108 : decode cX1_readHusk 108 = .ok (.getfield 18, 3) := by decide +kernel
theorem dX1_readHusk_111 : decode cX1_readHusk 111 = .ok (.aload_n 0, 1) := by decide +kernel
theorem dX1_readHusk_112 : decode cX1_readHusk 112 = .ok (.getfield 39, 3) := by decide +kernel
theorem dX1_readHusk_115 : decode cX1_readHusk 115 = .ok (.iload 5, 2) := by decide +kernel
theorem dX1_readHusk_117 : decode cX1_readHusk 117 = .ok (.iastore, 1) := by decide +kernel
theorem dX1_readHusk_118 : decode cX1_readHusk 118 = .ok (.aload_n 0, 1) := by decide +kernel
theorem dX1_readHusk_119 : decode cX1_readHusk 119 = .ok (.dup, 1) := by decide +kernel
theorem dX1_readHusk_120 : decode cX1_readHusk 120 = .ok (.getfield 39, 3) := by decide +kernel
theorem dX1_readHusk_123 : decode cX1_readHusk 123 = .ok (.iconst 1, 1) := by decide +kernel
theorem dX1_readHusk_124 : decode cX1_readHusk 124 = .ok (.iadd, 1) := by decide +kernel
theorem dX1_readHusk_125 : decode cX1_readHusk 125 = .ok (.putfield 39, 3) := by decide +kernel
theorem dX1_readHusk_128 : decode cX1_readHusk 128 = .ok (.bipush (-9), 2) := by decide +kernel
theorem dX1_readHusk_130 : decode cX1_readHusk 130 = .ok (.ireturn, 1) := by decide +kernel
theorem dX1_readThrower_0 : decode cX1_readThrower 0 = .ok (.aload_n 0, 1) := by decide +kernel
theorem dX1_readThrower_1 : decode cX1_readThrower 1 = .ok (.getfield 43, 3) := by decide +kernel
theorem dX1_readThrower_4 : decode cX1_readThrower 4 = .ok (.iconst 4, 1) := by decide +kernel
theorem dX1_readThrower_5 : decode cX1_readThrower 5 = .ok (.if_icmp .lt 5, 3) := by decide +kernel
theorem dX1_readThrower_8 : decode cX1_readThrower 8 = .ok (.iload_n 2, 1) := by decide +kernel
theorem dX1_readThrower_9 : decode cX1_readThrower 9 = .ok (.ireturn, 1) := by decide +kernel
theorem dX1_readThrower_10 : decode cX1_readThrower 10 = .ok (.aload_n 1, 1) := by decide +kernel
theorem dX1_readThrower_11 : decode cX1_readThrower 11 = .ok (.iload_n 2, 1) := by decide +kernel
theorem dX1_readThrower_12 : decode cX1_readThrower 12 = .ok (.iconst 1, 1) := by decide +kernel
theorem dX1_readThrower_13 : decode cX1_readThrower 13 = .ok (.iadd, 1) := by decide +kernel
theorem dX1_readThrower_14 : decode cX1_readThrower 14 = .ok (.iconst 0, 1) := by decide +kernel
theorem dX1_readThrower_15 : decode cX1_readThrower 15 = .ok (.iconst 3, 1) := by decide +kernel
theorem dX1_readThrower_16 : decode cX1_readThrower 16 = .ok (.invokevirtual 61, 3) := by decide +kernel
theorem dX1_readThrower_19 : decode cX1_readThrower 19 = .ok (.istore_n 3, 1) := by decide +kernel
theorem dX1_readThrower_20 : decode cX1_readThrower 20 = .ok (.iload_n 3, 1) := by decide +kernel
theorem dX1_readThrower_21 : decode cX1_readThrower 21 = .ok (.bipush (-9), 2) := by decide +kernel
theorem dX1_readThrower_23 : decode cX1_readThrower 23 = .ok (.if_icmp .ne 7, 3) := by decide +kernel
theorem dX1_readThrower_26 : decode cX1_readThrower 26 = .ok (.iload_n 2, 1) := by decide +kernel
theorem dX1_readThrower_27 : decode cX1_readThrower 27 = .ok (.iconst 1, 1) := by decide +kernel
theorem dX1_readThrower_28 : decode cX1_readThrower 28 = .ok (.iadd, 1) := by decide +kernel
theorem dX1_readThrower_29 : decode cX1_readThrower 29 = .ok (.ireturn, 1) := by decide +kernel
theorem dX1_readThrower_30 : decode cX1_readThrower 30 = .ok (.aload_n 1, 1) := by decide +kernel
theorem dX1_readThrower_31 : decode cX1_readThrower 31 = .ok (.iload_n 2, 1) := by decide +kernel
theorem dX1_readThrower_32 : decode cX1_readThrower 32 = .ok (.iconst 2, 1) := by decide +kernel
theorem dX1_readThrower_33 : decode cX1_readThrower 33 = .ok (.iadd, 1) := by decide +kernel
theorem dX1_readThrower_34 : decode cX1_readThrower 34 = .ok (.iconst 1, 1) := by decide +kernel
theorem dX1_readThrower_35 : decode cX1_readThrower 35 = .ok (.bipush 9, 2) := by decide +kernel
theorem dX1_readThrower_37 : decode cX1_readThrower 37 = .ok (.invokevirtual 61, 3) := by decide +kernel
theorem dX1_readThrower_40 : decode cX1_readThrower 40 = .ok (.istore 4, 2) := by decide +kernel
theorem dX1_readThrower_42 : decode cX1_readThrower 42 = .ok (.iload 4, 2) := by decide +kernel
theorem dX1_readThrower_44 : decode cX1_readThrower 44 = .ok (.bipush (-9), 2) := by decide +kernel
theorem dX1_readThrower_46 : decode cX1_readThrower 46 = .ok (.if_icmp .ne 7, 3) := by decide +kernel
theorem dX1_readThrower_49 : decode cX1_readThrower 49 = .ok (.iload_n 2, 1) := by decide +kernel
theorem dX1_readThrower_50 : decode cX1_readThrower 50 = .ok (.iconst 2, 1) := by decide +kernel
theorem dX1_readThrower_51 : decode cX1_readThrower 51 = .ok (.iadd, 1) := by decide +kernel
theorem dX1_readThrower_52 : decode cX1_readThrower 52 = .ok (.ireturn, 1) := by decide +kernel
theorem dX1_readThrower_53 : decode cX1_readThrower 53 = .ok (.aload_n 1, 1) := by decide +kernel
theorem dX1_readThrower_54 : decode cX1_readThrower 54 = .ok (.iload_n 2, 1) := by decide +kernel
theorem dX1_readThrower_55 : decode cX1_readThrower 55 = .ok (.iconst 3, 1) := by decide +kernel
theorem dX1_readThrower_56 : decode cX1_readThrower 56 = .ok (.iadd, 1) := by decide +kernel
theorem dX1_readThrower_57 : decode cX1_readThrower 57 = .ok (.iconst 0, 1) := by decide +kernel
theorem dX1_readThrower_58 : decode cX1_readThrower 58 = .ok (.iconst 3, 1) := by decide +kernel
theorem dX1_readThrower_59 : decode cX1_readThrower 59 = .ok (.invokevirtual 61, 3) := by decide +kernel
theorem dX1_readThrower_62 : decode cX1_readThrower 62 = .ok (.istore 5, 2) := by decide +kernel
theorem dX1_readThrower_64 : decode cX1_readThrower 64 = .ok (.iload 5, 2) := by decide +kernel
theorem dX1_readThrower_66 : decode cX1_readThrower 66 = .ok (.bipush (-9), 2) := by decide +kernel
theorem dX1_readThrower_68 : decode cX1_readThrower 68 = .ok (.if_icmp .ne 7, 3) := by decide +kernel
theorem dX1_readThrower_71 : decode cX1_readThrower 71 = .ok (.iload_n 2, 1) := by decide +kernel
theorem dX1_readThrower_72 : decode cX1_readThrower 72 = .ok (.iconst 3, 1) := by decide +kernel
theorem dX1_readThrower_73 : decode cX1_readThrower 73 = .ok (.iadd, 1) := by decide +kernel
theorem dX1_readThrower_74 : decode cX1_readThrower 74 = .ok (.ireturn, 1) := by decide +kernel
theorem dX1_readThrower_75 : decode cX1_readThrower 75 = .ok (.aload_n 0, 1) := by decide +kernel
theorem dX1_readThrower_76 : decode cX1_readThrower 76 = .ok (.getfield 21, 3) := by decide +kernel
theorem dX1_readThrower_79 : decode cX1_readThrower 79 = .ok (.aload_n 0, 1) := by decide +kernel
theorem dX1_readThrower_80 : decode cX1_readThrower 80 = .ok (.getfield 43, 3) := by decide +kernel
theorem dX1_readThrower_83 : decode cX1_readThrower 83 = .ok (.iload_n 3, 1) := by decide +kernel
theorem dX1_readThrower_84 : decode cX1_readThrower 84 = .ok (.iastore, 1) := by decide +kernel
theorem dX1_readThrower_85 : decode cX1_readThrower 85 = .ok (.aload_n 0, 1) := by decide +kernel
theorem dX1_readThrower_86 : decode cX1_readThrower 86 = .ok (.getfield 24, 3) := by decide +kernel
theorem dX1_readThrower_89 : decode cX1_readThrower 89 = .ok (.aload_n 0, 1) := by decide +kernel
theorem dX1_readThrower_90 : decode cX1_readThrower 90 = .ok (.getfield 43, 3) := by decide +kernel
theorem dX1_readThrower_93 : decode cX1_readThrower 93 = .ok (.iload 4, 2) := by decide +kernel
theorem dX1_readThrower_95 : decode cX1_readThrower 95 = .ok (.iastore, 1) := by decide +kernel
theorem dX1_readThrower_96 : decode cX1_readThrower 96 = .ok (.aload_n 0, 1) := by decide +kernel
theorem dX1_readThrower_97 : decode cX1_readThrower 97 = .ok (.getfield 27, 3) := by decide +kernel
theorem dX1_readThrower_100 : decode cX1_readThrower 100 = .ok (.aload_n 0, 1) := by decide +kernel
theorem dX1_readThrower_101 : decode cX1_readThrower 101 = .ok (.getfield 43, 3) := by decide +kernel
theorem dX1_readThrower_104 : decode cX1_readThrower 104 = .ok (.iload 5, 2) := by decide +kernel
theorem dX1_readThrower_106 : decode cX1_readThrower 106 = .ok (.iastore, 1) := by decide +kernel
theorem dX1_readThrower_107 : decode cX1_readThrower 107 = .ok (.aload_n 0, 1) := by decide +kernel
theorem dX1_readThrower_108 : decode cX1_readThrower 108 = .ok (.dup, 1) := by decide +kernel
theorem dX1_readThrower_109 : decode cX1_readThrower 109 = .ok (.getfield 43, 3) := by decide +kernel
theorem dX1_readThrower_112 : decode cX1_readThrower 112 = .ok (.iconst 1, 1) := by decide +kernel
theorem dX1_readThrower_113 : decode cX1_readThrower 113 = .ok (.iadd, 1) := by decide +kernel
theorem dX1_readThrower_114 : decode cX1_readThrower 114 = .ok (.putfield 43, 3) := by decide +kernel
theorem dX1_readThrower_117 : decode cX1_readThrower 117 = .ok (.bipush (-9), 2) := by decide +kernel
theorem dX1_readThrower_119 : decode cX1_readThrower 119 = .ok (.ireturn, 1) := by decide +kernel
theorem dX1_readLaw_0 : decode cX1_readLaw 0 = .ok (.aload_n 0, 1) := by decide +kernel
theorem dX1_readLaw_1 : decode cX1_readLaw 1 = .ok (.getfield 46, 3) := by decide +kernel
theorem dX1_readLaw_4 : decode cX1_readLaw 4 = .ok (.iconst 4, 1) := by decide +kernel
theorem dX1_readLaw_5 : decode cX1_readLaw 5 = .ok (.if_icmp .ge 11, 3) := by decide +kernel
theorem dX1_readLaw_8 : decode cX1_readLaw 8 = .ok (.aload_n 0, 1) := by decide +kernel
theorem dX1_readLaw_9 : decode cX1_readLaw 9 = .ok (.getfield 39, 3) := by decide +kernel
theorem dX1_readLaw_12 : decode cX1_readLaw 12 = .ok (.iconst 2, 1) := by decide +kernel
theorem dX1_readLaw_13 : decode cX1_readLaw 13 = .ok (.if_icmp .ge 5, 3) := by decide +kernel
theorem dX1_readLaw_16 : decode cX1_readLaw 16 = .ok (.iload_n 2, 1) := by decide +kernel
theorem dX1_readLaw_17 : decode cX1_readLaw 17 = .ok (.ireturn, 1) := by decide +kernel
theorem dX1_readLaw_18 : decode cX1_readLaw 18 = .ok (.aload_n 1, 1) := by decide +kernel
theorem dX1_readLaw_19 : decode cX1_readLaw 19 = .ok (.iload_n 2, 1) := by decide +kernel
theorem dX1_readLaw_20 : decode cX1_readLaw 20 = .ok (.iconst 1, 1) := by decide +kernel
theorem dX1_readLaw_21 : decode cX1_readLaw 21 = .ok (.iadd, 1) := by decide +kernel
theorem dX1_readLaw_22 : decode cX1_readLaw 22 = .ok (.iconst 0, 1) := by decide +kernel
theorem dX1_readLaw_23 : decode cX1_readLaw 23 = .ok (.aload_n 0, 1) := by decide +kernel
theorem dX1_readLaw_24 : decode cX1_readLaw 24 = .ok (.getfield 39, 3) := by decide +kernel
theorem dX1_readLaw_27 : decode cX1_readLaw 27 = .ok (.iconst 1, 1) := by decide +kernel
theorem dX1_readLaw_28 : decode cX1_readLaw 28 = .ok (.isub, 1) := by decide +kernel
theorem dX1_readLaw_29 : decode cX1_readLaw 29 = .ok (.invokevirtual 61, 3) := by decide +kernel
theorem dX1_readLaw_32 : decode cX1_readLaw 32 = .ok (.istore_n 3, 1) := by decide +kernel
theorem dX1_readLaw_33 : decode cX1_readLaw 33 = .ok (.iload_n 3, 1) := by decide +kernel
theorem dX1_readLaw_34 : decode cX1_readLaw 34 = .ok (.bipush (-9), 2) := by decide +kernel
theorem dX1_readLaw_36 : decode cX1_readLaw 36 = .ok (.if_icmp .ne 7, 3) := by decide +kernel
theorem dX1_readLaw_39 : decode cX1_readLaw 39 = .ok (.iload_n 2, 1) := by decide +kernel
theorem dX1_readLaw_40 : decode cX1_readLaw 40 = .ok (.iconst 1, 1) := by decide +kernel
theorem dX1_readLaw_41 : decode cX1_readLaw 41 = .ok (.iadd, 1) := by decide +kernel
theorem dX1_readLaw_42 : decode cX1_readLaw 42 = .ok (.ireturn, 1) := by decide +kernel
theorem dX1_readLaw_43 : decode cX1_readLaw 43 = .ok (.aload_n 1, 1) := by decide +kernel
theorem dX1_readLaw_44 : decode cX1_readLaw 44 = .ok (.iload_n 2, 1) := by decide +kernel
theorem dX1_readLaw_45 : decode cX1_readLaw 45 = .ok (.iconst 2, 1) := by decide +kernel
theorem dX1_readLaw_46 : decode cX1_readLaw 46 = .ok (.iadd, 1) := by decide +kernel
theorem dX1_readLaw_47 : decode cX1_readLaw 47 = .ok (.iconst 0, 1) := by decide +kernel
theorem dX1_readLaw_48 : decode cX1_readLaw 48 = .ok (.aload_n 0, 1) := by decide +kernel
theorem dX1_readLaw_49 : decode cX1_readLaw 49 = .ok (.getfield 39, 3) := by decide +kernel
theorem dX1_readLaw_52 : decode cX1_readLaw 52 = .ok (.iconst 1, 1) := by decide +kernel
theorem dX1_readLaw_53 : decode cX1_readLaw 53 = .ok (.isub, 1) := by decide +kernel
theorem dX1_readLaw_54 : decode cX1_readLaw 54 = .ok (.invokevirtual 61, 3) := by decide +kernel
theorem dX1_readLaw_57 : decode cX1_readLaw 57 = .ok (.istore 4, 2) := by decide +kernel
theorem dX1_readLaw_59 : decode cX1_readLaw 59 = .ok (.iload 4, 2) := by decide +kernel
theorem dX1_readLaw_61 : decode cX1_readLaw 61 = .ok (.bipush (-9), 2) := by decide +kernel
theorem dX1_readLaw_63 : decode cX1_readLaw 63 = .ok (.if_icmp .eq 9, 3) := by decide +kernel
theorem dX1_readLaw_66 : decode cX1_readLaw 66 = .ok (.iload 4, 2) := by decide +kernel
theorem dX1_readLaw_68 : decode cX1_readLaw 68 = .ok (.iload_n 3, 1) := by decide +kernel
theorem dX1_readLaw_69 : decode cX1_readLaw 69 = .ok (.if_icmp .ne 7, 3) := by decide +kernel
theorem dX1_readLaw_72 : decode cX1_readLaw 72 = .ok (.iload_n 2, 1) := by decide +kernel
theorem dX1_readLaw_73 : decode cX1_readLaw 73 = .ok (.iconst 2, 1) := by decide +kernel
theorem dX1_readLaw_74 : decode cX1_readLaw 74 = .ok (.iadd, 1) := by decide +kernel
theorem dX1_readLaw_75 : decode cX1_readLaw 75 = .ok (.ireturn, 1) := by decide +kernel
theorem dX1_readLaw_76 : decode cX1_readLaw 76 = .ok (.aload_n 1, 1) := by decide +kernel
theorem dX1_readLaw_77 : decode cX1_readLaw 77 = .ok (.iload_n 2, 1) := by decide +kernel
theorem dX1_readLaw_78 : decode cX1_readLaw 78 = .ok (.iconst 3, 1) := by decide +kernel
theorem dX1_readLaw_79 : decode cX1_readLaw 79 = .ok (.iadd, 1) := by decide +kernel
theorem dX1_readLaw_80 : decode cX1_readLaw 80 = .ok (.iconst 0, 1) := by decide +kernel
theorem dX1_readLaw_81 : decode cX1_readLaw 81 = .ok (.iconst 1, 1) := by decide +kernel
theorem dX1_readLaw_82 : decode cX1_readLaw 82 = .ok (.invokevirtual 61, 3) := by decide +kernel
theorem dX1_readLaw_85 : decode cX1_readLaw 85 = .ok (.istore 5, 2) := by decide +kernel
theorem dX1_readLaw_87 : decode cX1_readLaw 87 = .ok (.iload 5, 2) := by decide +kernel
theorem dX1_readLaw_89 : decode cX1_readLaw 89 = .ok (.bipush (-9), 2) := by decide +kernel
theorem dX1_readLaw_91 : decode cX1_readLaw 91 = .ok (.if_icmp .ne 7, 3) := by decide +kernel
theorem dX1_readLaw_94 : decode cX1_readLaw 94 = .ok (.iload_n 2, 1) := by decide +kernel
theorem dX1_readLaw_95 : decode cX1_readLaw 95 = .ok (.iconst 3, 1) := by decide +kernel
theorem dX1_readLaw_96 : decode cX1_readLaw 96 = .ok (.iadd, 1) := by decide +kernel
theorem dX1_readLaw_97 : decode cX1_readLaw 97 = .ok (.ireturn, 1) := by decide +kernel
theorem dX1_readLaw_98 : decode cX1_readLaw 98 = .ok (.aload_n 0, 1) := by decide +kernel
theorem dX1_readLaw_99 : decode cX1_readLaw 99 = .ok (.getfield 30, 3) := by decide +kernel
theorem dX1_readLaw_102 : decode cX1_readLaw 102 = .ok (.aload_n 0, 1) := by decide +kernel
theorem dX1_readLaw_103 : decode cX1_readLaw 103 = .ok (.getfield 46, 3) := by decide +kernel
theorem dX1_readLaw_106 : decode cX1_readLaw 106 = .ok (.iload_n 3, 1) := by decide +kernel
theorem dX1_readLaw_107 : decode cX1_readLaw 107 = .ok (.iastore, 1) := by decide +kernel
theorem dX1_readLaw_108 : decode cX1_readLaw 108 = .ok (.aload_n 0, 1) := by decide +kernel
theorem dX1_readLaw_109 : decode cX1_readLaw 109 = .ok (.getfield 33, 3) := by decide +kernel
theorem dX1_readLaw_112 : decode cX1_readLaw 112 = .ok (.aload_n 0, 1) := by decide +kernel
theorem dX1_readLaw_113 : decode cX1_readLaw 113 = .ok (.getfield 46, 3) := by decide +kernel
theorem dX1_readLaw_116 : decode cX1_readLaw 116 = .ok (.iload 4, 2) := by decide +kernel
theorem dX1_readLaw_118 : decode cX1_readLaw 118 = .ok (.iastore, 1) := by decide +kernel
theorem dX1_readLaw_119 : decode cX1_readLaw 119 = .ok (.aload_n 0, 1) := by decide +kernel
theorem dX1_readLaw_120 : decode cX1_readLaw 120 = .ok (.getfield 36, 3) := by decide +kernel
theorem dX1_readLaw_123 : decode cX1_readLaw 123 = .ok (.aload_n 0, 1) := by decide +kernel
theorem dX1_readLaw_124 : decode cX1_readLaw 124 = .ok (.getfield 46, 3) := by decide +kernel
theorem dX1_readLaw_127 : decode cX1_readLaw 127 = .ok (.iload 5, 2) := by decide +kernel
theorem dX1_readLaw_129 : decode cX1_readLaw 129 = .ok (.iastore, 1) := by decide +kernel
theorem dX1_readLaw_130 : decode cX1_readLaw 130 = .ok (.aload_n 0, 1) := by decide +kernel
theorem dX1_readLaw_131 : decode cX1_readLaw 131 = .ok (.dup, 1) := by decide +kernel
theorem dX1_readLaw_132 : decode cX1_readLaw 132 = .ok (.getfield 46, 3) := by decide +kernel
theorem dX1_readLaw_135 : decode cX1_readLaw 135 = .ok (.iconst 1, 1) := by decide +kernel
theorem dX1_readLaw_136 : decode cX1_readLaw 136 = .ok (.iadd, 1) := by decide +kernel
theorem dX1_readLaw_137 : decode cX1_readLaw 137 = .ok (.putfield 46, 3) := by decide +kernel
theorem dX1_readLaw_140 : decode cX1_readLaw 140 = .ok (.bipush (-9), 2) := by decide +kernel
theorem dX1_readLaw_142 : decode cX1_readLaw 142 = .ok (.ireturn, 1) := by decide +kernel
theorem dX1_huskAt_0 : decode cX1_huskAt 0 = .ok (.iconst 0, 1) := by decide +kernel
theorem dX1_huskAt_1 : decode cX1_huskAt 1 = .ok (.istore_n 2, 1) := by decide +kernel
theorem dX1_huskAt_2 : decode cX1_huskAt 2 = .ok (.iload_n 2, 1) := by decide +kernel
theorem dX1_huskAt_3 : decode cX1_huskAt 3 = .ok (.aload_n 0, 1) := by decide +kernel
theorem dX1_huskAt_4 : decode cX1_huskAt 4 = .ok (.getfield 39, 3) := by decide +kernel
theorem dX1_huskAt_7 : decode cX1_huskAt 7 = .ok (.if_icmp .ge 21, 3) := by decide +kernel
theorem dX1_huskAt_10 : decode cX1_huskAt 10 = .ok (.aload_n 0, 1) := by decide +kernel
theorem dX1_huskAt_11 : decode cX1_huskAt 11 = .ok (.getfield 9, 3) := by decide +kernel
theorem dX1_huskAt_14 : decode cX1_huskAt 14 = .ok (.iload_n 2, 1) := by decide +kernel
theorem dX1_huskAt_15 : decode cX1_huskAt 15 = .ok (.iaload, 1) := by decide +kernel
theorem dX1_huskAt_16 : decode cX1_huskAt 16 = .ok (.iload_n 1, 1) := by decide +kernel
theorem dX1_huskAt_17 : decode cX1_huskAt 17 = .ok (.if_icmp .ne 5, 3) := by decide +kernel
theorem dX1_huskAt_20 : decode cX1_huskAt 20 = .ok (.iload_n 2, 1) := by decide +kernel
theorem dX1_huskAt_21 : decode cX1_huskAt 21 = .ok (.ireturn, 1) := by decide +kernel
theorem dX1_huskAt_22 : decode cX1_huskAt 22 = .ok (.iinc 2 1, 3) := by decide +kernel
theorem dX1_huskAt_25 : decode cX1_huskAt 25 = .ok (.goto (-23), 3) := by decide +kernel
theorem dX1_huskAt_28 : decode cX1_huskAt 28 = .ok (.bipush (-9), 2) := by decide +kernel
theorem dX1_huskAt_30 : decode cX1_huskAt 30 = .ok (.ireturn, 1) := by decide +kernel
theorem dX1_loosensBy_0 : decode cX1_loosensBy 0 = .ok (.aload_n 0, 1) := by decide +kernel
theorem dX1_loosensBy_1 : decode cX1_loosensBy 1 = .ok (.getfield 24, 3) := by decide +kernel
theorem dX1_loosensBy_4 : decode cX1_loosensBy 4 = .ok (.iload_n 1, 1) := by decide +kernel
theorem dX1_loosensBy_5 : decode cX1_loosensBy 5 = .ok (.iaload, 1) := by decide +kernel
theorem dX1_loosensBy_6 : decode cX1_loosensBy 6 = .ok (.aload_n 0, 1) := by decide +kernel
theorem dX1_loosensBy_7 : decode cX1_loosensBy 7 = .ok (.getfield 27, 3) := by decide +kernel
theorem dX1_loosensBy_10 : decode cX1_loosensBy 10 = .ok (.iload_n 1, 1) := by decide +kernel
theorem dX1_loosensBy_11 : decode cX1_loosensBy 11 = .ok (.iaload, 1) := by decide +kernel
theorem dX1_loosensBy_12 : decode cX1_loosensBy 12 = .ok (.iconst 3, 1) := by decide +kernel
theorem dX1_loosensBy_13 : decode cX1_loosensBy 13 = .ok (.if_icmp .ne 7, 3) := by decide +kernel
theorem dX1_loosensBy_16 : decode cX1_loosensBy 16 = .ok (.iconst 2, 1) := by decide +kernel
theorem dX1_loosensBy_17 : decode cX1_loosensBy 17 = .ok (.goto 4, 3) := by decide +kernel
theorem dX1_loosensBy_20 : decode cX1_loosensBy 20 = .ok (.iconst 0, 1) := by decide +kernel
theorem dX1_loosensBy_21 : decode cX1_loosensBy 21 = .ok (.iadd, 1) := by decide +kernel
theorem dX1_loosensBy_22 : decode cX1_loosensBy 22 = .ok (.ireturn, 1) := by decide +kernel
theorem dX1_landing_0 : decode cX1_landing 0 = .ok (.iload_n 2, 1) := by decide +kernel
theorem dX1_landing_1 : decode cX1_landing 1 = .ok (.aload_n 0, 1) := by decide +kernel
theorem dX1_landing_2 : decode cX1_landing 2 = .ok (.iload_n 1, 1) := by decide +kernel
theorem dX1_landing_3 : decode cX1_landing 3 = .ok (.iload_n 3, 1) := by decide +kernel
theorem dX1_landing_4 : decode cX1_landing 4 = .ok (.invokevirtual 84, 3) := by decide +kernel
theorem dX1_landing_7 : decode cX1_landing 7 = .ok (.iadd, 1) := by decide +kernel
theorem dX1_landing_8 : decode cX1_landing 8 = .ok (.aload_n 0, 1) := by decide +kernel
theorem dX1_landing_9 : decode cX1_landing 9 = .ok (.iload_n 1, 1) := by decide +kernel
theorem dX1_landing_10 : decode cX1_landing 10 = .ok (.iload 4, 2) := by decide +kernel
theorem dX1_landing_12 : decode cX1_landing 12 = .ok (.invokevirtual 88, 3) := by decide +kernel
theorem dX1_landing_15 : decode cX1_landing 15 = .ok (.iadd, 1) := by decide +kernel
theorem dX1_landing_16 : decode cX1_landing 16 = .ok (.istore 5, 2) := by decide +kernel
theorem dX1_landing_18 : decode cX1_landing 18 = .ok (.iload 5, 2) := by decide +kernel
theorem dX1_landing_20 : decode cX1_landing 20 = .ok (.invokestatic 91, 3) := by decide +kernel
theorem dX1_landing_23 : decode cX1_landing 23 = .ok (.ifCond .eq 8, 3) := by decide +kernel
theorem dX1_landing_26 : decode cX1_landing 26 = .ok (.iload 5, 2) := by decide +kernel
theorem dX1_landing_28 : decode cX1_landing 28 = .ok (.goto 5, 3) := by decide +kernel
theorem dX1_landing_31 : decode cX1_landing 31 = .ok (.bipush 8, 2) := by decide +kernel
theorem dX1_landing_33 : decode cX1_landing 33 = .ok (.ireturn, 1) := by decide +kernel
theorem dX1_reaches_0 : decode cX1_reaches 0 = .ok (.aload_n 0, 1) := by decide +kernel
theorem dX1_reaches_1 : decode cX1_reaches 1 = .ok (.getfield 9, 3) := by decide +kernel
theorem dX1_reaches_4 : decode cX1_reaches 4 = .ok (.iload_n 2, 1) := by decide +kernel
theorem dX1_reaches_5 : decode cX1_reaches 5 = .ok (.iaload, 1) := by decide +kernel
theorem dX1_reaches_6 : decode cX1_reaches 6 = .ok (.aload_n 0, 1) := by decide +kernel
theorem dX1_reaches_7 : decode cX1_reaches 7 = .ok (.iload_n 1, 1) := by decide +kernel
theorem dX1_reaches_8 : decode cX1_reaches 8 = .ok (.iload_n 3, 1) := by decide +kernel
theorem dX1_reaches_9 : decode cX1_reaches 9 = .ok (.invokevirtual 88, 3) := by decide +kernel
theorem dX1_reaches_12 : decode cX1_reaches 12 = .ok (.isub, 1) := by decide +kernel
theorem dX1_reaches_13 : decode cX1_reaches 13 = .ok (.invokestatic 91, 3) := by decide +kernel
theorem dX1_reaches_16 : decode cX1_reaches 16 = .ok (.ireturn, 1) := by decide +kernel
theorem dX1_astray_0 : decode cX1_astray 0 = .ok (.iload_n 2, 1) := by decide +kernel
theorem dX1_astray_1 : decode cX1_astray 1 = .ok (.ifCond .ne 5, 3) := by decide +kernel
theorem dX1_astray_4 : decode cX1_astray 4 = .ok (.iconst 0, 1) := by decide +kernel
theorem dX1_astray_5 : decode cX1_astray 5 = .ok (.ireturn, 1) := by decide +kernel
theorem dX1_astray_6 : decode cX1_astray 6 = .ok (.aload_n 0, 1) := by decide +kernel
theorem dX1_astray_7 : decode cX1_astray 7 = .ok (.getfield 21, 3) := by decide +kernel
theorem dX1_astray_10 : decode cX1_astray 10 = .ok (.iload_n 1, 1) := by decide +kernel
theorem dX1_astray_11 : decode cX1_astray 11 = .ok (.iaload, 1) := by decide +kernel
theorem dX1_astray_12 : decode cX1_astray 12 = .ok (.aload_n 0, 1) := by decide +kernel
theorem dX1_astray_13 : decode cX1_astray 13 = .ok (.getfield 27, 3) := by decide +kernel
theorem dX1_astray_16 : decode cX1_astray 16 = .ok (.iload_n 1, 1) := by decide +kernel
theorem dX1_astray_17 : decode cX1_astray 17 = .ok (.iaload, 1) := by decide +kernel
theorem dX1_astray_18 : decode cX1_astray 18 = .ok (.iconst 3, 1) := by decide +kernel
theorem dX1_astray_19 : decode cX1_astray 19 = .ok (.if_icmp .ne 7, 3) := by decide +kernel
theorem dX1_astray_22 : decode cX1_astray 22 = .ok (.iconst 1, 1) := by decide +kernel
theorem dX1_astray_23 : decode cX1_astray 23 = .ok (.goto 4, 3) := by decide +kernel
theorem dX1_astray_26 : decode cX1_astray 26 = .ok (.iconst 0, 1) := by decide +kernel
theorem dX1_astray_27 : decode cX1_astray 27 = .ok (.iadd, 1) := by decide +kernel
theorem dX1_astray_28 : decode cX1_astray 28 = .ok (.istore_n 3, 1) := by decide +kernel
theorem dX1_astray_29 : decode cX1_astray 29 = .ok (.aload_n 0, 1) := by decide +kernel
theorem dX1_astray_30 : decode cX1_astray 30 = .ok (.getfield 27, 3) := by decide +kernel
theorem dX1_astray_33 : decode cX1_astray 33 = .ok (.iload_n 1, 1) := by decide +kernel
theorem dX1_astray_34 : decode cX1_astray 34 = .ok (.iaload, 1) := by decide +kernel
theorem dX1_astray_35 : decode cX1_astray 35 = .ok (.iconst 2, 1) := by decide +kernel
theorem dX1_astray_36 : decode cX1_astray 36 = .ok (.if_icmp .ne 7, 3) := by decide +kernel
theorem dX1_astray_39 : decode cX1_astray 39 = .ok (.iconst 1, 1) := by decide +kernel
theorem dX1_astray_40 : decode cX1_astray 40 = .ok (.goto 4, 3) := by decide +kernel
theorem dX1_astray_43 : decode cX1_astray 43 = .ok (.iconst 0, 1) := by decide +kernel
theorem dX1_astray_44 : decode cX1_astray 44 = .ok (.istore 4, 2) := by decide +kernel
theorem dX1_astray_46 : decode cX1_astray 46 = .ok (.iload_n 2, 1) := by decide +kernel
theorem dX1_astray_47 : decode cX1_astray 47 = .ok (.iconst 1, 1) := by decide +kernel
theorem dX1_astray_48 : decode cX1_astray 48 = .ok (.if_icmp .ne 7, 3) := by decide +kernel
theorem dX1_astray_51 : decode cX1_astray 51 = .ok (.iconst 1, 1) := by decide +kernel
theorem dX1_astray_52 : decode cX1_astray 52 = .ok (.goto 4, 3) := by decide +kernel
theorem dX1_astray_55 : decode cX1_astray 55 = .ok (.iconst 0, 1) := by decide +kernel
theorem dX1_astray_56 : decode cX1_astray 56 = .ok (.iload 4, 2) := by decide +kernel
theorem dX1_astray_58 : decode cX1_astray 58 = .ok (.if_icmp .eq 7, 3) := by decide +kernel
theorem dX1_astray_61 : decode cX1_astray 61 = .ok (.iload_n 3, 1) := by decide +kernel
theorem dX1_astray_62 : decode cX1_astray 62 = .ok (.goto 5, 3) := by decide +kernel
theorem dX1_astray_65 : decode cX1_astray 65 = .ok (.iload_n 3, 1) := by decide +kernel
theorem dX1_astray_66 : decode cX1_astray 66 = .ok (.ineg, 1) := by decide +kernel
theorem dX1_astray_67 : decode cX1_astray 67 = .ok (.ireturn, 1) := by decide +kernel
theorem dX1_drift_0 : decode cX1_drift 0 = .ok (.aload_n 0, 1) := by decide +kernel
theorem dX1_drift_1 : decode cX1_drift 1 = .ok (.getfield 27, 3) := by decide +kernel
theorem dX1_drift_4 : decode cX1_drift 4 = .ok (.iload_n 1, 1) := by decide +kernel
theorem dX1_drift_5 : decode cX1_drift 5 = .ok (.iaload, 1) := by decide +kernel
theorem dX1_drift_6 : decode cX1_drift 6 = .ok (.iconst 1, 1) := by decide +kernel
theorem dX1_drift_7 : decode cX1_drift 7 = .ok (.if_icmp .ne 7, 3) := by decide +kernel
theorem dX1_drift_10 : decode cX1_drift 10 = .ok (.iconst 0, 1) := by decide +kernel
theorem dX1_drift_11 : decode cX1_drift 11 = .ok (.goto 6, 3) := by decide +kernel
theorem dX1_drift_14 : decode cX1_drift 14 = .ok (.iload_n 2, 1) := by decide +kernel
theorem dX1_drift_15 : decode cX1_drift 15 = .ok (.iconst 1, 1) := by decide +kernel
theorem dX1_drift_16 : decode cX1_drift 16 = .ok (.isub, 1) := by decide +kernel
theorem dX1_drift_17 : decode cX1_drift 17 = .ok (.ireturn, 1) := by decide +kernel
theorem dX2_init_0 : decode cX2_init 0 = .ok (.aload_n 0, 1) := by decide +kernel
theorem dX2_init_1 : decode cX2_init 1 = .ok (.invokespecial 3, 3) := by decide +kernel
theorem dX2_init_4 : decode cX2_init 4 = .ok (.aload_n 0, 1) := by decide +kernel
theorem dX2_init_5 : decode cX2_init 5 = .ok (.iconst 5, 1) := by decide +kernel
theorem dX2_init_6 : decode cX2_init 6 = .ok (.invokestatic 9, 3) := by decide +kernel
theorem dX2_init_9 : decode cX2_init 9 = .ok (.putfield 13, 3) := by decide +kernel
theorem dX2_init_12 : decode cX2_init 12 = .ok (.aload_n 0, 1) := by decide +kernel
theorem dX2_init_13 : decode cX2_init 13 = .ok (.iconst 0, 1) := by decide +kernel
theorem dX2_init_14 : decode cX2_init 14 = .ok (.putfield 19, 3) := by decide +kernel
theorem dX2_init_17 : decode cX2_init 17 = .ok (.aload_n 0, 1) := by decide +kernel
theorem dX2_init_18 : decode cX2_init 18 = .ok (.iconst 0, 1) := by decide +kernel
theorem dX2_init_19 : decode cX2_init 19 = .ok (.putfield 23, 3) := by decide +kernel
theorem dX2_init_22 : decode cX2_init 22 = .ok (.aload_n 0, 1) := by decide +kernel
theorem dX2_init_23 : decode cX2_init 23 = .ok (.iconst 0, 1) := by decide +kernel
theorem dX2_init_24 : decode cX2_init 24 = .ok (.putfield 26, 3) := by decide +kernel
theorem dX2_init_27 : decode cX2_init 27 = .ok (.return_, 1) := by decide +kernel
theorem dX2_waysDown_0 : decode cX2_waysDown 0 = .ok (.aload_n 0, 1) := by decide +kernel
theorem dX2_waysDown_1 : decode cX2_waysDown 1 = .ok (.getfield 13, 3) := by decide +kernel
theorem dX2_waysDown_4 : decode cX2_waysDown 4 = .ok (.iconst 0, 1) := by decide +kernel
theorem dX2_waysDown_5 : decode cX2_waysDown 5 = .ok (.aaload, 1) := by decide +kernel
theorem dX2_waysDown_6 : decode cX2_waysDown 6 = .ok (.aload_n 2, 1) := by decide +kernel
theorem dX2_waysDown_7 : decode cX2_waysDown 7 = .ok (.invokevirtual 29, 3) := by decide +kernel
theorem dX2_waysDown_10 : decode cX2_waysDown 10 = .ok (.aload_n 0, 1) := by decide +kernel
theorem dX2_waysDown_11 : decode cX2_waysDown 11 = .ok (.aload_n 1, 1) := by decide +kernel
theorem dX2_waysDown_12 : decode cX2_waysDown 12 = .ok (.iload_n 3, 1) := by decide +kernel
theorem dX2_waysDown_13 : decode cX2_waysDown 13 = .ok (.iconst 0, 1) := by decide +kernel
theorem dX2_waysDown_14 : decode cX2_waysDown 14 = .ok (.iload 4, 2) := by decide +kernel
theorem dX2_waysDown_16 : decode cX2_waysDown 16 = .ok (.invokestatic 35, 3) := by decide +kernel
theorem dX2_waysDown_19 : decode cX2_waysDown 19 = .ok (.ireturn, 1) := by decide +kernel
theorem dX2_allWays_0 : decode cX2_allWays 0 = .ok (.iconst 1, 1) := by decide +kernel
theorem dX2_allWays_1 : decode cX2_allWays 1 = .ok (.istore_n 1, 1) := by decide +kernel
theorem dX2_allWays_2 : decode cX2_allWays 2 = .ok (.iconst 0, 1) := by decide +kernel
theorem dX2_allWays_3 : decode cX2_allWays 3 = .ok (.istore_n 2, 1) := by decide +kernel
theorem dX2_allWays_4 : decode cX2_allWays 4 = .ok (.iload_n 2, 1) := by decide +kernel
theorem dX2_allWays_5 : decode cX2_allWays 5 = .ok (.iload_n 0, 1) := by decide +kernel
theorem dX2_allWays_6 : decode cX2_allWays 6 = .ok (.if_icmp .ge 14, 3) := by decide +kernel
theorem dX2_allWays_9 : decode cX2_allWays 9 = .ok (.iload_n 1, 1) := by decide +kernel
theorem dX2_allWays_10 : decode cX2_allWays 10 = .ok (.bipush 20, 2) := by decide +kernel
theorem dX2_allWays_12 : decode cX2_allWays 12 = .ok (.imul, 1) := by decide +kernel
theorem dX2_allWays_13 : decode cX2_allWays 13 = .ok (.istore_n 1, 1) := by decide +kernel
theorem dX2_allWays_14 : decode cX2_allWays 14 = .ok (.iinc 2 1, 3) := by decide +kernel
theorem dX2_allWays_17 : decode cX2_allWays 17 = .ok (.goto (-13), 3) := by decide +kernel
theorem dX2_allWays_20 : decode cX2_allWays 20 = .ok (.iload_n 1, 1) := by decide +kernel
theorem dX2_allWays_21 : decode cX2_allWays 21 = .ok (.ireturn, 1) := by decide +kernel
theorem dX2_waysFrom_0 : decode cX2_waysFrom 0 = .ok (.aload_n 0, 1) := by decide +kernel
theorem dX2_waysFrom_1 : decode cX2_waysFrom 1 = .ok (.getfield 13, 3) := by decide +kernel
theorem dX2_waysFrom_4 : decode cX2_waysFrom 4 = .ok (.iload_n 3, 1) := by decide +kernel
theorem dX2_waysFrom_5 : decode cX2_waysFrom 5 = .ok (.aaload, 1) := by decide +kernel
theorem dX2_waysFrom_6 : decode cX2_waysFrom 6 = .ok (.astore 5, 2) := by decide +kernel
theorem dX2_waysFrom_8 : decode cX2_waysFrom 8 = .ok (.iload_n 3, 1) := by decide +kernel
theorem dX2_waysFrom_9 : decode cX2_waysFrom 9 = .ok (.iload 4, 2) := by decide +kernel
theorem dX2_waysFrom_11 : decode cX2_waysFrom 11 = .ok (.if_icmp .ge 8, 3) := by decide +kernel
theorem dX2_waysFrom_14 : decode cX2_waysFrom 14 = .ok (.iload_n 3, 1) := by decide +kernel
theorem dX2_waysFrom_15 : decode cX2_waysFrom 15 = .ok (.iconst 4, 1) := by decide +kernel
theorem dX2_waysFrom_16 : decode cX2_waysFrom 16 = .ok (.if_icmp .lt 18, 3) := by decide +kernel
theorem dX2_waysFrom_19 : decode cX2_waysFrom 19 = .ok (.aload 5, 2) := by decide +kernel
theorem dX2_waysFrom_21 : decode cX2_waysFrom 21 = .ok (.iload_n 2, 1) := by decide +kernel
theorem dX2_waysFrom_22 : decode cX2_waysFrom 22 = .ok (.invokevirtual 39, 3) := by decide +kernel
theorem dX2_waysFrom_25 : decode cX2_waysFrom 25 = .ok (.ifCond .eq 7, 3) := by decide +kernel
theorem dX2_waysFrom_28 : decode cX2_waysFrom 28 = .ok (.iconst 0, 1) := by decide +kernel
theorem dX2_waysFrom_29 : decode cX2_waysFrom 29 = .ok (.goto 4, 3) := by decide +kernel
theorem dX2_waysFrom_32 : decode cX2_waysFrom 32 = .ok (.iconst 1, 1) := by decide +kernel
theorem dX2_waysFrom_33 : decode cX2_waysFrom 33 = .ok (.ireturn, 1) := by decide +kernel
theorem dX2_waysFrom_34 : decode cX2_waysFrom 34 = .ok (.iconst 0, 1) := by decide +kernel
theorem dX2_waysFrom_35 : decode cX2_waysFrom 35 = .ok (.istore 6, 2) := by decide +kernel
theorem dX2_waysFrom_37 : decode cX2_waysFrom 37 = .ok (.iconst 0, 1) := by decide +kernel
theorem dX2_waysFrom_38 : decode cX2_waysFrom 38 = .ok (.istore 7, 2) := by decide +kernel
theorem dX2_waysFrom_40 : decode cX2_waysFrom 40 = .ok (.iload 7, 2) := by decide +kernel
theorem dX2_waysFrom_42 : decode cX2_waysFrom 42 = .ok (.iconst 2, 1) := by decide +kernel
theorem dX2_waysFrom_43 : decode cX2_waysFrom 43 = .ok (.if_icmp .gt 85, 3) := by decide +kernel
theorem dX2_waysFrom_46 : decode cX2_waysFrom 46 = .ok (.aload_n 0, 1) := by decide +kernel
theorem dX2_waysFrom_47 : decode cX2_waysFrom 47 = .ok (.getfield 13, 3) := by decide +kernel
theorem dX2_waysFrom_50 : decode cX2_waysFrom 50 = .ok (.iload_n 3, 1) := by decide +kernel
theorem dX2_waysFrom_51 : decode cX2_waysFrom 51 = .ok (.iconst 1, 1) := by decide +kernel
theorem dX2_waysFrom_52 : decode cX2_waysFrom 52 = .ok (.iadd, 1) := by decide +kernel
theorem dX2_waysFrom_53 : decode cX2_waysFrom 53 = .ok (.aaload, 1) := by decide +kernel
theorem dX2_waysFrom_54 : decode cX2_waysFrom 54 = .ok (.astore 8, 2) := by decide +kernel
theorem dX2_waysFrom_56 : decode cX2_waysFrom 56 = .ok (.aload 8, 2) := by decide +kernel
theorem dX2_waysFrom_58 : decode cX2_waysFrom 58 = .ok (.aload 5, 2) := by decide +kernel
theorem dX2_waysFrom_60 : decode cX2_waysFrom 60 = .ok (.invokevirtual 29, 3) := by decide +kernel
theorem dX2_waysFrom_63 : decode cX2_waysFrom 63 = .ok (.aload 8, 2) := by decide +kernel
theorem dX2_waysFrom_65 : decode cX2_waysFrom 65 = .ok (.aload_n 1, 1) := by decide +kernel
theorem dX2_waysFrom_66 : decode cX2_waysFrom 66 = .ok (.aload_n 0, 1) := by decide +kernel
theorem dX2_waysFrom_67 : decode cX2_waysFrom 67 = .ok (.getfield 19, 3) := by decide +kernel
theorem dX2_waysFrom_70 : decode cX2_waysFrom 70 = .ok (.aload_n 0, 1) := by decide +kernel
theorem dX2_waysFrom_71 : decode cX2_waysFrom 71 = .ok (.getfield 23, 3) := by decide +kernel
theorem dX2_waysFrom_74 : decode cX2_waysFrom 74 = .ok (.iload 7, 2) := by decide +kernel
theorem dX2_waysFrom_76 : decode cX2_waysFrom 76 = .ok (.invokevirtual 43, 3) := by decide +kernel
theorem dX2_waysFrom_79 : decode cX2_waysFrom 79 = .ok (.pop, 1) := by decide +kernel
theorem dX2_waysFrom_80 : decode cX2_waysFrom 80 = .ok (.iload 7, 2) := by decide +kernel
theorem dX2_waysFrom_82 : decode cX2_waysFrom 82 = .ok (.ifCond .ne 12, 3) := by decide +kernel
theorem dX2_waysFrom_85 : decode cX2_waysFrom 85 = .ok (.iconst 2, 1) := by decide +kernel
theorem dX2_waysFrom_86 : decode cX2_waysFrom 86 = .ok (.aload_n 0, 1) := by decide +kernel
theorem dX2_waysFrom_87 : decode cX2_waysFrom 87 = .ok (.getfield 26, 3) := by decide +kernel
theorem dX2_waysFrom_90 : decode cX2_waysFrom 90 = .ok (.imul, 1) := by decide +kernel
theorem dX2_waysFrom_91 : decode cX2_waysFrom 91 = .ok (.goto 10, 3) := by decide +kernel
theorem dX2_waysFrom_94 : decode cX2_waysFrom 94 = .ok (.bipush 10, 2) := by decide +kernel
theorem dX2_waysFrom_96 : decode cX2_waysFrom 96 = .ok (.aload_n 0, 1) := by decide +kernel
theorem dX2_waysFrom_97 : decode cX2_waysFrom 97 = .ok (.getfield 26, 3) := by decide +kernel
theorem dX2_waysFrom_100 : decode cX2_waysFrom 100 = .ok (.isub, 1) := by decide +kernel
theorem dX2_waysFrom_101 : decode cX2_waysFrom 101 = .ok (.istore 9, 2) := by decide +kernel
theorem dX2_waysFrom_103 : decode cX2_waysFrom 103 = .ok (.iload 6, 2) := by decide +kernel
theorem dX2_waysFrom_105 : decode cX2_waysFrom 105 = .ok (.iload 9, 2) := by decide +kernel
theorem dX2_waysFrom_107 : decode cX2_waysFrom 107 = .ok (.aload_n 0, 1) := by decide +kernel
theorem dX2_waysFrom_108 : decode cX2_waysFrom 108 = .ok (.aload_n 1, 1) := by decide +kernel
theorem dX2_waysFrom_109 : decode cX2_waysFrom 109 = .ok (.iload_n 2, 1) := by decide +kernel
theorem dX2_waysFrom_110 : decode cX2_waysFrom 110 = .ok (.iload_n 3, 1) := by decide +kernel
theorem dX2_waysFrom_111 : decode cX2_waysFrom 111 = .ok (.iconst 1, 1) := by decide +kernel
theorem dX2_waysFrom_112 : decode cX2_waysFrom 112 = .ok (.iadd, 1) := by decide +kernel
theorem dX2_waysFrom_113 : decode cX2_waysFrom 113 = .ok (.iload 4, 2) := by decide +kernel
theorem dX2_waysFrom_115 : decode cX2_waysFrom 115 = .ok (.invokestatic 35, 3) := by decide +kernel
theorem dX2_waysFrom_118 : decode cX2_waysFrom 118 = .ok (.imul, 1) := by decide +kernel
theorem dX2_waysFrom_119 : decode cX2_waysFrom 119 = .ok (.iadd, 1) := by decide +kernel
theorem dX2_waysFrom_120 : decode cX2_waysFrom 120 = .ok (.istore 6, 2) := by decide +kernel
theorem dX2_waysFrom_122 : decode cX2_waysFrom 122 = .ok (.iinc 7 1, 3) := by decide +kernel
theorem dX2_waysFrom_125 : decode cX2_waysFrom 125 = .ok (.goto (-85), 3) := by decide +kernel
theorem dX2_waysFrom_128 : decode cX2_waysFrom 128 = .ok (.iload 6, 2) := by decide +kernel
theorem dX2_waysFrom_130 : decode cX2_waysFrom 130 = .ok (.ireturn, 1) := by decide +kernel
theorem dX2_startFrom_0 : decode cX2_startFrom 0 = .ok (.aload_n 0, 1) := by decide +kernel
theorem dX2_startFrom_1 : decode cX2_startFrom 1 = .ok (.getfield 13, 3) := by decide +kernel
theorem dX2_startFrom_4 : decode cX2_startFrom 4 = .ok (.iconst 0, 1) := by decide +kernel
theorem dX2_startFrom_5 : decode cX2_startFrom 5 = .ok (.aaload, 1) := by decide +kernel
theorem dX2_startFrom_6 : decode cX2_startFrom 6 = .ok (.aload_n 1, 1) := by decide +kernel
theorem dX2_startFrom_7 : decode cX2_startFrom 7 = .ok (.invokevirtual 29, 3) := by decide +kernel
theorem dX2_startFrom_10 : decode cX2_startFrom 10 = .ok (.return_, 1) := by decide +kernel
theorem dX2_downBehindDrawn_0 : decode cX2_downBehindDrawn 0 = .ok (.iload_n 2, 1) := by decide +kernel
theorem dX2_downBehindDrawn_1 : decode cX2_downBehindDrawn 1 = .ok (.bipush 24, 2) := by decide +kernel
theorem dX2_downBehindDrawn_3 : decode cX2_downBehindDrawn 3 = .ok (.idiv, 1) := by decide +kernel
theorem dX2_downBehindDrawn_4 : decode cX2_downBehindDrawn 4 = .ok (.istore_n 3, 1) := by decide +kernel
theorem dX2_downBehindDrawn_5 : decode cX2_downBehindDrawn 5 = .ok (.aload_n 1, 1) := by decide +kernel
theorem dX2_downBehindDrawn_6 : decode cX2_downBehindDrawn 6 = .ok (.iload_n 3, 1) := by decide +kernel
theorem dX2_downBehindDrawn_7 : decode cX2_downBehindDrawn 7 = .ok (.invokevirtual 47, 3) := by decide +kernel
theorem dX2_downBehindDrawn_10 : decode cX2_downBehindDrawn 10 = .ok (.ifCond .eq 24, 3) := by decide +kernel
theorem dX2_downBehindDrawn_13 : decode cX2_downBehindDrawn 13 = .ok (.aload_n 0, 1) := by decide +kernel
theorem dX2_downBehindDrawn_14 : decode cX2_downBehindDrawn 14 = .ok (.getfield 13, 3) := by decide +kernel
theorem dX2_downBehindDrawn_17 : decode cX2_downBehindDrawn 17 = .ok (.iconst 0, 1) := by decide +kernel
theorem dX2_downBehindDrawn_18 : decode cX2_downBehindDrawn 18 = .ok (.aaload, 1) := by decide +kernel
theorem dX2_downBehindDrawn_19 : decode cX2_downBehindDrawn 19 = .ok (.aload_n 1, 1) := by decide +kernel
theorem dX2_downBehindDrawn_20 : decode cX2_downBehindDrawn 20 = .ok (.iload_n 3, 1) := by decide +kernel
theorem dX2_downBehindDrawn_21 : decode cX2_downBehindDrawn 21 = .ok (.iload_n 2, 1) := by decide +kernel
theorem dX2_downBehindDrawn_22 : decode cX2_downBehindDrawn 22 = .ok (.bipush 24, 2) := by decide +kernel
theorem dX2_downBehindDrawn_24 : decode cX2_downBehindDrawn 24 = .ok (.irem, 1) := by decide +kernel
theorem dX2_downBehindDrawn_25 : decode cX2_downBehindDrawn 25 = .ok (.iconst 3, 1) := by decide +kernel
theorem dX2_downBehindDrawn_26 : decode cX2_downBehindDrawn 26 = .ok (.idiv, 1) := by decide +kernel
theorem dX2_downBehindDrawn_27 : decode cX2_downBehindDrawn 27 = .ok (.iload_n 2, 1) := by decide +kernel
theorem dX2_downBehindDrawn_28 : decode cX2_downBehindDrawn 28 = .ok (.iconst 3, 1) := by decide +kernel
theorem dX2_downBehindDrawn_29 : decode cX2_downBehindDrawn 29 = .ok (.irem, 1) := by decide +kernel
theorem dX2_downBehindDrawn_30 : decode cX2_downBehindDrawn 30 = .ok (.invokevirtual 43, 3) := by decide +kernel
theorem dX2_downBehindDrawn_33 : decode cX2_downBehindDrawn 33 = .ok (.pop, 1) := by decide +kernel
theorem dX2_downBehindDrawn_34 : decode cX2_downBehindDrawn 34 = .ok (.aload_n 0, 1) := by decide +kernel
theorem dX2_downBehindDrawn_35 : decode cX2_downBehindDrawn 35 = .ok (.getfield 13, 3) := by decide +kernel
theorem dX2_downBehindDrawn_38 : decode cX2_downBehindDrawn 38 = .ok (.iconst 0, 1) := by decide +kernel
theorem dX2_downBehindDrawn_39 : decode cX2_downBehindDrawn 39 = .ok (.aaload, 1) := by decide +kernel
theorem dX2_downBehindDrawn_40 : decode cX2_downBehindDrawn 40 = .ok (.invokevirtual 52, 3) := by decide +kernel
theorem dX2_downBehindDrawn_43 : decode cX2_downBehindDrawn 43 = .ok (.ireturn, 1) := by decide +kernel
theorem dX3_init_0 : decode cX3_init 0 = .ok (.aload_n 0, 1) := by decide +kernel
theorem dX3_init_1 : decode cX3_init 1 = .ok (.invokespecial 3, 3) := by decide +kernel
theorem dX3_init_4 : decode cX3_init 4 = .ok (.aload_n 0, 1) := by decide +kernel
theorem dX3_init_5 : decode cX3_init 5 = .ok (.bipush 36, 2) := by decide +kernel
theorem dX3_init_7 : decode cX3_init 7 = .ok (.newarray .int, 2) := by decide +kernel
theorem dX3_init_9 : decode cX3_init 9 = .ok (.putfield 11, 3) := by decide +kernel
theorem dX3_init_12 : decode cX3_init 12 = .ok (.aload_n 0, 1) := by decide +kernel
theorem dX3_init_13 : decode cX3_init 13 = .ok (.bipush 36, 2) := by decide +kernel
theorem dX3_init_15 : decode cX3_init 15 = .ok (.newarray .int, 2) := by decide +kernel
theorem dX3_init_17 : decode cX3_init 17 = .ok (.putfield 15, 3) := by decide +kernel
theorem dX3_init_20 : decode cX3_init 20 = .ok (.aload_n 0, 1) := by decide +kernel
theorem dX3_init_21 : decode cX3_init 21 = .ok (.new 18, 3) := by decide +kernel
theorem dX3_init_24 : decode cX3_init 24 = .ok (.dup, 1) := by decide +kernel
theorem dX3_init_25 : decode cX3_init 25 = .ok (.invokespecial 20, 3) := by decide +kernel
theorem dX3_init_28 : decode cX3_init 28 = .ok (.putfield 21, 3) := by decide +kernel
theorem dX3_init_31 : decode cX3_init 31 = .ok (.aload_n 0, 1) := by decide +kernel
theorem dX3_init_32 : decode cX3_init 32 = .ok (.iconst 0, 1) := by decide +kernel
theorem dX3_init_33 : decode cX3_init 33 = .ok (.putfield 25, 3) := by decide +kernel
theorem dX3_init_36 : decode cX3_init 36 = .ok (.aload_n 0, 1) := by decide +kernel
theorem dX3_init_37 : decode cX3_init 37 = .ok (.bipush (-9), 2) := by decide +kernel
theorem dX3_init_39 : decode cX3_init 39 = .ok (.putfield 29, 3) := by decide +kernel
theorem dX3_init_42 : decode cX3_init 42 = .ok (.return_, 1) := by decide +kernel
theorem dX3_settle_0 : decode cX3_settle 0 = .ok (.iconst 0, 1) := by decide +kernel
theorem dX3_settle_1 : decode cX3_settle 1 = .ok (.istore_n 3, 1) := by decide +kernel
theorem dX3_settle_2 : decode cX3_settle 2 = .ok (.iload_n 3, 1) := by decide +kernel
theorem dX3_settle_3 : decode cX3_settle 3 = .ok (.aload_n 1, 1) := by decide +kernel
theorem dX3_settle_4 : decode cX3_settle 4 = .ok (.getfield 32, 3) := by decide +kernel
theorem dX3_settle_7 : decode cX3_settle 7 = .ok (.if_icmp .gt 36, 3) := by decide +kernel
theorem dX3_settle_10 : decode cX3_settle 10 = .ok (.iconst 0, 1) := by decide +kernel
theorem dX3_settle_11 : decode cX3_settle 11 = .ok (.istore 4, 2) := by decide +kernel
theorem dX3_settle_13 : decode cX3_settle 13 = .ok (.iload 4, 2) := by decide +kernel
theorem dX3_settle_15 : decode cX3_settle 15 = .ok (.aload_n 1, 1) := by decide +kernel
theorem dX3_settle_16 : decode cX3_settle 16 = .ok (.getfield 32, 3) := by decide +kernel
theorem dX3_settle_19 : decode cX3_settle 19 = .ok (.if_icmp .gt 18, 3) := by decide +kernel
theorem dX3_settle_22 : decode cX3_settle 22 = .ok (.aload_n 0, 1) := by decide +kernel
theorem dX3_settle_23 : decode cX3_settle 23 = .ok (.aload_n 1, 1) := by decide +kernel
theorem dX3_settle_24 : decode cX3_settle 24 = .ok (.aload_n 2, 1) := by decide +kernel
theorem dX3_settle_25 : decode cX3_settle 25 = .ok (.iload_n 3, 1) := by decide +kernel
theorem dX3_settle_26 : decode cX3_settle 26 = .ok (.iload 4, 2) := by decide +kernel
theorem dX3_settle_28 : decode cX3_settle 28 = .ok (.invokevirtual 37, 3) := by decide +kernel
theorem dX3_settle_31 : decode cX3_settle 31 = .ok (.iinc 4 1, 3) := by decide +kernel
theorem dX3_settle_34 : decode cX3_settle 34 = .ok (.goto (-21), 3) := by decide +kernel
theorem dX3_settle_37 : decode cX3_settle 37 = .ok (.iinc 3 1, 3) := by decide +kernel
theorem dX3_settle_40 : decode cX3_settle 40 = .ok (.goto (-38), 3) := by decide +kernel
theorem dX3_settle_43 : decode cX3_settle 43 = .ok (.aload_n 0, 1) := by decide +kernel
theorem dX3_settle_44 : decode cX3_settle 44 = .ok (.iconst 0, 1) := by decide +kernel
theorem dX3_settle_45 : decode cX3_settle 45 = .ok (.putfield 25, 3) := by decide +kernel
theorem dX3_settle_48 : decode cX3_settle 48 = .ok (.aload_n 0, 1) := by decide +kernel
theorem dX3_settle_49 : decode cX3_settle 49 = .ok (.bipush (-9), 2) := by decide +kernel
theorem dX3_settle_51 : decode cX3_settle 51 = .ok (.putfield 29, 3) := by decide +kernel
theorem dX3_settle_54 : decode cX3_settle 54 = .ok (.iconst 0, 1) := by decide +kernel
theorem dX3_settle_55 : decode cX3_settle 55 = .ok (.istore_n 3, 1) := by decide +kernel
theorem dX3_settle_56 : decode cX3_settle 56 = .ok (.iload_n 3, 1) := by decide +kernel
theorem dX3_settle_57 : decode cX3_settle 57 = .ok (.aload_n 1, 1) := by decide +kernel
theorem dX3_settle_58 : decode cX3_settle 58 = .ok (.getfield 32, 3) := by decide +kernel
theorem dX3_settle_61 : decode cX3_settle 61 = .ok (.if_icmp .gt 76, 3) := by decide +kernel
theorem dX3_settle_64 : decode cX3_settle 64 = .ok (.iconst 0, 1) := by decide +kernel
theorem dX3_settle_65 : decode cX3_settle 65 = .ok (.istore 4, 2) := by decide +kernel
theorem dX3_settle_67 : decode cX3_settle 67 = .ok (.iload 4, 2) := by decide +kernel
theorem dX3_settle_69 : decode cX3_settle 69 = .ok (.aload_n 1, 1) := by decide +kernel
theorem dX3_settle_70 : decode cX3_settle 70 = .ok (.getfield 32, 3) := by decide +kernel
theorem dX3_settle_73 : decode cX3_settle 73 = .ok (.if_icmp .gt 58, 3) := by decide +kernel
theorem dX3_settle_76 : decode cX3_settle 76 = .ok (.aload_n 0, 1) := by decide +kernel
theorem dX3_settle_77 : decode cX3_settle 77 = .ok (.aload_n 1, 1) := by decide +kernel
theorem dX3_settle_78 : decode cX3_settle 78 = .ok (.getfield 32, 3) := by decide +kernel
theorem dX3_settle_81 : decode cX3_settle 81 = .ok (.iload_n 3, 1) := by decide +kernel
theorem dX3_settle_82 : decode cX3_settle 82 = .ok (.iload 4, 2) := by decide +kernel
theorem dX3_settle_84 : decode cX3_settle 84 = .ok (.invokevirtual 41, 3) := by decide +kernel
theorem dX3_settle_87 : decode cX3_settle 87 = .ok (.ifCond .eq 38, 3) := by decide +kernel
theorem dX3_settle_90 : decode cX3_settle 90 = .ok (.aload_n 0, 1) := by decide +kernel
theorem dX3_settle_91 : decode cX3_settle 91 = .ok (.aload_n 0, 1) := by decide +kernel
theorem dX3_settle_92 : decode cX3_settle 92 = .ok (.getfield 25, 3) := by decide +kernel
theorem dX3_settle_95 : decode cX3_settle 95 = .ok (.ifCond .ne 13, 3) := by decide +kernel
theorem dX3_settle_98 : decode cX3_settle 98 = .ok (.bipush 10, 2) := by decide +kernel
theorem dX3_settle_100 : decode cX3_settle 100 = .ok (.iload_n 3, 1) := by decide +kernel
theorem dX3_settle_101 : decode cX3_settle 101 = .ok (.imul, 1) := by decide +kernel
theorem dX3_settle_102 : decode cX3_settle 102 = .ok (.iload 4, 2) := by decide +kernel
theorem dX3_settle_104 : decode cX3_settle 104 = .ok (.iadd, 1) := by decide +kernel
theorem dX3_settle_105 : decode cX3_settle 105 = .ok (.goto 7, 3) := by decide +kernel
theorem dX3_settle_108 : decode cX3_settle 108 = .ok (.aload_n 0, 1) := by decide +kernel
theorem dX3_settle_109 : decode cX3_settle 109 = .ok (.getfield 29, 3) := by decide +kernel
theorem dX3_settle_112 : decode cX3_settle 112 = .ok (.putfield 29, 3) := by decide +kernel
theorem dX3_settle_115 : decode cX3_settle 115 = .ok (.aload_n 0, 1) := by decide +kernel
theorem dX3_settle_116 : decode cX3_settle 116 = .ok (.dup, 1) := by decide +kernel
theorem dX3_settle_117 : decode cX3_settle 117 = .ok (.getfield 25, 3) := by decide +kernel
theorem dX3_settle_120 : decode cX3_settle 120 = .ok (.iconst 1, 1) := by decide +kernel
theorem dX3_settle_121 : decode cX3_settle 121 = .ok (.iadd, 1) := by decide +kernel
theorem dX3_settle_122 : decode cX3_settle 122 = .ok (.putfield 25, 3) := by decide +kernel
theorem dX3_settle_125 : decode cX3_settle 125 = .ok (.iinc 4 1, 3) := by decide +kernel
theorem dX3_settle_128 : decode cX3_settle 128 = .ok (.goto (-61), 3) := by decide +kernel
theorem dX3_settle_131 : decode cX3_settle 131 = .ok (.iinc 3 1, 3) := by decide +kernel
theorem dX3_settle_134 : decode cX3_settle 134 = .ok (.goto (-78), 3) := by decide +kernel
theorem dX3_settle_137 : decode cX3_settle 137 = .ok (.return_, 1) := by decide +kernel
theorem dX3_weigh_0 : decode cX3_weigh 0 = .ok (.aload_n 0, 1) := by decide +kernel
theorem dX3_weigh_1 : decode cX3_weigh 1 = .ok (.getfield 21, 3) := by decide +kernel
theorem dX3_weigh_4 : decode cX3_weigh 4 = .ok (.aload_n 2, 1) := by decide +kernel
theorem dX3_weigh_5 : decode cX3_weigh 5 = .ok (.invokevirtual 45, 3) := by decide +kernel
theorem dX3_weigh_8 : decode cX3_weigh 8 = .ok (.iload_n 3, 1) := by decide +kernel
theorem dX3_weigh_9 : decode cX3_weigh 9 = .ok (.bipush 6, 2) := by decide +kernel
theorem dX3_weigh_11 : decode cX3_weigh 11 = .ok (.imul, 1) := by decide +kernel
theorem dX3_weigh_12 : decode cX3_weigh 12 = .ok (.iload 4, 2) := by decide +kernel
theorem dX3_weigh_14 : decode cX3_weigh 14 = .ok (.iadd, 1) := by decide +kernel
theorem dX3_weigh_15 : decode cX3_weigh 15 = .ok (.istore 5, 2) := by decide +kernel
theorem dX3_weigh_17 : decode cX3_weigh 17 = .ok (.aload_n 0, 1) := by decide +kernel
theorem dX3_weigh_18 : decode cX3_weigh 18 = .ok (.getfield 11, 3) := by decide +kernel
theorem dX3_weigh_21 : decode cX3_weigh 21 = .ok (.iload 5, 2) := by decide +kernel
theorem dX3_weigh_23 : decode cX3_weigh 23 = .ok (.aload_n 0, 1) := by decide +kernel
theorem dX3_weigh_24 : decode cX3_weigh 24 = .ok (.aload_n 1, 1) := by decide +kernel
theorem dX3_weigh_25 : decode cX3_weigh 25 = .ok (.iconst 0, 1) := by decide +kernel
theorem dX3_weigh_26 : decode cX3_weigh 26 = .ok (.iload_n 3, 1) := by decide +kernel
theorem dX3_weigh_27 : decode cX3_weigh 27 = .ok (.invokevirtual 49, 3) := by decide +kernel
theorem dX3_weigh_30 : decode cX3_weigh 30 = .ok (.ineg, 1) := by decide +kernel
theorem dX3_weigh_31 : decode cX3_weigh 31 = .ok (.iastore, 1) := by decide +kernel
theorem dX3_weigh_32 : decode cX3_weigh 32 = .ok (.aload_n 0, 1) := by decide +kernel
theorem dX3_weigh_33 : decode cX3_weigh 33 = .ok (.getfield 15, 3) := by decide +kernel
theorem dX3_weigh_36 : decode cX3_weigh 36 = .ok (.iload 5, 2) := by decide +kernel
theorem dX3_weigh_38 : decode cX3_weigh 38 = .ok (.aload_n 0, 1) := by decide +kernel
theorem dX3_weigh_39 : decode cX3_weigh 39 = .ok (.aload_n 1, 1) := by decide +kernel
theorem dX3_weigh_40 : decode cX3_weigh 40 = .ok (.iconst 1, 1) := by decide +kernel
theorem dX3_weigh_41 : decode cX3_weigh 41 = .ok (.iload 4, 2) := by decide +kernel
theorem dX3_weigh_43 : decode cX3_weigh 43 = .ok (.invokevirtual 49, 3) := by decide +kernel
theorem dX3_weigh_46 : decode cX3_weigh 46 = .ok (.ineg, 1) := by decide +kernel
theorem dX3_weigh_47 : decode cX3_weigh 47 = .ok (.iastore, 1) := by decide +kernel
theorem dX3_weigh_48 : decode cX3_weigh 48 = .ok (.iconst 0, 1) := by decide +kernel
theorem dX3_weigh_49 : decode cX3_weigh 49 = .ok (.istore 6, 2) := by decide +kernel
theorem dX3_weigh_51 : decode cX3_weigh 51 = .ok (.iload 6, 2) := by decide +kernel
theorem dX3_weigh_53 : decode cX3_weigh 53 = .ok (.aload_n 1, 1) := by decide +kernel
theorem dX3_weigh_54 : decode cX3_weigh 54 = .ok (.getfield 32, 3) := by decide +kernel
theorem dX3_weigh_57 : decode cX3_weigh 57 = .ok (.if_icmp .ge 49, 3) := by decide +kernel
theorem dX3_weigh_60 : decode cX3_weigh 60 = .ok (.aload_n 0, 1) := by decide +kernel
theorem dX3_weigh_61 : decode cX3_weigh 61 = .ok (.getfield 21, 3) := by decide +kernel
theorem dX3_weigh_64 : decode cX3_weigh 64 = .ok (.iload 6, 2) := by decide +kernel
theorem dX3_weigh_66 : decode cX3_weigh 66 = .ok (.invokevirtual 53, 3) := by decide +kernel
theorem dX3_weigh_69 : decode cX3_weigh 69 = .ok (.ifCond .ne 31, 3) := by decide +kernel
theorem dX3_weigh_72 : decode cX3_weigh 72 = .ok (.aload_n 0, 1) := by decide +kernel
theorem dX3_weigh_73 : decode cX3_weigh 73 = .ok (.getfield 11, 3) := by decide +kernel
theorem dX3_weigh_76 : decode cX3_weigh 76 = .ok (.iload 5, 2) := by decide +kernel
theorem dX3_weigh_78 : decode cX3_weigh 78 = .ok (.dup2, 1) := by decide +kernel
theorem dX3_weigh_79 : decode cX3_weigh 79 = .ok (.iaload, 1) := by decide +kernel
theorem dX3_weigh_80 : decode cX3_weigh 80 = .ok (.iload 6, 2) := by decide +kernel
theorem dX3_weigh_82 : decode cX3_weigh 82 = .ok (.iconst 1, 1) := by decide +kernel
theorem dX3_weigh_83 : decode cX3_weigh 83 = .ok (.iadd, 1) := by decide +kernel
theorem dX3_weigh_84 : decode cX3_weigh 84 = .ok (.iadd, 1) := by decide +kernel
theorem dX3_weigh_85 : decode cX3_weigh 85 = .ok (.iastore, 1) := by decide +kernel
theorem dX3_weigh_86 : decode cX3_weigh 86 = .ok (.aload_n 0, 1) := by decide +kernel
theorem dX3_weigh_87 : decode cX3_weigh 87 = .ok (.getfield 15, 3) := by decide +kernel
theorem dX3_weigh_90 : decode cX3_weigh 90 = .ok (.iload 5, 2) := by decide +kernel
theorem dX3_weigh_92 : decode cX3_weigh 92 = .ok (.dup2, 1) := by decide +kernel
theorem dX3_weigh_93 : decode cX3_weigh 93 = .ok (.iaload, 1) := by decide +kernel
theorem dX3_weigh_94 : decode cX3_weigh 94 = .ok (.iconst 5, 1) := by decide +kernel
theorem dX3_weigh_95 : decode cX3_weigh 95 = .ok (.iload 6, 2) := by decide +kernel
theorem dX3_weigh_97 : decode cX3_weigh 97 = .ok (.isub, 1) := by decide +kernel
theorem dX3_weigh_98 : decode cX3_weigh 98 = .ok (.iadd, 1) := by decide +kernel
theorem dX3_weigh_99 : decode cX3_weigh 99 = .ok (.iastore, 1) := by decide +kernel
theorem dX3_weigh_100 : decode cX3_weigh 100 = .ok (.iinc 6 1, 3) := by decide +kernel
theorem dX3_weigh_103 : decode cX3_weigh 103 = .ok (.goto (-52), 3) := by decide +kernel
theorem dX3_weigh_106 : decode cX3_weigh 106 = .ok (.return_, 1) := by decide +kernel
theorem dX3_costOf_0 : decode cX3_costOf 0 = .ok (.iload_n 3, 1) := by decide +kernel
theorem dX3_costOf_1 : decode cX3_costOf 1 = .ok (.iconst 1, 1) := by decide +kernel
theorem dX3_costOf_2 : decode cX3_costOf 2 = .ok (.isub, 1) := by decide +kernel
theorem dX3_costOf_3 : decode cX3_costOf 3 = .ok (.istore 4, 2) := by decide +kernel
theorem dX3_costOf_5 : decode cX3_costOf 5 = .ok (.aload_n 1, 1) := by decide +kernel
theorem dX3_costOf_6 : decode cX3_costOf 6 = .ok (.iload 4, 2) := by decide +kernel
theorem dX3_costOf_8 : decode cX3_costOf 8 = .ok (.invokevirtual 57, 3) := by decide +kernel
theorem dX3_costOf_11 : decode cX3_costOf 11 = .ok (.ifCond .eq 17, 3) := by decide +kernel
theorem dX3_costOf_14 : decode cX3_costOf 14 = .ok (.aload_n 0, 1) := by decide +kernel
theorem dX3_costOf_15 : decode cX3_costOf 15 = .ok (.getfield 21, 3) := by decide +kernel
theorem dX3_costOf_18 : decode cX3_costOf 18 = .ok (.aload_n 1, 1) := by decide +kernel
theorem dX3_costOf_19 : decode cX3_costOf 19 = .ok (.iload_n 2, 1) := by decide +kernel
theorem dX3_costOf_20 : decode cX3_costOf 20 = .ok (.iload 4, 2) := by decide +kernel
theorem dX3_costOf_22 : decode cX3_costOf 22 = .ok (.invokevirtual 60, 3) := by decide +kernel
theorem dX3_costOf_25 : decode cX3_costOf 25 = .ok (.ifCond .ne 5, 3) := by decide +kernel
theorem dX3_costOf_28 : decode cX3_costOf 28 = .ok (.iconst 0, 1) := by decide +kernel
theorem dX3_costOf_29 : decode cX3_costOf 29 = .ok (.ireturn, 1) := by decide +kernel
theorem dX3_costOf_30 : decode cX3_costOf 30 = .ok (.aload_n 0, 1) := by decide +kernel
theorem dX3_costOf_31 : decode cX3_costOf 31 = .ok (.getfield 21, 3) := by decide +kernel
theorem dX3_costOf_34 : decode cX3_costOf 34 = .ok (.aload_n 1, 1) := by decide +kernel
theorem dX3_costOf_35 : decode cX3_costOf 35 = .ok (.iload_n 2, 1) := by decide +kernel
theorem dX3_costOf_36 : decode cX3_costOf 36 = .ok (.iload 4, 2) := by decide +kernel
theorem dX3_costOf_38 : decode cX3_costOf 38 = .ok (.invokevirtual 64, 3) := by decide +kernel
theorem dX3_costOf_41 : decode cX3_costOf 41 = .ok (.pop, 1) := by decide +kernel
theorem dX3_costOf_42 : decode cX3_costOf 42 = .ok (.iconst 1, 1) := by decide +kernel
theorem dX3_costOf_43 : decode cX3_costOf 43 = .ok (.ireturn, 1) := by decide +kernel
theorem dX3_isRest_0 : decode cX3_isRest 0 = .ok (.iload_n 2, 1) := by decide +kernel
theorem dX3_isRest_1 : decode cX3_isRest 1 = .ok (.bipush 6, 2) := by decide +kernel
theorem dX3_isRest_3 : decode cX3_isRest 3 = .ok (.imul, 1) := by decide +kernel
theorem dX3_isRest_4 : decode cX3_isRest 4 = .ok (.iload_n 3, 1) := by decide +kernel
theorem dX3_isRest_5 : decode cX3_isRest 5 = .ok (.iadd, 1) := by decide +kernel
theorem dX3_isRest_6 : decode cX3_isRest 6 = .ok (.istore 4, 2) := by decide +kernel
theorem dX3_isRest_8 : decode cX3_isRest 8 = .ok (.iconst 0, 1) := by decide +kernel
theorem dX3_isRest_9 : decode cX3_isRest 9 = .ok (.istore 5, 2) := by decide +kernel
theorem dX3_isRest_11 : decode cX3_isRest 11 = .ok (.iload 5, 2) := by decide +kernel
theorem dX3_isRest_13 : decode cX3_isRest 13 = .ok (.iload_n 1, 1) := by decide +kernel
theorem dX3_isRest_14 : decode cX3_isRest 14 = .ok (.if_icmp .gt 55, 3) := by decide +kernel
theorem dX3_isRest_17 : decode cX3_isRest 17 = .ok (.aload_n 0, 1) := by decide +kernel
theorem dX3_isRest_18 : decode cX3_isRest 18 = .ok (.getfield 11, 3) := by decide +kernel
theorem dX3_isRest_21 : decode cX3_isRest 21 = .ok (.iload 5, 2) := by decide +kernel
theorem dX3_isRest_23 : decode cX3_isRest 23 = .ok (.bipush 6, 2) := by decide +kernel
theorem dX3_isRest_25 : decode cX3_isRest 25 = .ok (.imul, 1) := by decide +kernel
theorem dX3_isRest_26 : decode cX3_isRest 26 = .ok (.iload_n 3, 1) := by decide +kernel
theorem dX3_isRest_27 : decode cX3_isRest 27 = .ok (.iadd, 1) := by decide +kernel
theorem dX3_isRest_28 : decode cX3_isRest 28 = .ok (.iaload, 1) := by decide +kernel
theorem dX3_isRest_29 : decode cX3_isRest 29 = .ok (.aload_n 0, 1) := by decide +kernel
theorem dX3_isRest_30 : decode cX3_isRest 30 = .ok (.getfield 11, 3) := by decide +kernel
theorem dX3_isRest_33 : decode cX3_isRest 33 = .ok (.iload 4, 2) := by decide +kernel
theorem dX3_isRest_35 : decode cX3_isRest 35 = .ok (.iaload, 1) := by decide +kernel
theorem dX3_isRest_36 : decode cX3_isRest 36 = .ok (.if_icmp .gt 25, 3) := by decide +kernel
theorem dX3_isRest_39 : decode cX3_isRest 39 = .ok (.aload_n 0, 1) := by decide +kernel
theorem dX3_isRest_40 : decode cX3_isRest 40 = .ok (.getfield 15, 3) := by decide +kernel
theorem dX3_isRest_43 : decode cX3_isRest 43 = .ok (.iload_n 2, 1) := by decide +kernel
theorem dX3_isRest_44 : decode cX3_isRest 44 = .ok (.bipush 6, 2) := by decide +kernel
theorem dX3_isRest_46 : decode cX3_isRest 46 = .ok (.imul, 1) := by decide +kernel
theorem dX3_isRest_47 : decode cX3_isRest 47 = .ok (.iload 5, 2) := by decide +kernel
theorem dX3_isRest_49 : decode cX3_isRest 49 = .ok (.iadd, 1) := by decide +kernel
theorem dX3_isRest_50 : decode cX3_isRest 50 = .ok (.iaload, 1) := by decide +kernel
theorem dX3_isRest_51 : decode cX3_isRest 51 = .ok (.aload_n 0, 1) := by decide +kernel
theorem dX3_isRest_52 : decode cX3_isRest 52 = .ok (.getfield 15, 3) := by decide +kernel
theorem dX3_isRest_55 : decode cX3_isRest 55 = .ok (.iload 4, 2) := by decide +kernel
theorem dX3_isRest_57 : decode cX3_isRest 57 = .ok (.iaload, 1) := by decide +kernel
theorem dX3_isRest_58 : decode cX3_isRest 58 = .ok (.if_icmp .le 5, 3) := by decide +kernel
theorem dX3_isRest_61 : decode cX3_isRest 61 = .ok (.iconst 0, 1) := by decide +kernel
theorem dX3_isRest_62 : decode cX3_isRest 62 = .ok (.ireturn, 1) := by decide +kernel
theorem dX3_isRest_63 : decode cX3_isRest 63 = .ok (.iinc 5 1, 3) := by decide +kernel
theorem dX3_isRest_66 : decode cX3_isRest 66 = .ok (.goto (-55), 3) := by decide +kernel
theorem dX3_isRest_69 : decode cX3_isRest 69 = .ok (.iconst 1, 1) := by decide +kernel
theorem dX3_isRest_70 : decode cX3_isRest 70 = .ok (.ireturn, 1) := by decide +kernel
theorem dX4_init_0 : decode cX4_init 0 = .ok (.aload_n 0, 1) := by decide +kernel
theorem dX4_init_1 : decode cX4_init 1 = .ok (.invokespecial 3, 3) := by decide +kernel
theorem dX4_init_4 : decode cX4_init 4 = .ok (.aload_n 0, 1) := by decide +kernel
theorem dX4_init_5 : decode cX4_init 5 = .ok (.iconst 5, 1) := by decide +kernel
theorem dX4_init_6 : decode cX4_init 6 = .ok (.invokestatic 9, 3) := by decide +kernel
theorem dX4_init_9 : decode cX4_init 9 = .ok (.putfield 13, 3) := by decide +kernel
theorem dX4_init_12 : decode cX4_init 12 = .ok (.aload_n 0, 1) := by decide +kernel
theorem dX4_init_13 : decode cX4_init 13 = .ok (.iconst 0, 1) := by decide +kernel
theorem dX4_init_14 : decode cX4_init 14 = .ok (.putfield 19, 3) := by decide +kernel
theorem dX4_init_17 : decode cX4_init 17 = .ok (.aload_n 0, 1) := by decide +kernel
theorem dX4_init_18 : decode cX4_init 18 = .ok (.iconst 1, 1) := by decide +kernel
theorem dX4_init_19 : decode cX4_init 19 = .ok (.putfield 23, 3) := by decide +kernel
theorem dX4_init_22 : decode cX4_init 22 = .ok (.return_, 1) := by decide +kernel
theorem dX4_downBehind_0 : decode cX4_downBehind 0 = .ok (.aload_n 0, 1) := by decide +kernel
theorem dX4_downBehind_1 : decode cX4_downBehind 1 = .ok (.getfield 13, 3) := by decide +kernel
theorem dX4_downBehind_4 : decode cX4_downBehind 4 = .ok (.iconst 0, 1) := by decide +kernel
theorem dX4_downBehind_5 : decode cX4_downBehind 5 = .ok (.aaload, 1) := by decide +kernel
theorem dX4_downBehind_6 : decode cX4_downBehind 6 = .ok (.aload_n 2, 1) := by decide +kernel
theorem dX4_downBehind_7 : decode cX4_downBehind 7 = .ok (.invokevirtual 26, 3) := by decide +kernel
theorem dX4_downBehind_10 : decode cX4_downBehind 10 = .ok (.aload_n 0, 1) := by decide +kernel
theorem dX4_downBehind_11 : decode cX4_downBehind 11 = .ok (.getfield 13, 3) := by decide +kernel
theorem dX4_downBehind_14 : decode cX4_downBehind 14 = .ok (.iconst 0, 1) := by decide +kernel
theorem dX4_downBehind_15 : decode cX4_downBehind 15 = .ok (.aaload, 1) := by decide +kernel
theorem dX4_downBehind_16 : decode cX4_downBehind 16 = .ok (.aload_n 1, 1) := by decide +kernel
theorem dX4_downBehind_17 : decode cX4_downBehind 17 = .ok (.iload_n 3, 1) := by decide +kernel
theorem dX4_downBehind_18 : decode cX4_downBehind 18 = .ok (.iload 4, 2) := by decide +kernel
theorem dX4_downBehind_20 : decode cX4_downBehind 20 = .ok (.iload 5, 2) := by decide +kernel
theorem dX4_downBehind_22 : decode cX4_downBehind 22 = .ok (.invokevirtual 32, 3) := by decide +kernel
theorem dX4_downBehind_25 : decode cX4_downBehind 25 = .ok (.pop, 1) := by decide +kernel
theorem dX4_downBehind_26 : decode cX4_downBehind 26 = .ok (.aload_n 0, 1) := by decide +kernel
theorem dX4_downBehind_27 : decode cX4_downBehind 27 = .ok (.getfield 13, 3) := by decide +kernel
theorem dX4_downBehind_30 : decode cX4_downBehind 30 = .ok (.iconst 0, 1) := by decide +kernel
theorem dX4_downBehind_31 : decode cX4_downBehind 31 = .ok (.aaload, 1) := by decide +kernel
theorem dX4_downBehind_32 : decode cX4_downBehind 32 = .ok (.getfield 36, 3) := by decide +kernel
theorem dX4_downBehind_35 : decode cX4_downBehind 35 = .ok (.ireturn, 1) := by decide +kernel
theorem dX4_firstRow_0 : decode cX4_firstRow 0 = .ok (.aload_n 0, 1) := by decide +kernel
theorem dX4_firstRow_1 : decode cX4_firstRow 1 = .ok (.getfield 13, 3) := by decide +kernel
theorem dX4_firstRow_4 : decode cX4_firstRow 4 = .ok (.iconst 0, 1) := by decide +kernel
theorem dX4_firstRow_5 : decode cX4_firstRow 5 = .ok (.aaload, 1) := by decide +kernel
theorem dX4_firstRow_6 : decode cX4_firstRow 6 = .ok (.aload_n 2, 1) := by decide +kernel
theorem dX4_firstRow_7 : decode cX4_firstRow 7 = .ok (.invokevirtual 26, 3) := by decide +kernel
theorem dX4_firstRow_10 : decode cX4_firstRow 10 = .ok (.aload_n 0, 1) := by decide +kernel
theorem dX4_firstRow_11 : decode cX4_firstRow 11 = .ok (.getfield 13, 3) := by decide +kernel
theorem dX4_firstRow_14 : decode cX4_firstRow 14 = .ok (.aload_n 1, 1) := by decide +kernel
theorem dX4_firstRow_15 : decode cX4_firstRow 15 = .ok (.iload_n 3, 1) := by decide +kernel
theorem dX4_firstRow_16 : decode cX4_firstRow 16 = .ok (.iconst 0, 1) := by decide +kernel
theorem dX4_firstRow_17 : decode cX4_firstRow 17 = .ok (.iload 4, 2) := by decide +kernel
theorem dX4_firstRow_19 : decode cX4_firstRow 19 = .ok (.invokestatic 39, 3) := by decide +kernel
theorem dX4_firstRow_22 : decode cX4_firstRow 22 = .ok (.ireturn, 1) := by decide +kernel
theorem dX4_rowFrom_0 : decode cX4_rowFrom 0 = .ok (.aload_n 0, 1) := by decide +kernel
theorem dX4_rowFrom_1 : decode cX4_rowFrom 1 = .ok (.iload_n 3, 1) := by decide +kernel
theorem dX4_rowFrom_2 : decode cX4_rowFrom 2 = .ok (.aaload, 1) := by decide +kernel
theorem dX4_rowFrom_3 : decode cX4_rowFrom 3 = .ok (.astore 5, 2) := by decide +kernel
theorem dX4_rowFrom_5 : decode cX4_rowFrom 5 = .ok (.iload_n 3, 1) := by decide +kernel
theorem dX4_rowFrom_6 : decode cX4_rowFrom 6 = .ok (.iload 4, 2) := by decide +kernel
theorem dX4_rowFrom_8 : decode cX4_rowFrom 8 = .ok (.if_icmp .ge 8, 3) := by decide +kernel
theorem dX4_rowFrom_11 : decode cX4_rowFrom 11 = .ok (.iload_n 3, 1) := by decide +kernel
theorem dX4_rowFrom_12 : decode cX4_rowFrom 12 = .ok (.iconst 3, 1) := by decide +kernel
theorem dX4_rowFrom_13 : decode cX4_rowFrom 13 = .ok (.if_icmp .lt 19, 3) := by decide +kernel
theorem dX4_rowFrom_16 : decode cX4_rowFrom 16 = .ok (.aload 5, 2) := by decide +kernel
theorem dX4_rowFrom_18 : decode cX4_rowFrom 18 = .ok (.iload_n 2, 1) := by decide +kernel
theorem dX4_rowFrom_19 : decode cX4_rowFrom 19 = .ok (.invokevirtual 43, 3) := by decide +kernel
theorem dX4_rowFrom_22 : decode cX4_rowFrom 22 = .ok (.ifCond .eq 8, 3) := by decide +kernel
theorem dX4_rowFrom_25 : decode cX4_rowFrom 25 = .ok (.bipush (-9), 2) := by decide +kernel
theorem dX4_rowFrom_27 : decode cX4_rowFrom 27 = .ok (.goto 4, 3) := by decide +kernel
theorem dX4_rowFrom_30 : decode cX4_rowFrom 30 = .ok (.iconst 0, 1) := by decide +kernel
theorem dX4_rowFrom_31 : decode cX4_rowFrom 31 = .ok (.ireturn, 1) := by decide +kernel
theorem dX4_rowFrom_32 : decode cX4_rowFrom 32 = .ok (.iconst 0, 1) := by decide +kernel
theorem dX4_rowFrom_33 : decode cX4_rowFrom 33 = .ok (.istore 6, 2) := by decide +kernel
theorem dX4_rowFrom_35 : decode cX4_rowFrom 35 = .ok (.iload 6, 2) := by decide +kernel
theorem dX4_rowFrom_37 : decode cX4_rowFrom 37 = .ok (.aload_n 1, 1) := by decide +kernel
theorem dX4_rowFrom_38 : decode cX4_rowFrom 38 = .ok (.getfield 47, 3) := by decide +kernel
theorem dX4_rowFrom_41 : decode cX4_rowFrom 41 = .ok (.if_icmp .ge 113, 3) := by decide +kernel
theorem dX4_rowFrom_44 : decode cX4_rowFrom 44 = .ok (.iconst 0, 1) := by decide +kernel
theorem dX4_rowFrom_45 : decode cX4_rowFrom 45 = .ok (.istore 7, 2) := by decide +kernel
theorem dX4_rowFrom_47 : decode cX4_rowFrom 47 = .ok (.iload 7, 2) := by decide +kernel
theorem dX4_rowFrom_49 : decode cX4_rowFrom 49 = .ok (.aload_n 1, 1) := by decide +kernel
theorem dX4_rowFrom_50 : decode cX4_rowFrom 50 = .ok (.getfield 52, 3) := by decide +kernel
theorem dX4_rowFrom_53 : decode cX4_rowFrom 53 = .ok (.if_icmp .ge 95, 3) := by decide +kernel
theorem dX4_rowFrom_56 : decode cX4_rowFrom 56 = .ok (.aload 5, 2) := by decide +kernel
theorem dX4_rowFrom_58 : decode cX4_rowFrom 58 = .ok (.aload_n 1, 1) := by decide +kernel
theorem dX4_rowFrom_59 : decode cX4_rowFrom 59 = .ok (.iload 6, 2) := by decide +kernel
theorem dX4_rowFrom_61 : decode cX4_rowFrom 61 = .ok (.iload 7, 2) := by decide +kernel
theorem dX4_rowFrom_63 : decode cX4_rowFrom 63 = .ok (.invokevirtual 55, 3) := by decide +kernel
theorem dX4_rowFrom_66 : decode cX4_rowFrom 66 = .ok (.ifCond .ne 6, 3) := by decide +kernel
theorem dX4_rowFrom_69 : decode cX4_rowFrom 69 = .ok (.goto 73, 3) := by decide +kernel
theorem dX4_rowFrom_72 : decode cX4_rowFrom 72 = .ok (.aload_n 0, 1) := by decide +kernel
theorem dX4_rowFrom_73 : decode cX4_rowFrom 73 = .ok (.iload_n 3, 1) := by decide +kernel
theorem dX4_rowFrom_74 : decode cX4_rowFrom 74 = .ok (.iconst 1, 1) := by decide +kernel
theorem dX4_rowFrom_75 : decode cX4_rowFrom 75 = .ok (.iadd, 1) := by decide +kernel
theorem dX4_rowFrom_76 : decode cX4_rowFrom 76 = .ok (.aaload, 1) := by decide +kernel
theorem dX4_rowFrom_77 : decode cX4_rowFrom 77 = .ok (.aload 5, 2) := by decide +kernel
theorem dX4_rowFrom_79 : decode cX4_rowFrom 79 = .ok (.invokevirtual 26, 3) := by decide +kernel
theorem dX4_rowFrom_82 : decode cX4_rowFrom 82 = .ok (.aload_n 0, 1) := by decide +kernel
theorem dX4_rowFrom_83 : decode cX4_rowFrom 83 = .ok (.iload_n 3, 1) := by decide +kernel
theorem dX4_rowFrom_84 : decode cX4_rowFrom 84 = .ok (.iconst 1, 1) := by decide +kernel
theorem dX4_rowFrom_85 : decode cX4_rowFrom 85 = .ok (.iadd, 1) := by decide +kernel
theorem dX4_rowFrom_86 : decode cX4_rowFrom 86 = .ok (.aaload, 1) := by decide +kernel
theorem dX4_rowFrom_87 : decode cX4_rowFrom 87 = .ok (.aload_n 1, 1) := by decide +kernel
theorem dX4_rowFrom_88 : decode cX4_rowFrom 88 = .ok (.iload 6, 2) := by decide +kernel
theorem dX4_rowFrom_90 : decode cX4_rowFrom 90 = .ok (.iload 7, 2) := by decide +kernel
theorem dX4_rowFrom_92 : decode cX4_rowFrom 92 = .ok (.invokevirtual 59, 3) := by decide +kernel
theorem dX4_rowFrom_95 : decode cX4_rowFrom 95 = .ok (.pop, 1) := by decide +kernel
theorem dX4_rowFrom_96 : decode cX4_rowFrom 96 = .ok (.aload_n 0, 1) := by decide +kernel
theorem dX4_rowFrom_97 : decode cX4_rowFrom 97 = .ok (.aload_n 1, 1) := by decide +kernel
theorem dX4_rowFrom_98 : decode cX4_rowFrom 98 = .ok (.iload_n 2, 1) := by decide +kernel
theorem dX4_rowFrom_99 : decode cX4_rowFrom 99 = .ok (.iload_n 3, 1) := by decide +kernel
theorem dX4_rowFrom_100 : decode cX4_rowFrom 100 = .ok (.iconst 1, 1) := by decide +kernel
theorem dX4_rowFrom_101 : decode cX4_rowFrom 101 = .ok (.iadd, 1) := by decide +kernel
theorem dX4_rowFrom_102 : decode cX4_rowFrom 102 = .ok (.iload 4, 2) := by decide +kernel
theorem dX4_rowFrom_104 : decode cX4_rowFrom 104 = .ok (.invokestatic 39, 3) := by decide +kernel
theorem dX4_rowFrom_107 : decode cX4_rowFrom 107 = .ok (.istore 8, 2) := by decide +kernel
theorem dX4_rowFrom_109 : decode cX4_rowFrom 109 = .ok (.iload 8, 2) := by decide +kernel
theorem dX4_rowFrom_111 : decode cX4_rowFrom 111 = .ok (.bipush (-9), 2) := by decide +kernel
theorem dX4_rowFrom_113 : decode cX4_rowFrom 113 = .ok (.if_icmp .eq 29, 3) := by decide +kernel
theorem dX4_rowFrom_116 : decode cX4_rowFrom 116 = .ok (.bipush 10, 2) := by decide +kernel
theorem dX4_rowFrom_118 : decode cX4_rowFrom 118 = .ok (.iload 6, 2) := by decide +kernel
theorem dX4_rowFrom_120 : decode cX4_rowFrom 120 = .ok (.iconst 1, 1) := by decide +kernel
theorem dX4_rowFrom_121 : decode cX4_rowFrom 121 = .ok (.iadd, 1) := by decide +kernel
theorem dX4_rowFrom_122 : decode cX4_rowFrom 122 = .ok (.imul, 1) := by decide +kernel
theorem dX4_rowFrom_123 : decode cX4_rowFrom 123 = .ok (.iload 7, 2) := by decide +kernel
theorem dX4_rowFrom_125 : decode cX4_rowFrom 125 = .ok (.iadd, 1) := by decide +kernel
theorem dX4_rowFrom_126 : decode cX4_rowFrom 126 = .ok (.iconst 1, 1) := by decide +kernel
theorem dX4_rowFrom_127 : decode cX4_rowFrom 127 = .ok (.iadd, 1) := by decide +kernel
theorem dX4_rowFrom_128 : decode cX4_rowFrom 128 = .ok (.iload 4, 2) := by decide +kernel
theorem dX4_rowFrom_130 : decode cX4_rowFrom 130 = .ok (.iload_n 3, 1) := by decide +kernel
theorem dX4_rowFrom_131 : decode cX4_rowFrom 131 = .ok (.isub, 1) := by decide +kernel
theorem dX4_rowFrom_132 : decode cX4_rowFrom 132 = .ok (.iconst 1, 1) := by decide +kernel
theorem dX4_rowFrom_133 : decode cX4_rowFrom 133 = .ok (.isub, 1) := by decide +kernel
theorem dX4_rowFrom_134 : decode cX4_rowFrom 134 = .ok (.invokestatic 63, 3) := by decide +kernel
theorem dX4_rowFrom_137 : decode cX4_rowFrom 137 = .ok (.imul, 1) := by decide +kernel
theorem dX4_rowFrom_138 : decode cX4_rowFrom 138 = .ok (.iload 8, 2) := by decide +kernel
theorem dX4_rowFrom_140 : decode cX4_rowFrom 140 = .ok (.iadd, 1) := by decide +kernel
theorem dX4_rowFrom_141 : decode cX4_rowFrom 141 = .ok (.ireturn, 1) := by decide +kernel
theorem dX4_rowFrom_142 : decode cX4_rowFrom 142 = .ok (.iinc 7 1, 3) := by decide +kernel
theorem dX4_rowFrom_145 : decode cX4_rowFrom 145 = .ok (.goto (-98), 3) := by decide +kernel
theorem dX4_rowFrom_148 : decode cX4_rowFrom 148 = .ok (.iinc 6 1, 3) := by decide +kernel
theorem dX4_rowFrom_151 : decode cX4_rowFrom 151 = .ok (.goto (-116), 3) := by decide +kernel
theorem dX4_rowFrom_154 : decode cX4_rowFrom 154 = .ok (.bipush (-9), 2) := by decide +kernel
theorem dX4_rowFrom_156 : decode cX4_rowFrom 156 = .ok (.ireturn, 1) := by decide +kernel
theorem dX4_matchAmong_0 : decode cX4_matchAmong 0 = .ok (.aload_n 0, 1) := by decide +kernel
theorem dX4_matchAmong_1 : decode cX4_matchAmong 1 = .ok (.bipush (-9), 2) := by decide +kernel
theorem dX4_matchAmong_3 : decode cX4_matchAmong 3 = .ok (.putfield 19, 3) := by decide +kernel
theorem dX4_matchAmong_6 : decode cX4_matchAmong 6 = .ok (.aload_n 0, 1) := by decide +kernel
theorem dX4_matchAmong_7 : decode cX4_matchAmong 7 = .ok (.iconst 1, 1) := by decide +kernel
theorem dX4_matchAmong_8 : decode cX4_matchAmong 8 = .ok (.putfield 23, 3) := by decide +kernel
theorem dX4_matchAmong_11 : decode cX4_matchAmong 11 = .ok (.aload_n 0, 1) := by decide +kernel
theorem dX4_matchAmong_12 : decode cX4_matchAmong 12 = .ok (.getfield 13, 3) := by decide +kernel
theorem dX4_matchAmong_15 : decode cX4_matchAmong 15 = .ok (.iconst 0, 1) := by decide +kernel
theorem dX4_matchAmong_16 : decode cX4_matchAmong 16 = .ok (.aaload, 1) := by decide +kernel
theorem dX4_matchAmong_17 : decode cX4_matchAmong 17 = .ok (.aload_n 2, 1) := by decide +kernel
theorem dX4_matchAmong_18 : decode cX4_matchAmong 18 = .ok (.invokevirtual 26, 3) := by decide +kernel
theorem dX4_matchAmong_21 : decode cX4_matchAmong 21 = .ok (.aload_n 0, 1) := by decide +kernel
theorem dX4_matchAmong_22 : decode cX4_matchAmong 22 = .ok (.aload_n 1, 1) := by decide +kernel
theorem dX4_matchAmong_23 : decode cX4_matchAmong 23 = .ok (.iload_n 3, 1) := by decide +kernel
theorem dX4_matchAmong_24 : decode cX4_matchAmong 24 = .ok (.iconst 0, 1) := by decide +kernel
theorem dX4_matchAmong_25 : decode cX4_matchAmong 25 = .ok (.iconst 1, 1) := by decide +kernel
theorem dX4_matchAmong_26 : decode cX4_matchAmong 26 = .ok (.invokestatic 67, 3) := by decide +kernel
theorem dX4_matchAmong_29 : decode cX4_matchAmong 29 = .ok (.aload_n 0, 1) := by decide +kernel
theorem dX4_matchAmong_30 : decode cX4_matchAmong 30 = .ok (.getfield 19, 3) := by decide +kernel
theorem dX4_matchAmong_33 : decode cX4_matchAmong 33 = .ok (.ireturn, 1) := by decide +kernel
theorem dX4_matchFrom_0 : decode cX4_matchFrom 0 = .ok (.aload_n 0, 1) := by decide +kernel
theorem dX4_matchFrom_1 : decode cX4_matchFrom 1 = .ok (.getfield 13, 3) := by decide +kernel
theorem dX4_matchFrom_4 : decode cX4_matchFrom 4 = .ok (.iload_n 3, 1) := by decide +kernel
theorem dX4_matchFrom_5 : decode cX4_matchFrom 5 = .ok (.aaload, 1) := by decide +kernel
theorem dX4_matchFrom_6 : decode cX4_matchFrom 6 = .ok (.astore 5, 2) := by decide +kernel
theorem dX4_matchFrom_8 : decode cX4_matchFrom 8 = .ok (.iload_n 3, 1) := by decide +kernel
theorem dX4_matchFrom_9 : decode cX4_matchFrom 9 = .ok (.aload_n 1, 1) := by decide +kernel
theorem dX4_matchFrom_10 : decode cX4_matchFrom 10 = .ok (.getfield 47, 3) := by decide +kernel
theorem dX4_matchFrom_13 : decode cX4_matchFrom 13 = .ok (.if_icmp .ge 8, 3) := by decide +kernel
theorem dX4_matchFrom_16 : decode cX4_matchFrom 16 = .ok (.iload_n 3, 1) := by decide +kernel
theorem dX4_matchFrom_17 : decode cX4_matchFrom 17 = .ok (.iconst 4, 1) := by decide +kernel
theorem dX4_matchFrom_18 : decode cX4_matchFrom 18 = .ok (.if_icmp .lt 15, 3) := by decide +kernel
theorem dX4_matchFrom_21 : decode cX4_matchFrom 21 = .ok (.aload_n 0, 1) := by decide +kernel
theorem dX4_matchFrom_22 : decode cX4_matchFrom 22 = .ok (.aload 5, 2) := by decide +kernel
theorem dX4_matchFrom_24 : decode cX4_matchFrom 24 = .ok (.invokevirtual 71, 3) := by decide +kernel
theorem dX4_matchFrom_27 : decode cX4_matchFrom 27 = .ok (.iload 4, 2) := by decide +kernel
theorem dX4_matchFrom_29 : decode cX4_matchFrom 29 = .ok (.invokevirtual 75, 3) := by decide +kernel
theorem dX4_matchFrom_32 : decode cX4_matchFrom 32 = .ok (.return_, 1) := by decide +kernel
theorem dX4_matchFrom_33 : decode cX4_matchFrom 33 = .ok (.aload_n 0, 1) := by decide +kernel
theorem dX4_matchFrom_34 : decode cX4_matchFrom 34 = .ok (.getfield 13, 3) := by decide +kernel
theorem dX4_matchFrom_37 : decode cX4_matchFrom 37 = .ok (.iload_n 3, 1) := by decide +kernel
theorem dX4_matchFrom_38 : decode cX4_matchFrom 38 = .ok (.iconst 1, 1) := by decide +kernel
theorem dX4_matchFrom_39 : decode cX4_matchFrom 39 = .ok (.iadd, 1) := by decide +kernel
theorem dX4_matchFrom_40 : decode cX4_matchFrom 40 = .ok (.aaload, 1) := by decide +kernel
theorem dX4_matchFrom_41 : decode cX4_matchFrom 41 = .ok (.astore 6, 2) := by decide +kernel
theorem dX4_matchFrom_43 : decode cX4_matchFrom 43 = .ok (.aload 6, 2) := by decide +kernel
theorem dX4_matchFrom_45 : decode cX4_matchFrom 45 = .ok (.aload 5, 2) := by decide +kernel
theorem dX4_matchFrom_47 : decode cX4_matchFrom 47 = .ok (.invokevirtual 26, 3) := by decide +kernel
theorem dX4_matchFrom_50 : decode cX4_matchFrom 50 = .ok (.aload_n 0, 1) := by decide +kernel
theorem dX4_matchFrom_51 : decode cX4_matchFrom 51 = .ok (.aload_n 1, 1) := by decide +kernel
theorem dX4_matchFrom_52 : decode cX4_matchFrom 52 = .ok (.iload_n 2, 1) := by decide +kernel
theorem dX4_matchFrom_53 : decode cX4_matchFrom 53 = .ok (.iload_n 3, 1) := by decide +kernel
theorem dX4_matchFrom_54 : decode cX4_matchFrom 54 = .ok (.iconst 1, 1) := by decide +kernel
theorem dX4_matchFrom_55 : decode cX4_matchFrom 55 = .ok (.iadd, 1) := by decide +kernel
theorem dX4_matchFrom_56 : decode cX4_matchFrom 56 = .ok (.bipush 10, 2) := by decide +kernel
theorem dX4_matchFrom_58 : decode cX4_matchFrom 58 = .ok (.iload 4, 2) := by decide +kernel
theorem dX4_matchFrom_60 : decode cX4_matchFrom 60 = .ok (.imul, 1) := by decide +kernel
theorem dX4_matchFrom_61 : decode cX4_matchFrom 61 = .ok (.invokestatic 67, 3) := by decide +kernel
theorem dX4_matchFrom_64 : decode cX4_matchFrom 64 = .ok (.iload_n 2, 1) := by decide +kernel
theorem dX4_matchFrom_65 : decode cX4_matchFrom 65 = .ok (.iload_n 3, 1) := by decide +kernel
theorem dX4_matchFrom_66 : decode cX4_matchFrom 66 = .ok (.invokestatic 79, 3) := by decide +kernel
theorem dX4_matchFrom_69 : decode cX4_matchFrom 69 = .ok (.ifCond .ne 4, 3) := by decide +kernel
theorem dX4_matchFrom_72 : decode cX4_matchFrom 72 = .ok (.return_, 1) := by decide +kernel
theorem dX4_matchFrom_73 : decode cX4_matchFrom 73 = .ok (.iconst 0, 1) := by decide +kernel
theorem dX4_matchFrom_74 : decode cX4_matchFrom 74 = .ok (.istore 7, 2) := by decide +kernel
theorem dX4_matchFrom_76 : decode cX4_matchFrom 76 = .ok (.iload 7, 2) := by decide +kernel
theorem dX4_matchFrom_78 : decode cX4_matchFrom 78 = .ok (.aload_n 1, 1) := by decide +kernel
theorem dX4_matchFrom_79 : decode cX4_matchFrom 79 = .ok (.getfield 52, 3) := by decide +kernel
theorem dX4_matchFrom_82 : decode cX4_matchFrom 82 = .ok (.if_icmp .ge 57, 3) := by decide +kernel
theorem dX4_matchFrom_85 : decode cX4_matchFrom 85 = .ok (.aload 5, 2) := by decide +kernel
theorem dX4_matchFrom_87 : decode cX4_matchFrom 87 = .ok (.aload_n 1, 1) := by decide +kernel
theorem dX4_matchFrom_88 : decode cX4_matchFrom 88 = .ok (.iload_n 3, 1) := by decide +kernel
theorem dX4_matchFrom_89 : decode cX4_matchFrom 89 = .ok (.iload 7, 2) := by decide +kernel
theorem dX4_matchFrom_91 : decode cX4_matchFrom 91 = .ok (.invokevirtual 55, 3) := by decide +kernel
theorem dX4_matchFrom_94 : decode cX4_matchFrom 94 = .ok (.ifCond .eq 39, 3) := by decide +kernel
theorem dX4_matchFrom_97 : decode cX4_matchFrom 97 = .ok (.aload 6, 2) := by decide +kernel
theorem dX4_matchFrom_99 : decode cX4_matchFrom 99 = .ok (.aload 5, 2) := by decide +kernel
theorem dX4_matchFrom_101 : decode cX4_matchFrom 101 = .ok (.invokevirtual 26, 3) := by decide +kernel
theorem dX4_matchFrom_104 : decode cX4_matchFrom 104 = .ok (.aload 6, 2) := by decide +kernel
theorem dX4_matchFrom_106 : decode cX4_matchFrom 106 = .ok (.aload_n 1, 1) := by decide +kernel
theorem dX4_matchFrom_107 : decode cX4_matchFrom 107 = .ok (.iload_n 3, 1) := by decide +kernel
theorem dX4_matchFrom_108 : decode cX4_matchFrom 108 = .ok (.iload 7, 2) := by decide +kernel
theorem dX4_matchFrom_110 : decode cX4_matchFrom 110 = .ok (.invokevirtual 59, 3) := by decide +kernel
theorem dX4_matchFrom_113 : decode cX4_matchFrom 113 = .ok (.pop, 1) := by decide +kernel
theorem dX4_matchFrom_114 : decode cX4_matchFrom 114 = .ok (.aload_n 0, 1) := by decide +kernel
theorem dX4_matchFrom_115 : decode cX4_matchFrom 115 = .ok (.aload_n 1, 1) := by decide +kernel
theorem dX4_matchFrom_116 : decode cX4_matchFrom 116 = .ok (.iload_n 2, 1) := by decide +kernel
theorem dX4_matchFrom_117 : decode cX4_matchFrom 117 = .ok (.iload_n 3, 1) := by decide +kernel
theorem dX4_matchFrom_118 : decode cX4_matchFrom 118 = .ok (.iconst 1, 1) := by decide +kernel
theorem dX4_matchFrom_119 : decode cX4_matchFrom 119 = .ok (.iadd, 1) := by decide +kernel
theorem dX4_matchFrom_120 : decode cX4_matchFrom 120 = .ok (.bipush 10, 2) := by decide +kernel
theorem dX4_matchFrom_122 : decode cX4_matchFrom 122 = .ok (.iload 4, 2) := by decide +kernel
theorem dX4_matchFrom_124 : decode cX4_matchFrom 124 = .ok (.imul, 1) := by decide +kernel
theorem dX4_matchFrom_125 : decode cX4_matchFrom 125 = .ok (.iload 7, 2) := by decide +kernel
theorem dX4_matchFrom_127 : decode cX4_matchFrom 127 = .ok (.iadd, 1) := by decide +kernel
theorem dX4_matchFrom_128 : decode cX4_matchFrom 128 = .ok (.iconst 1, 1) := by decide +kernel
theorem dX4_matchFrom_129 : decode cX4_matchFrom 129 = .ok (.iadd, 1) := by decide +kernel
theorem dX4_matchFrom_130 : decode cX4_matchFrom 130 = .ok (.invokestatic 67, 3) := by decide +kernel
theorem dX4_matchFrom_133 : decode cX4_matchFrom 133 = .ok (.iinc 7 1, 3) := by decide +kernel
theorem dX4_matchFrom_136 : decode cX4_matchFrom 136 = .ok (.goto (-60), 3) := by decide +kernel
theorem dX4_matchFrom_139 : decode cX4_matchFrom 139 = .ok (.return_, 1) := by decide +kernel
theorem dX4_weigh_0 : decode cX4_weigh 0 = .ok (.iload_n 1, 1) := by decide +kernel
theorem dX4_weigh_1 : decode cX4_weigh 1 = .ok (.aload_n 0, 1) := by decide +kernel
theorem dX4_weigh_2 : decode cX4_weigh 2 = .ok (.getfield 19, 3) := by decide +kernel
theorem dX4_weigh_5 : decode cX4_weigh 5 = .ok (.if_icmp .le 13, 3) := by decide +kernel
theorem dX4_weigh_8 : decode cX4_weigh 8 = .ok (.aload_n 0, 1) := by decide +kernel
theorem dX4_weigh_9 : decode cX4_weigh 9 = .ok (.iload_n 1, 1) := by decide +kernel
theorem dX4_weigh_10 : decode cX4_weigh 10 = .ok (.putfield 19, 3) := by decide +kernel
theorem dX4_weigh_13 : decode cX4_weigh 13 = .ok (.aload_n 0, 1) := by decide +kernel
theorem dX4_weigh_14 : decode cX4_weigh 14 = .ok (.iload_n 2, 1) := by decide +kernel
theorem dX4_weigh_15 : decode cX4_weigh 15 = .ok (.putfield 23, 3) := by decide +kernel
theorem dX4_weigh_18 : decode cX4_weigh 18 = .ok (.return_, 1) := by decide +kernel
theorem dX4_fewestNails_0 : decode cX4_fewestNails 0 = .ok (.iconst 1, 1) := by decide +kernel
theorem dX4_fewestNails_1 : decode cX4_fewestNails 1 = .ok (.aload_n 1, 1) := by decide +kernel
theorem dX4_fewestNails_2 : decode cX4_fewestNails 2 = .ok (.getfield 52, 3) := by decide +kernel
theorem dX4_fewestNails_5 : decode cX4_fewestNails 5 = .ok (.ishl, 1) := by decide +kernel
theorem dX4_fewestNails_6 : decode cX4_fewestNails 6 = .ok (.iconst 1, 1) := by decide +kernel
theorem dX4_fewestNails_7 : decode cX4_fewestNails 7 = .ok (.isub, 1) := by decide +kernel
theorem dX4_fewestNails_8 : decode cX4_fewestNails 8 = .ok (.aload_n 2, 1) := by decide +kernel
theorem dX4_fewestNails_9 : decode cX4_fewestNails 9 = .ok (.getfield 36, 3) := by decide +kernel
theorem dX4_fewestNails_12 : decode cX4_fewestNails 12 = .ok (.iconst (-1), 1) := by decide +kernel
theorem dX4_fewestNails_13 : decode cX4_fewestNails 13 = .ok (.ixor, 1) := by decide +kernel
theorem dX4_fewestNails_14 : decode cX4_fewestNails 14 = .ok (.iand, 1) := by decide +kernel
theorem dX4_fewestNails_15 : decode cX4_fewestNails 15 = .ok (.aload_n 2, 1) := by decide +kernel
theorem dX4_fewestNails_16 : decode cX4_fewestNails 16 = .ok (.getfield 83, 3) := by decide +kernel
theorem dX4_fewestNails_19 : decode cX4_fewestNails 19 = .ok (.iconst (-1), 1) := by decide +kernel
theorem dX4_fewestNails_20 : decode cX4_fewestNails 20 = .ok (.ixor, 1) := by decide +kernel
theorem dX4_fewestNails_21 : decode cX4_fewestNails 21 = .ok (.iand, 1) := by decide +kernel
theorem dX4_fewestNails_22 : decode cX4_fewestNails 22 = .ok (.istore 4, 2) := by decide +kernel
theorem dX4_fewestNails_24 : decode cX4_fewestNails 24 = .ok (.iconst 0, 1) := by decide +kernel
theorem dX4_fewestNails_25 : decode cX4_fewestNails 25 = .ok (.istore 5, 2) := by decide +kernel
theorem dX4_fewestNails_27 : decode cX4_fewestNails 27 = .ok (.iload 5, 2) := by decide +kernel
theorem dX4_fewestNails_29 : decode cX4_fewestNails 29 = .ok (.aload_n 1, 1) := by decide +kernel
theorem dX4_fewestNails_30 : decode cX4_fewestNails 30 = .ok (.getfield 52, 3) := by decide +kernel
theorem dX4_fewestNails_33 : decode cX4_fewestNails 33 = .ok (.if_icmp .gt 64, 3) := by decide +kernel
theorem dX4_fewestNails_36 : decode cX4_fewestNails 36 = .ok (.iconst 0, 1) := by decide +kernel
theorem dX4_fewestNails_37 : decode cX4_fewestNails 37 = .ok (.istore 6, 2) := by decide +kernel
theorem dX4_fewestNails_39 : decode cX4_fewestNails 39 = .ok (.iload 6, 2) := by decide +kernel
theorem dX4_fewestNails_41 : decode cX4_fewestNails 41 = .ok (.iconst 1, 1) := by decide +kernel
theorem dX4_fewestNails_42 : decode cX4_fewestNails 42 = .ok (.aload_n 1, 1) := by decide +kernel
theorem dX4_fewestNails_43 : decode cX4_fewestNails 43 = .ok (.getfield 52, 3) := by decide +kernel
theorem dX4_fewestNails_46 : decode cX4_fewestNails 46 = .ok (.ishl, 1) := by decide +kernel
theorem dX4_fewestNails_47 : decode cX4_fewestNails 47 = .ok (.if_icmp .ge 44, 3) := by decide +kernel
theorem dX4_fewestNails_50 : decode cX4_fewestNails 50 = .ok (.iload 6, 2) := by decide +kernel
theorem dX4_fewestNails_52 : decode cX4_fewestNails 52 = .ok (.invokestatic 86, 3) := by decide +kernel
theorem dX4_fewestNails_55 : decode cX4_fewestNails 55 = .ok (.iload 5, 2) := by decide +kernel
theorem dX4_fewestNails_57 : decode cX4_fewestNails 57 = .ok (.if_icmp .ne 28, 3) := by decide +kernel
theorem dX4_fewestNails_60 : decode cX4_fewestNails 60 = .ok (.iload 6, 2) := by decide +kernel
theorem dX4_fewestNails_62 : decode cX4_fewestNails 62 = .ok (.iload 4, 2) := by decide +kernel
theorem dX4_fewestNails_64 : decode cX4_fewestNails 64 = .ok (.iconst (-1), 1) := by decide +kernel
theorem dX4_fewestNails_65 : decode cX4_fewestNails 65 = .ok (.ixor, 1) := by decide +kernel
theorem dX4_fewestNails_66 : decode cX4_fewestNails 66 = .ok (.iand, 1) := by decide +kernel
theorem dX4_fewestNails_67 : decode cX4_fewestNails 67 = .ok (.ifCond .ne 18, 3) := by decide +kernel
theorem dX4_fewestNails_70 : decode cX4_fewestNails 70 = .ok (.aload_n 0, 1) := by decide +kernel
theorem dX4_fewestNails_71 : decode cX4_fewestNails 71 = .ok (.aload_n 1, 1) := by decide +kernel
theorem dX4_fewestNails_72 : decode cX4_fewestNails 72 = .ok (.aload_n 2, 1) := by decide +kernel
theorem dX4_fewestNails_73 : decode cX4_fewestNails 73 = .ok (.iload_n 3, 1) := by decide +kernel
theorem dX4_fewestNails_74 : decode cX4_fewestNails 74 = .ok (.iload 6, 2) := by decide +kernel
theorem dX4_fewestNails_76 : decode cX4_fewestNails 76 = .ok (.invokevirtual 91, 3) := by decide +kernel
theorem dX4_fewestNails_79 : decode cX4_fewestNails 79 = .ok (.ifCond .eq 6, 3) := by decide +kernel
theorem dX4_fewestNails_82 : decode cX4_fewestNails 82 = .ok (.iload 6, 2) := by decide +kernel
theorem dX4_fewestNails_84 : decode cX4_fewestNails 84 = .ok (.ireturn, 1) := by decide +kernel
theorem dX4_fewestNails_85 : decode cX4_fewestNails 85 = .ok (.iinc 6 1, 3) := by decide +kernel
theorem dX4_fewestNails_88 : decode cX4_fewestNails 88 = .ok (.goto (-49), 3) := by decide +kernel
theorem dX4_fewestNails_91 : decode cX4_fewestNails 91 = .ok (.iinc 5 1, 3) := by decide +kernel
theorem dX4_fewestNails_94 : decode cX4_fewestNails 94 = .ok (.goto (-67), 3) := by decide +kernel
theorem dX4_fewestNails_97 : decode cX4_fewestNails 97 = .ok (.bipush (-9), 2) := by decide +kernel
theorem dX4_fewestNails_99 : decode cX4_fewestNails 99 = .ok (.ireturn, 1) := by decide +kernel
theorem dX4_staysUp_0 : decode cX4_staysUp 0 = .ok (.iconst 0, 1) := by decide +kernel
theorem dX4_staysUp_1 : decode cX4_staysUp 1 = .ok (.istore 5, 2) := by decide +kernel
theorem dX4_staysUp_3 : decode cX4_staysUp 3 = .ok (.iload 5, 2) := by decide +kernel
theorem dX4_staysUp_5 : decode cX4_staysUp 5 = .ok (.aload_n 1, 1) := by decide +kernel
theorem dX4_staysUp_6 : decode cX4_staysUp 6 = .ok (.getfield 47, 3) := by decide +kernel
theorem dX4_staysUp_9 : decode cX4_staysUp 9 = .ok (.if_icmp .ge 98, 3) := by decide +kernel
theorem dX4_staysUp_12 : decode cX4_staysUp 12 = .ok (.iconst 0, 1) := by decide +kernel
theorem dX4_staysUp_13 : decode cX4_staysUp 13 = .ok (.istore 6, 2) := by decide +kernel
theorem dX4_staysUp_15 : decode cX4_staysUp 15 = .ok (.iload 6, 2) := by decide +kernel
theorem dX4_staysUp_17 : decode cX4_staysUp 17 = .ok (.aload_n 1, 1) := by decide +kernel
theorem dX4_staysUp_18 : decode cX4_staysUp 18 = .ok (.getfield 52, 3) := by decide +kernel
theorem dX4_staysUp_21 : decode cX4_staysUp 21 = .ok (.if_icmp .ge 80, 3) := by decide +kernel
theorem dX4_staysUp_24 : decode cX4_staysUp 24 = .ok (.aload_n 2, 1) := by decide +kernel
theorem dX4_staysUp_25 : decode cX4_staysUp 25 = .ok (.aload_n 1, 1) := by decide +kernel
theorem dX4_staysUp_26 : decode cX4_staysUp 26 = .ok (.iload 5, 2) := by decide +kernel
theorem dX4_staysUp_28 : decode cX4_staysUp 28 = .ok (.iload 6, 2) := by decide +kernel
theorem dX4_staysUp_30 : decode cX4_staysUp 30 = .ok (.invokevirtual 55, 3) := by decide +kernel
theorem dX4_staysUp_33 : decode cX4_staysUp 33 = .ok (.ifCond .ne 6, 3) := by decide +kernel
theorem dX4_staysUp_36 : decode cX4_staysUp 36 = .ok (.goto 59, 3) := by decide +kernel
theorem dX4_staysUp_39 : decode cX4_staysUp 39 = .ok (.aload_n 0, 1) := by decide +kernel
theorem dX4_staysUp_40 : decode cX4_staysUp 40 = .ok (.getfield 13, 3) := by decide +kernel
theorem dX4_staysUp_43 : decode cX4_staysUp 43 = .ok (.iconst 0, 1) := by decide +kernel
theorem dX4_staysUp_44 : decode cX4_staysUp 44 = .ok (.aaload, 1) := by decide +kernel
theorem dX4_staysUp_45 : decode cX4_staysUp 45 = .ok (.aload_n 2, 1) := by decide +kernel
theorem dX4_staysUp_46 : decode cX4_staysUp 46 = .ok (.invokevirtual 26, 3) := by decide +kernel
theorem dX4_staysUp_49 : decode cX4_staysUp 49 = .ok (.aload_n 0, 1) := by decide +kernel
theorem dX4_staysUp_50 : decode cX4_staysUp 50 = .ok (.getfield 13, 3) := by decide +kernel
theorem dX4_staysUp_53 : decode cX4_staysUp 53 = .ok (.iconst 0, 1) := by decide +kernel
theorem dX4_staysUp_54 : decode cX4_staysUp 54 = .ok (.aaload, 1) := by decide +kernel
theorem dX4_staysUp_55 : decode cX4_staysUp 55 = .ok (.dup, 1) := by decide +kernel
theorem dX4_staysUp_56 : decode cX4_staysUp 56 = .ok (.getfield 83, 3) := by decide +kernel
theorem dX4_staysUp_59 : decode cX4_staysUp 59 = .ok (.iload 4, 2) := by decide +kernel
theorem dX4_staysUp_61 : decode cX4_staysUp 61 = .ok (.ior, 1) := by decide +kernel
theorem dX4_staysUp_62 : decode cX4_staysUp 62 = .ok (.putfield 83, 3) := by decide +kernel
theorem dX4_staysUp_65 : decode cX4_staysUp 65 = .ok (.aload_n 0, 1) := by decide +kernel
theorem dX4_staysUp_66 : decode cX4_staysUp 66 = .ok (.getfield 13, 3) := by decide +kernel
theorem dX4_staysUp_69 : decode cX4_staysUp 69 = .ok (.iconst 0, 1) := by decide +kernel
theorem dX4_staysUp_70 : decode cX4_staysUp 70 = .ok (.aaload, 1) := by decide +kernel
theorem dX4_staysUp_71 : decode cX4_staysUp 71 = .ok (.aload_n 1, 1) := by decide +kernel
theorem dX4_staysUp_72 : decode cX4_staysUp 72 = .ok (.iload 5, 2) := by decide +kernel
theorem dX4_staysUp_74 : decode cX4_staysUp 74 = .ok (.iload 6, 2) := by decide +kernel
theorem dX4_staysUp_76 : decode cX4_staysUp 76 = .ok (.invokevirtual 59, 3) := by decide +kernel
theorem dX4_staysUp_79 : decode cX4_staysUp 79 = .ok (.pop, 1) := by decide +kernel
theorem dX4_staysUp_80 : decode cX4_staysUp 80 = .ok (.aload_n 0, 1) := by decide +kernel
theorem dX4_staysUp_81 : decode cX4_staysUp 81 = .ok (.getfield 13, 3) := by decide +kernel
theorem dX4_staysUp_84 : decode cX4_staysUp 84 = .ok (.iconst 0, 1) := by decide +kernel
theorem dX4_staysUp_85 : decode cX4_staysUp 85 = .ok (.aaload, 1) := by decide +kernel
theorem dX4_staysUp_86 : decode cX4_staysUp 86 = .ok (.iload_n 3, 1) := by decide +kernel
theorem dX4_staysUp_87 : decode cX4_staysUp 87 = .ok (.invokevirtual 43, 3) := by decide +kernel
theorem dX4_staysUp_90 : decode cX4_staysUp 90 = .ok (.ifCond .ne 5, 3) := by decide +kernel
theorem dX4_staysUp_93 : decode cX4_staysUp 93 = .ok (.iconst 0, 1) := by decide +kernel
theorem dX4_staysUp_94 : decode cX4_staysUp 94 = .ok (.ireturn, 1) := by decide +kernel
theorem dX4_staysUp_95 : decode cX4_staysUp 95 = .ok (.iinc 6 1, 3) := by decide +kernel
theorem dX4_staysUp_98 : decode cX4_staysUp 98 = .ok (.goto (-83), 3) := by decide +kernel
theorem dX4_staysUp_101 : decode cX4_staysUp 101 = .ok (.iinc 5 1, 3) := by decide +kernel
theorem dX4_staysUp_104 : decode cX4_staysUp 104 = .ok (.goto (-101), 3) := by decide +kernel
theorem dX4_staysUp_107 : decode cX4_staysUp 107 = .ok (.iconst 1, 1) := by decide +kernel
theorem dX4_staysUp_108 : decode cX4_staysUp 108 = .ok (.ireturn, 1) := by decide +kernel
theorem dX4_firstThatCanNotBe_0 : decode cX4_firstThatCanNotBe 0 = .ok (.aload_n 0, 1) := by decide +kernel
theorem dX4_firstThatCanNotBe_1 : decode cX4_firstThatCanNotBe 1 = .ok (.getfield 13, 3) := by decide +kernel
theorem dX4_firstThatCanNotBe_4 : decode cX4_firstThatCanNotBe 4 = .ok (.iconst 0, 1) := by decide +kernel
theorem dX4_firstThatCanNotBe_5 : decode cX4_firstThatCanNotBe 5 = .ok (.aaload, 1) := by decide +kernel
theorem dX4_firstThatCanNotBe_6 : decode cX4_firstThatCanNotBe 6 = .ok (.aload_n 2, 1) := by decide +kernel
theorem dX4_firstThatCanNotBe_7 : decode cX4_firstThatCanNotBe 7 = .ok (.invokevirtual 26, 3) := by decide +kernel
theorem dX4_firstThatCanNotBe_10 : decode cX4_firstThatCanNotBe 10 = .ok (.iconst 0, 1) := by decide +kernel
theorem dX4_firstThatCanNotBe_11 : decode cX4_firstThatCanNotBe 11 = .ok (.istore 5, 2) := by decide +kernel
theorem dX4_firstThatCanNotBe_13 : decode cX4_firstThatCanNotBe 13 = .ok (.iload 5, 2) := by decide +kernel
theorem dX4_firstThatCanNotBe_15 : decode cX4_firstThatCanNotBe 15 = .ok (.iload_n 3, 1) := by decide +kernel
theorem dX4_firstThatCanNotBe_16 : decode cX4_firstThatCanNotBe 16 = .ok (.if_icmp .ge 52, 3) := by decide +kernel
theorem dX4_firstThatCanNotBe_19 : decode cX4_firstThatCanNotBe 19 = .ok (.iload 4, 2) := by decide +kernel
theorem dX4_firstThatCanNotBe_21 : decode cX4_firstThatCanNotBe 21 = .ok (.iload_n 3, 1) := by decide +kernel
theorem dX4_firstThatCanNotBe_22 : decode cX4_firstThatCanNotBe 22 = .ok (.iconst 1, 1) := by decide +kernel
theorem dX4_firstThatCanNotBe_23 : decode cX4_firstThatCanNotBe 23 = .ok (.isub, 1) := by decide +kernel
theorem dX4_firstThatCanNotBe_24 : decode cX4_firstThatCanNotBe 24 = .ok (.iload 5, 2) := by decide +kernel
theorem dX4_firstThatCanNotBe_26 : decode cX4_firstThatCanNotBe 26 = .ok (.isub, 1) := by decide +kernel
theorem dX4_firstThatCanNotBe_27 : decode cX4_firstThatCanNotBe 27 = .ok (.invokestatic 63, 3) := by decide +kernel
theorem dX4_firstThatCanNotBe_30 : decode cX4_firstThatCanNotBe 30 = .ok (.idiv, 1) := by decide +kernel
theorem dX4_firstThatCanNotBe_31 : decode cX4_firstThatCanNotBe 31 = .ok (.bipush 100, 2) := by decide +kernel
theorem dX4_firstThatCanNotBe_33 : decode cX4_firstThatCanNotBe 33 = .ok (.irem, 1) := by decide +kernel
theorem dX4_firstThatCanNotBe_34 : decode cX4_firstThatCanNotBe 34 = .ok (.istore 6, 2) := by decide +kernel
theorem dX4_firstThatCanNotBe_36 : decode cX4_firstThatCanNotBe 36 = .ok (.aload_n 1, 1) := by decide +kernel
theorem dX4_firstThatCanNotBe_37 : decode cX4_firstThatCanNotBe 37 = .ok (.aload_n 0, 1) := by decide +kernel
theorem dX4_firstThatCanNotBe_38 : decode cX4_firstThatCanNotBe 38 = .ok (.getfield 13, 3) := by decide +kernel
theorem dX4_firstThatCanNotBe_41 : decode cX4_firstThatCanNotBe 41 = .ok (.iconst 0, 1) := by decide +kernel
theorem dX4_firstThatCanNotBe_42 : decode cX4_firstThatCanNotBe 42 = .ok (.aaload, 1) := by decide +kernel
theorem dX4_firstThatCanNotBe_43 : decode cX4_firstThatCanNotBe 43 = .ok (.iload 6, 2) := by decide +kernel
theorem dX4_firstThatCanNotBe_45 : decode cX4_firstThatCanNotBe 45 = .ok (.bipush 10, 2) := by decide +kernel
theorem dX4_firstThatCanNotBe_47 : decode cX4_firstThatCanNotBe 47 = .ok (.idiv, 1) := by decide +kernel
theorem dX4_firstThatCanNotBe_48 : decode cX4_firstThatCanNotBe 48 = .ok (.iload 6, 2) := by decide +kernel
theorem dX4_firstThatCanNotBe_50 : decode cX4_firstThatCanNotBe 50 = .ok (.bipush 10, 2) := by decide +kernel
theorem dX4_firstThatCanNotBe_52 : decode cX4_firstThatCanNotBe 52 = .ok (.irem, 1) := by decide +kernel
theorem dX4_firstThatCanNotBe_53 : decode cX4_firstThatCanNotBe 53 = .ok (.invokestatic 95, 3) := by decide +kernel
theorem dX4_firstThatCanNotBe_56 : decode cX4_firstThatCanNotBe 56 = .ok (.ifCond .ne 6, 3) := by decide +kernel
theorem dX4_firstThatCanNotBe_59 : decode cX4_firstThatCanNotBe 59 = .ok (.iload 5, 2) := by decide +kernel
theorem dX4_firstThatCanNotBe_61 : decode cX4_firstThatCanNotBe 61 = .ok (.ireturn, 1) := by decide +kernel
theorem dX4_firstThatCanNotBe_62 : decode cX4_firstThatCanNotBe 62 = .ok (.iinc 5 1, 3) := by decide +kernel
theorem dX4_firstThatCanNotBe_65 : decode cX4_firstThatCanNotBe 65 = .ok (.goto (-52), 3) := by decide +kernel
theorem dX4_firstThatCanNotBe_68 : decode cX4_firstThatCanNotBe 68 = .ok (.bipush (-9), 2) := by decide +kernel
theorem dX4_firstThatCanNotBe_70 : decode cX4_firstThatCanNotBe 70 = .ok (.ireturn, 1) := by decide +kernel
theorem dX4_couldBeDone_0 : decode cX4_couldBeDone 0 = .ok (.iload_n 2, 1) := by decide +kernel
theorem dX4_couldBeDone_1 : decode cX4_couldBeDone 1 = .ok (.bipush 6, 2) := by decide +kernel
theorem dX4_couldBeDone_3 : decode cX4_couldBeDone 3 = .ok (.if_icmp .ne 20, 3) := by decide +kernel
theorem dX4_couldBeDone_6 : decode cX4_couldBeDone 6 = .ok (.iload_n 3, 1) := by decide +kernel
theorem dX4_couldBeDone_7 : decode cX4_couldBeDone 7 = .ok (.ifCond .ne 14, 3) := by decide +kernel
theorem dX4_couldBeDone_10 : decode cX4_couldBeDone 10 = .ok (.aload_n 1, 1) := by decide +kernel
theorem dX4_couldBeDone_11 : decode cX4_couldBeDone 11 = .ok (.invokevirtual 98, 3) := by decide +kernel
theorem dX4_couldBeDone_14 : decode cX4_couldBeDone 14 = .ok (.ifCond .eq 7, 3) := by decide +kernel
theorem dX4_couldBeDone_17 : decode cX4_couldBeDone 17 = .ok (.iconst 1, 1) := by decide +kernel
theorem dX4_couldBeDone_18 : decode cX4_couldBeDone 18 = .ok (.goto 4, 3) := by decide +kernel
theorem dX4_couldBeDone_21 : decode cX4_couldBeDone 21 = .ok (.iconst 0, 1) := by decide +kernel
theorem dX4_couldBeDone_22 : decode cX4_couldBeDone 22 = .ok (.ireturn, 1) := by decide +kernel
theorem dX4_couldBeDone_23 : decode cX4_couldBeDone 23 = .ok (.aload_n 0, 1) := by decide +kernel
theorem dX4_couldBeDone_24 : decode cX4_couldBeDone 24 = .ok (.iload_n 3, 1) := by decide +kernel
theorem dX4_couldBeDone_25 : decode cX4_couldBeDone 25 = .ok (.invokevirtual 102, 3) := by decide +kernel
theorem dX4_couldBeDone_28 : decode cX4_couldBeDone 28 = .ok (.ifCond .ne 5, 3) := by decide +kernel
theorem dX4_couldBeDone_31 : decode cX4_couldBeDone 31 = .ok (.iconst 0, 1) := by decide +kernel
theorem dX4_couldBeDone_32 : decode cX4_couldBeDone 32 = .ok (.ireturn, 1) := by decide +kernel
theorem dX4_couldBeDone_33 : decode cX4_couldBeDone 33 = .ok (.iload_n 2, 1) := by decide +kernel
theorem dX4_couldBeDone_34 : decode cX4_couldBeDone 34 = .ok (.ifCond .ne 9, 3) := by decide +kernel
theorem dX4_couldBeDone_37 : decode cX4_couldBeDone 37 = .ok (.aload_n 1, 1) := by decide +kernel
theorem dX4_couldBeDone_38 : decode cX4_couldBeDone 38 = .ok (.iload_n 3, 1) := by decide +kernel
theorem dX4_couldBeDone_39 : decode cX4_couldBeDone 39 = .ok (.invokevirtual 105, 3) := by decide +kernel
theorem dX4_couldBeDone_42 : decode cX4_couldBeDone 42 = .ok (.ireturn, 1) := by decide +kernel
theorem dX4_couldBeDone_43 : decode cX4_couldBeDone 43 = .ok (.iload_n 2, 1) := by decide +kernel
theorem dX4_couldBeDone_44 : decode cX4_couldBeDone 44 = .ok (.iconst 5, 1) := by decide +kernel
theorem dX4_couldBeDone_45 : decode cX4_couldBeDone 45 = .ok (.if_icmp .ne 9, 3) := by decide +kernel
theorem dX4_couldBeDone_48 : decode cX4_couldBeDone 48 = .ok (.aload_n 1, 1) := by decide +kernel
theorem dX4_couldBeDone_49 : decode cX4_couldBeDone 49 = .ok (.iload_n 3, 1) := by decide +kernel
theorem dX4_couldBeDone_50 : decode cX4_couldBeDone 50 = .ok (.invokevirtual 108, 3) := by decide +kernel
theorem dX4_couldBeDone_53 : decode cX4_couldBeDone 53 = .ok (.ireturn, 1) := by decide +kernel
theorem dX4_couldBeDone_54 : decode cX4_couldBeDone 54 = .ok (.iload_n 2, 1) := by decide +kernel
theorem dX4_couldBeDone_55 : decode cX4_couldBeDone 55 = .ok (.iconst 1, 1) := by decide +kernel
theorem dX4_couldBeDone_56 : decode cX4_couldBeDone 56 = .ok (.isub, 1) := by decide +kernel
theorem dX4_couldBeDone_57 : decode cX4_couldBeDone 57 = .ok (.istore 4, 2) := by decide +kernel
theorem dX4_couldBeDone_59 : decode cX4_couldBeDone 59 = .ok (.aload_n 0, 1) := by decide +kernel
theorem dX4_couldBeDone_60 : decode cX4_couldBeDone 60 = .ok (.iload 4, 2) := by decide +kernel
theorem dX4_couldBeDone_62 : decode cX4_couldBeDone 62 = .ok (.invokevirtual 111, 3) := by decide +kernel
theorem dX4_couldBeDone_65 : decode cX4_couldBeDone 65 = .ok (.ifCond .eq 21, 3) := by decide +kernel
theorem dX4_couldBeDone_68 : decode cX4_couldBeDone 68 = .ok (.aload_n 1, 1) := by decide +kernel
theorem dX4_couldBeDone_69 : decode cX4_couldBeDone 69 = .ok (.getfield 114, 3) := by decide +kernel
theorem dX4_couldBeDone_72 : decode cX4_couldBeDone 72 = .ok (.ifCond .eq 14, 3) := by decide +kernel
theorem dX4_couldBeDone_75 : decode cX4_couldBeDone 75 = .ok (.aload_n 1, 1) := by decide +kernel
theorem dX4_couldBeDone_76 : decode cX4_couldBeDone 76 = .ok (.aload_n 0, 1) := by decide +kernel
theorem dX4_couldBeDone_77 : decode cX4_couldBeDone 77 = .ok (.iload 4, 2) := by decide +kernel
theorem dX4_couldBeDone_79 : decode cX4_couldBeDone 79 = .ok (.iload_n 3, 1) := by decide +kernel
theorem dX4_couldBeDone_80 : decode cX4_couldBeDone 80 = .ok (.invokevirtual 55, 3) := by decide +kernel
theorem dX4_couldBeDone_83 : decode cX4_couldBeDone 83 = .ok (.ifCond .ne 5, 3) := by decide +kernel
theorem dX4_couldBeDone_86 : decode cX4_couldBeDone 86 = .ok (.iconst 0, 1) := by decide +kernel
theorem dX4_couldBeDone_87 : decode cX4_couldBeDone 87 = .ok (.ireturn, 1) := by decide +kernel
theorem dX4_couldBeDone_88 : decode cX4_couldBeDone 88 = .ok (.aload_n 1, 1) := by decide +kernel
theorem dX4_couldBeDone_89 : decode cX4_couldBeDone 89 = .ok (.dup, 1) := by decide +kernel
theorem dX4_couldBeDone_90 : decode cX4_couldBeDone 90 = .ok (.getfield 114, 3) := by decide +kernel
theorem dX4_couldBeDone_93 : decode cX4_couldBeDone 93 = .ok (.iconst 1, 1) := by decide +kernel
theorem dX4_couldBeDone_94 : decode cX4_couldBeDone 94 = .ok (.isub, 1) := by decide +kernel
theorem dX4_couldBeDone_95 : decode cX4_couldBeDone 95 = .ok (.putfield 114, 3) := by decide +kernel
theorem dX4_couldBeDone_98 : decode cX4_couldBeDone 98 = .ok (.aload_n 1, 1) := by decide +kernel
theorem dX4_couldBeDone_99 : decode cX4_couldBeDone 99 = .ok (.aload_n 0, 1) := by decide +kernel
theorem dX4_couldBeDone_100 : decode cX4_couldBeDone 100 = .ok (.iload 4, 2) := by decide +kernel
theorem dX4_couldBeDone_102 : decode cX4_couldBeDone 102 = .ok (.iload_n 3, 1) := by decide +kernel
theorem dX4_couldBeDone_103 : decode cX4_couldBeDone 103 = .ok (.invokevirtual 59, 3) := by decide +kernel
theorem dX4_couldBeDone_106 : decode cX4_couldBeDone 106 = .ok (.pop, 1) := by decide +kernel
theorem dX4_couldBeDone_107 : decode cX4_couldBeDone 107 = .ok (.iconst 1, 1) := by decide +kernel
theorem dX4_couldBeDone_108 : decode cX4_couldBeDone 108 = .ok (.ireturn, 1) := by decide +kernel
theorem dX5_init_0 : decode cX5_init 0 = .ok (.aload_n 0, 1) := by decide +kernel
theorem dX5_init_1 : decode cX5_init 1 = .ok (.invokespecial 3, 3) := by decide +kernel
theorem dX5_init_4 : decode cX5_init 4 = .ok (.aload_n 0, 1) := by decide +kernel
theorem dX5_init_5 : decode cX5_init 5 = .ok (.bipush 6, 2) := by decide +kernel
theorem dX5_init_7 : decode cX5_init 7 = .ok (.newarray .int, 2) := by decide +kernel
theorem dX5_init_9 : decode cX5_init 9 = .ok (.putfield 9, 3) := by decide +kernel
theorem dX5_init_12 : decode cX5_init 12 = .ok (.aload_n 0, 1) := by decide +kernel
theorem dX5_init_13 : decode cX5_init 13 = .ok (.bipush 6, 2) := by decide +kernel
theorem dX5_init_15 : decode cX5_init 15 = .ok (.newarray .int, 2) := by decide +kernel
theorem dX5_init_17 : decode cX5_init 17 = .ok (.putfield 15, 3) := by decide +kernel
theorem dX5_init_20 : decode cX5_init 20 = .ok (.aload_n 0, 1) := by decide +kernel
theorem dX5_init_21 : decode cX5_init 21 = .ok (.bipush 6, 2) := by decide +kernel
theorem dX5_init_23 : decode cX5_init 23 = .ok (.newarray .int, 2) := by decide +kernel
theorem dX5_init_25 : decode cX5_init 25 = .ok (.putfield 18, 3) := by decide +kernel
theorem dX5_init_28 : decode cX5_init 28 = .ok (.aload_n 0, 1) := by decide +kernel
theorem dX5_init_29 : decode cX5_init 29 = .ok (.iconst 0, 1) := by decide +kernel
theorem dX5_init_30 : decode cX5_init 30 = .ok (.putfield 21, 3) := by decide +kernel
theorem dX5_init_33 : decode cX5_init 33 = .ok (.return_, 1) := by decide +kernel
theorem dX5_append_0 : decode cX5_append 0 = .ok (.aload_n 0, 1) := by decide +kernel
theorem dX5_append_1 : decode cX5_append 1 = .ok (.getfield 21, 3) := by decide +kernel
theorem dX5_append_4 : decode cX5_append 4 = .ok (.bipush 6, 2) := by decide +kernel
theorem dX5_append_6 : decode cX5_append 6 = .ok (.if_icmp .lt 5, 3) := by decide +kernel
theorem dX5_append_9 : decode cX5_append 9 = .ok (.iconst 0, 1) := by decide +kernel
theorem dX5_append_10 : decode cX5_append 10 = .ok (.ireturn, 1) := by decide +kernel
theorem dX5_append_11 : decode cX5_append 11 = .ok (.aload_n 0, 1) := by decide +kernel
theorem dX5_append_12 : decode cX5_append 12 = .ok (.getfield 9, 3) := by decide +kernel
theorem dX5_append_15 : decode cX5_append 15 = .ok (.aload_n 0, 1) := by decide +kernel
theorem dX5_append_16 : decode cX5_append 16 = .ok (.getfield 21, 3) := by decide +kernel
theorem dX5_append_19 : decode cX5_append 19 = .ok (.iload_n 1, 1) := by decide +kernel
theorem dX5_append_20 : decode cX5_append 20 = .ok (.iastore, 1) := by decide +kernel
theorem dX5_append_21 : decode cX5_append 21 = .ok (.aload_n 0, 1) := by decide +kernel
theorem dX5_append_22 : decode cX5_append 22 = .ok (.getfield 15, 3) := by decide +kernel
theorem dX5_append_25 : decode cX5_append 25 = .ok (.aload_n 0, 1) := by decide +kernel
theorem dX5_append_26 : decode cX5_append 26 = .ok (.getfield 21, 3) := by decide +kernel
theorem dX5_append_29 : decode cX5_append 29 = .ok (.iload_n 2, 1) := by decide +kernel
theorem dX5_append_30 : decode cX5_append 30 = .ok (.iastore, 1) := by decide +kernel
theorem dX5_append_31 : decode cX5_append 31 = .ok (.aload_n 0, 1) := by decide +kernel
theorem dX5_append_32 : decode cX5_append 32 = .ok (.getfield 18, 3) := by decide +kernel
theorem dX5_append_35 : decode cX5_append 35 = .ok (.aload_n 0, 1) := by decide +kernel
theorem dX5_append_36 : decode cX5_append 36 = .ok (.getfield 21, 3) := by decide +kernel
theorem dX5_append_39 : decode cX5_append 39 = .ok (.iload_n 3, 1) := by decide +kernel
theorem dX5_append_40 : decode cX5_append 40 = .ok (.iastore, 1) := by decide +kernel
theorem dX5_append_41 : decode cX5_append 41 = .ok (.aload_n 0, 1) := by decide +kernel
theorem dX5_append_42 : decode cX5_append 42 = .ok (.dup, 1) := by decide +kernel
theorem dX5_append_43 : decode cX5_append 43 = .ok (.getfield 21, 3) := by decide +kernel
theorem dX5_append_46 : decode cX5_append 46 = .ok (.iconst 1, 1) := by decide +kernel
theorem dX5_append_47 : decode cX5_append 47 = .ok (.iadd, 1) := by decide +kernel
theorem dX5_append_48 : decode cX5_append 48 = .ok (.putfield 21, 3) := by decide +kernel
theorem dX5_append_51 : decode cX5_append 51 = .ok (.iconst 1, 1) := by decide +kernel
theorem dX5_append_52 : decode cX5_append 52 = .ok (.ireturn, 1) := by decide +kernel
theorem dX5_holdsOf_0 : decode cX5_holdsOf 0 = .ok (.iconst 0, 1) := by decide +kernel
theorem dX5_holdsOf_1 : decode cX5_holdsOf 1 = .ok (.istore_n 3, 1) := by decide +kernel
theorem dX5_holdsOf_2 : decode cX5_holdsOf 2 = .ok (.iconst 1, 1) := by decide +kernel
theorem dX5_holdsOf_3 : decode cX5_holdsOf 3 = .ok (.istore 4, 2) := by decide +kernel
theorem dX5_holdsOf_5 : decode cX5_holdsOf 5 = .ok (.iload 4, 2) := by decide +kernel
theorem dX5_holdsOf_7 : decode cX5_holdsOf 7 = .ok (.bipush 9, 2) := by decide +kernel
theorem dX5_holdsOf_9 : decode cX5_holdsOf 9 = .ok (.if_icmp .gt 28, 3) := by decide +kernel
theorem dX5_holdsOf_12 : decode cX5_holdsOf 12 = .ok (.aload_n 0, 1) := by decide +kernel
theorem dX5_holdsOf_13 : decode cX5_holdsOf 13 = .ok (.iload_n 1, 1) := by decide +kernel
theorem dX5_holdsOf_14 : decode cX5_holdsOf 14 = .ok (.iload 4, 2) := by decide +kernel
theorem dX5_holdsOf_16 : decode cX5_holdsOf 16 = .ok (.iload_n 2, 1) := by decide +kernel
theorem dX5_holdsOf_17 : decode cX5_holdsOf 17 = .ok (.iadd, 1) := by decide +kernel
theorem dX5_holdsOf_18 : decode cX5_holdsOf 18 = .ok (.invokevirtual 25, 3) := by decide +kernel
theorem dX5_holdsOf_21 : decode cX5_holdsOf 21 = .ok (.ifCond .eq 10, 3) := by decide +kernel
theorem dX5_holdsOf_24 : decode cX5_holdsOf 24 = .ok (.iload_n 3, 1) := by decide +kernel
theorem dX5_holdsOf_25 : decode cX5_holdsOf 25 = .ok (.iconst 1, 1) := by decide +kernel
theorem dX5_holdsOf_26 : decode cX5_holdsOf 26 = .ok (.iload 4, 2) := by decide +kernel
theorem dX5_holdsOf_28 : decode cX5_holdsOf 28 = .ok (.ishl, 1) := by decide +kernel
theorem dX5_holdsOf_29 : decode cX5_holdsOf 29 = .ok (.ior, 1) := by decide +kernel
theorem dX5_holdsOf_30 : decode cX5_holdsOf 30 = .ok (.istore_n 3, 1) := by decide +kernel
theorem dX5_holdsOf_31 : decode cX5_holdsOf 31 = .ok (.iinc 4 1, 3) := by decide +kernel
theorem dX5_holdsOf_34 : decode cX5_holdsOf 34 = .ok (.goto (-29), 3) := by decide +kernel
theorem dX5_holdsOf_37 : decode cX5_holdsOf 37 = .ok (.iload_n 3, 1) := by decide +kernel
theorem dX5_holdsOf_38 : decode cX5_holdsOf 38 = .ok (.ireturn, 1) := by decide +kernel
theorem dX5_agree_0 : decode cX5_agree 0 = .ok (.iconst 0, 1) := by decide +kernel
theorem dX5_agree_1 : decode cX5_agree 1 = .ok (.istore_n 3, 1) := by decide +kernel
theorem dX5_agree_2 : decode cX5_agree 2 = .ok (.iload_n 3, 1) := by decide +kernel
theorem dX5_agree_3 : decode cX5_agree 3 = .ok (.aload_n 0, 1) := by decide +kernel
theorem dX5_agree_4 : decode cX5_agree 4 = .ok (.getfield 21, 3) := by decide +kernel
theorem dX5_agree_7 : decode cX5_agree 7 = .ok (.if_icmp .ge 49, 3) := by decide +kernel
theorem dX5_agree_10 : decode cX5_agree 10 = .ok (.aload_n 0, 1) := by decide +kernel
theorem dX5_agree_11 : decode cX5_agree 11 = .ok (.getfield 15, 3) := by decide +kernel
theorem dX5_agree_14 : decode cX5_agree 14 = .ok (.iload_n 3, 1) := by decide +kernel
theorem dX5_agree_15 : decode cX5_agree 15 = .ok (.iaload, 1) := by decide +kernel
theorem dX5_agree_16 : decode cX5_agree 16 = .ok (.iload_n 2, 1) := by decide +kernel
theorem dX5_agree_17 : decode cX5_agree 17 = .ok (.if_icmp .lt 7, 3) := by decide +kernel
theorem dX5_agree_20 : decode cX5_agree 20 = .ok (.iconst 1, 1) := by decide +kernel
theorem dX5_agree_21 : decode cX5_agree 21 = .ok (.goto 4, 3) := by decide +kernel
theorem dX5_agree_24 : decode cX5_agree 24 = .ok (.iconst 0, 1) := by decide +kernel
theorem dX5_agree_25 : decode cX5_agree 25 = .ok (.istore 4, 2) := by decide +kernel
theorem dX5_agree_27 : decode cX5_agree 27 = .ok (.aload_n 0, 1) := by decide +kernel
theorem dX5_agree_28 : decode cX5_agree 28 = .ok (.getfield 9, 3) := by decide +kernel
theorem dX5_agree_31 : decode cX5_agree 31 = .ok (.iload_n 3, 1) := by decide +kernel
theorem dX5_agree_32 : decode cX5_agree 32 = .ok (.iaload, 1) := by decide +kernel
theorem dX5_agree_33 : decode cX5_agree 33 = .ok (.iload_n 1, 1) := by decide +kernel
theorem dX5_agree_34 : decode cX5_agree 34 = .ok (.if_icmp .ne 16, 3) := by decide +kernel
theorem dX5_agree_37 : decode cX5_agree 37 = .ok (.iload 4, 2) := by decide +kernel
theorem dX5_agree_39 : decode cX5_agree 39 = .ok (.aload_n 0, 1) := by decide +kernel
theorem dX5_agree_40 : decode cX5_agree 40 = .ok (.getfield 18, 3) := by decide +kernel
theorem dX5_agree_43 : decode cX5_agree 43 = .ok (.iload_n 3, 1) := by decide +kernel
theorem dX5_agree_44 : decode cX5_agree 44 = .ok (.iaload, 1) := by decide +kernel
theorem dX5_agree_45 : decode cX5_agree 45 = .ok (.if_icmp .eq 5, 3) := by decide +kernel
theorem dX5_agree_48 : decode cX5_agree 48 = .ok (.iconst 0, 1) := by decide +kernel
theorem dX5_agree_49 : decode cX5_agree 49 = .ok (.ireturn, 1) := by decide +kernel
theorem dX5_agree_50 : decode cX5_agree 50 = .ok (.iinc 3 1, 3) := by decide +kernel
theorem dX5_agree_53 : decode cX5_agree 53 = .ok (.goto (-51), 3) := by decide +kernel
theorem dX5_agree_56 : decode cX5_agree 56 = .ok (.iconst 1, 1) := by decide +kernel
theorem dX5_agree_57 : decode cX5_agree 57 = .ok (.ireturn, 1) := by decide +kernel
theorem dX6_init_0 : decode cX6_init 0 = .ok (.aload_n 0, 1) := by decide +kernel
theorem dX6_init_1 : decode cX6_init 1 = .ok (.invokespecial 3, 3) := by decide +kernel
theorem dX6_init_4 : decode cX6_init 4 = .ok (.aload_n 0, 1) := by decide +kernel
theorem dX6_init_5 : decode cX6_init 5 = .ok (.iconst 2, 1) := by decide +kernel
theorem dX6_init_6 : decode cX6_init 6 = .ok (.invokestatic 9, 3) := by decide +kernel
theorem dX6_init_9 : decode cX6_init 9 = .ok (.putfield 13, 3) := by decide +kernel
theorem dX6_init_12 : decode cX6_init 12 = .ok (.aload_n 0, 1) := by decide +kernel
theorem dX6_init_13 : decode cX6_init 13 = .ok (.iconst 2, 1) := by decide +kernel
theorem dX6_init_14 : decode cX6_init 14 = .ok (.newarray .boolean, 2) := by decide +kernel
theorem dX6_init_16 : decode cX6_init 16 = .ok (.putfield 19, 3) := by decide +kernel
theorem dX6_init_19 : decode cX6_init 19 = .ok (.return_, 1) := by decide +kernel
theorem dX6_put_0 : decode cX6_put 0 = .ok (.iload_n 1, 1) := by decide +kernel
theorem dX6_put_1 : decode cX6_put 1 = .ok (.ifCond .lt 8, 3) := by decide +kernel
theorem dX6_put_4 : decode cX6_put 4 = .ok (.iload_n 1, 1) := by decide +kernel
theorem dX6_put_5 : decode cX6_put 5 = .ok (.iconst 2, 1) := by decide +kernel
theorem dX6_put_6 : decode cX6_put 6 = .ok (.if_icmp .lt 5, 3) := by decide +kernel
theorem dX6_put_9 : decode cX6_put 9 = .ok (.iconst 0, 1) := by decide +kernel
theorem dX6_put_10 : decode cX6_put 10 = .ok (.ireturn, 1) := by decide +kernel
theorem dX6_put_11 : decode cX6_put 11 = .ok (.aload_n 0, 1) := by decide +kernel
theorem dX6_put_12 : decode cX6_put 12 = .ok (.getfield 13, 3) := by decide +kernel
theorem dX6_put_15 : decode cX6_put 15 = .ok (.iload_n 1, 1) := by decide +kernel
theorem dX6_put_16 : decode cX6_put 16 = .ok (.aaload, 1) := by decide +kernel
theorem dX6_put_17 : decode cX6_put 17 = .ok (.aload_n 2, 1) := by decide +kernel
theorem dX6_put_18 : decode cX6_put 18 = .ok (.invokevirtual 23, 3) := by decide +kernel
theorem dX6_put_21 : decode cX6_put 21 = .ok (.aload_n 0, 1) := by decide +kernel
theorem dX6_put_22 : decode cX6_put 22 = .ok (.getfield 19, 3) := by decide +kernel
theorem dX6_put_25 : decode cX6_put 25 = .ok (.iload_n 1, 1) := by decide +kernel
theorem dX6_put_26 : decode cX6_put 26 = .ok (.iconst 1, 1) := by decide +kernel
theorem dX6_put_27 : decode cX6_put 27 = .ok (.bastore, 1) := by decide +kernel
theorem dX6_put_28 : decode cX6_put 28 = .ok (.iconst 1, 1) := by decide +kernel
theorem dX6_put_29 : decode cX6_put 29 = .ok (.ireturn, 1) := by decide +kernel
theorem dX6_get_0 : decode cX6_get 0 = .ok (.iload_n 1, 1) := by decide +kernel
theorem dX6_get_1 : decode cX6_get 1 = .ok (.ifCond .lt 17, 3) := by decide +kernel
theorem dX6_get_4 : decode cX6_get 4 = .ok (.iload_n 1, 1) := by decide +kernel
theorem dX6_get_5 : decode cX6_get 5 = .ok (.iconst 2, 1) := by decide +kernel
theorem dX6_get_6 : decode cX6_get 6 = .ok (.if_icmp .ge 12, 3) := by decide +kernel
theorem dX6_get_9 : decode cX6_get 9 = .ok (.aload_n 0, 1) := by decide +kernel
theorem dX6_get_10 : decode cX6_get 10 = .ok (.getfield 19, 3) := by decide +kernel
theorem dX6_get_13 : decode cX6_get 13 = .ok (.iload_n 1, 1) := by decide +kernel
theorem dX6_get_14 : decode cX6_get 14 = .ok (.baload, 1) := by decide +kernel
theorem dX6_get_15 : decode cX6_get 15 = .ok (.ifCond .ne 5, 3) := by decide +kernel
theorem dX6_get_18 : decode cX6_get 18 = .ok (.iconst 0, 1) := by decide +kernel
theorem dX6_get_19 : decode cX6_get 19 = .ok (.ireturn, 1) := by decide +kernel
theorem dX6_get_20 : decode cX6_get 20 = .ok (.aload_n 2, 1) := by decide +kernel
theorem dX6_get_21 : decode cX6_get 21 = .ok (.aload_n 0, 1) := by decide +kernel
theorem dX6_get_22 : decode cX6_get 22 = .ok (.getfield 13, 3) := by decide +kernel
theorem dX6_get_25 : decode cX6_get 25 = .ok (.iload_n 1, 1) := by decide +kernel
theorem dX6_get_26 : decode cX6_get 26 = .ok (.aaload, 1) := by decide +kernel
theorem dX6_get_27 : decode cX6_get 27 = .ok (.invokevirtual 23, 3) := by decide +kernel
theorem dX6_get_30 : decode cX6_get 30 = .ok (.iconst 1, 1) := by decide +kernel
theorem dX6_get_31 : decode cX6_get 31 = .ok (.ireturn, 1) := by decide +kernel
theorem dX6_forgetAll_0 : decode cX6_forgetAll 0 = .ok (.iconst 0, 1) := by decide +kernel
theorem dX6_forgetAll_1 : decode cX6_forgetAll 1 = .ok (.istore_n 1, 1) := by decide +kernel
theorem dX6_forgetAll_2 : decode cX6_forgetAll 2 = .ok (.iload_n 1, 1) := by decide +kernel
theorem dX6_forgetAll_3 : decode cX6_forgetAll 3 = .ok (.iconst 2, 1) := by decide +kernel
theorem dX6_forgetAll_4 : decode cX6_forgetAll 4 = .ok (.if_icmp .ge 16, 3) := by decide +kernel
theorem dX6_forgetAll_7 : decode cX6_forgetAll 7 = .ok (.aload_n 0, 1) := by decide +kernel
theorem dX6_forgetAll_8 : decode cX6_forgetAll 8 = .ok (.getfield 19, 3) := by decide +kernel
theorem dX6_forgetAll_11 : decode cX6_forgetAll 11 = .ok (.iload_n 1, 1) := by decide +kernel
theorem dX6_forgetAll_12 : decode cX6_forgetAll 12 = .ok (.iconst 0, 1) := by decide +kernel
theorem dX6_forgetAll_13 : decode cX6_forgetAll 13 = .ok (.bastore, 1) := by decide +kernel
theorem dX6_forgetAll_14 : decode cX6_forgetAll 14 = .ok (.iinc 1 1, 3) := by decide +kernel
theorem dX6_forgetAll_17 : decode cX6_forgetAll 17 = .ok (.goto (-15), 3) := by decide +kernel
theorem dX6_forgetAll_20 : decode cX6_forgetAll 20 = .ok (.return_, 1) := by decide +kernel
theorem dX7_init_0 : decode cX7_init 0 = .ok (.aload_n 0, 1) := by decide +kernel
theorem dX7_init_1 : decode cX7_init 1 = .ok (.invokespecial 3, 3) := by decide +kernel
theorem dX7_init_4 : decode cX7_init 4 = .ok (.aload_n 0, 1) := by decide +kernel
theorem dX7_init_5 : decode cX7_init 5 = .ok (.iconst 5, 1) := by decide +kernel
theorem dX7_init_6 : decode cX7_init 6 = .ok (.newarray .int, 2) := by decide +kernel
theorem dX7_init_8 : decode cX7_init 8 = .ok (.putfield 9, 3) := by decide +kernel
theorem dX7_init_11 : decode cX7_init 11 = .ok (.aload_n 0, 1) := by decide +kernel
theorem dX7_init_12 : decode cX7_init 12 = .ok (.iconst 5, 1) := by decide +kernel
theorem dX7_init_13 : decode cX7_init 13 = .ok (.newarray .int, 2) := by decide +kernel
theorem dX7_init_15 : decode cX7_init 15 = .ok (.putfield 15, 3) := by decide +kernel
theorem dX7_init_18 : decode cX7_init 18 = .ok (.aload_n 0, 1) := by decide +kernel
theorem dX7_init_19 : decode cX7_init 19 = .ok (.iconst 0, 1) := by decide +kernel
theorem dX7_init_20 : decode cX7_init 20 = .ok (.putfield 18, 3) := by decide +kernel
theorem dX7_init_23 : decode cX7_init 23 = .ok (.aload_n 0, 1) := by decide +kernel
theorem dX7_init_24 : decode cX7_init 24 = .ok (.iconst 0, 1) := by decide +kernel
theorem dX7_init_25 : decode cX7_init 25 = .ok (.putfield 22, 3) := by decide +kernel
theorem dX7_init_28 : decode cX7_init 28 = .ok (.aload_n 0, 1) := by decide +kernel
theorem dX7_init_29 : decode cX7_init 29 = .ok (.iconst 0, 1) := by decide +kernel
theorem dX7_init_30 : decode cX7_init 30 = .ok (.putfield 25, 3) := by decide +kernel
theorem dX7_init_33 : decode cX7_init 33 = .ok (.aload_n 0, 1) := by decide +kernel
theorem dX7_init_34 : decode cX7_init 34 = .ok (.iconst 1, 1) := by decide +kernel
theorem dX7_init_35 : decode cX7_init 35 = .ok (.putfield 28, 3) := by decide +kernel
theorem dX7_init_38 : decode cX7_init 38 = .ok (.aload_n 0, 1) := by decide +kernel
theorem dX7_init_39 : decode cX7_init 39 = .ok (.iconst 0, 1) := by decide +kernel
theorem dX7_init_40 : decode cX7_init 40 = .ok (.putfield 31, 3) := by decide +kernel
theorem dX7_init_43 : decode cX7_init 43 = .ok (.return_, 1) := by decide +kernel
theorem dX7_makeAnew_0 : decode cX7_makeAnew 0 = .ok (.aload_n 0, 1) := by decide +kernel
theorem dX7_makeAnew_1 : decode cX7_makeAnew 1 = .ok (.iconst 0, 1) := by decide +kernel
theorem dX7_makeAnew_2 : decode cX7_makeAnew 2 = .ok (.putfield 18, 3) := by decide +kernel
theorem dX7_makeAnew_5 : decode cX7_makeAnew 5 = .ok (.aload_n 0, 1) := by decide +kernel
theorem dX7_makeAnew_6 : decode cX7_makeAnew 6 = .ok (.iconst 0, 1) := by decide +kernel
theorem dX7_makeAnew_7 : decode cX7_makeAnew 7 = .ok (.putfield 22, 3) := by decide +kernel
theorem dX7_makeAnew_10 : decode cX7_makeAnew 10 = .ok (.aload_n 0, 1) := by decide +kernel
theorem dX7_makeAnew_11 : decode cX7_makeAnew 11 = .ok (.iconst 0, 1) := by decide +kernel
theorem dX7_makeAnew_12 : decode cX7_makeAnew 12 = .ok (.putfield 25, 3) := by decide +kernel
theorem dX7_makeAnew_15 : decode cX7_makeAnew 15 = .ok (.aload_n 0, 1) := by decide +kernel
theorem dX7_makeAnew_16 : decode cX7_makeAnew 16 = .ok (.aload_n 1, 1) := by decide +kernel
theorem dX7_makeAnew_17 : decode cX7_makeAnew 17 = .ok (.getfield 34, 3) := by decide +kernel
theorem dX7_makeAnew_20 : decode cX7_makeAnew 20 = .ok (.putfield 28, 3) := by decide +kernel
theorem dX7_makeAnew_23 : decode cX7_makeAnew 23 = .ok (.aload_n 0, 1) := by decide +kernel
theorem dX7_makeAnew_24 : decode cX7_makeAnew 24 = .ok (.aload_n 1, 1) := by decide +kernel
theorem dX7_makeAnew_25 : decode cX7_makeAnew 25 = .ok (.getfield 39, 3) := by decide +kernel
theorem dX7_makeAnew_28 : decode cX7_makeAnew 28 = .ok (.putfield 31, 3) := by decide +kernel
theorem dX7_makeAnew_31 : decode cX7_makeAnew 31 = .ok (.iconst 0, 1) := by decide +kernel
theorem dX7_makeAnew_32 : decode cX7_makeAnew 32 = .ok (.istore_n 2, 1) := by decide +kernel
theorem dX7_makeAnew_33 : decode cX7_makeAnew 33 = .ok (.iload_n 2, 1) := by decide +kernel
theorem dX7_makeAnew_34 : decode cX7_makeAnew 34 = .ok (.iconst 5, 1) := by decide +kernel
theorem dX7_makeAnew_35 : decode cX7_makeAnew 35 = .ok (.if_icmp .ge 53, 3) := by decide +kernel
theorem dX7_makeAnew_38 : decode cX7_makeAnew 38 = .ok (.aload_n 0, 1) := by decide +kernel
theorem dX7_makeAnew_39 : decode cX7_makeAnew 39 = .ok (.getfield 9, 3) := by decide +kernel
theorem dX7_makeAnew_42 : decode cX7_makeAnew 42 = .ok (.iload_n 2, 1) := by decide +kernel
theorem dX7_makeAnew_43 : decode cX7_makeAnew 43 = .ok (.iconst 0, 1) := by decide +kernel
theorem dX7_makeAnew_44 : decode cX7_makeAnew 44 = .ok (.iastore, 1) := by decide +kernel
theorem dX7_makeAnew_45 : decode cX7_makeAnew 45 = .ok (.aload_n 0, 1) := by decide +kernel
theorem dX7_makeAnew_46 : decode cX7_makeAnew 46 = .ok (.getfield 15, 3) := by decide +kernel
theorem dX7_makeAnew_49 : decode cX7_makeAnew 49 = .ok (.iload_n 2, 1) := by decide +kernel
theorem dX7_makeAnew_50 : decode cX7_makeAnew 50 = .ok (.iconst 0, 1) := by decide +kernel
theorem dX7_makeAnew_51 : decode cX7_makeAnew 51 = .ok (.iastore, 1) := by decide +kernel
theorem dX7_makeAnew_52 : decode cX7_makeAnew 52 = .ok (.iload_n 2, 1) := by decide +kernel
theorem dX7_makeAnew_53 : decode cX7_makeAnew 53 = .ok (.aload_n 1, 1) := by decide +kernel
theorem dX7_makeAnew_54 : decode cX7_makeAnew 54 = .ok (.getfield 42, 3) := by decide +kernel
theorem dX7_makeAnew_57 : decode cX7_makeAnew 57 = .ok (.if_icmp .ge 25, 3) := by decide +kernel
theorem dX7_makeAnew_60 : decode cX7_makeAnew 60 = .ok (.aload_n 1, 1) := by decide +kernel
theorem dX7_makeAnew_61 : decode cX7_makeAnew 61 = .ok (.getfield 45, 3) := by decide +kernel
theorem dX7_makeAnew_64 : decode cX7_makeAnew 64 = .ok (.iload_n 2, 1) := by decide +kernel
theorem dX7_makeAnew_65 : decode cX7_makeAnew 65 = .ok (.iaload, 1) := by decide +kernel
theorem dX7_makeAnew_66 : decode cX7_makeAnew 66 = .ok (.iconst 1, 1) := by decide +kernel
theorem dX7_makeAnew_67 : decode cX7_makeAnew 67 = .ok (.if_icmp .ne 15, 3) := by decide +kernel
theorem dX7_makeAnew_70 : decode cX7_makeAnew 70 = .ok (.aload_n 0, 1) := by decide +kernel
theorem dX7_makeAnew_71 : decode cX7_makeAnew 71 = .ok (.dup, 1) := by decide +kernel
theorem dX7_makeAnew_72 : decode cX7_makeAnew 72 = .ok (.getfield 25, 3) := by decide +kernel
theorem dX7_makeAnew_75 : decode cX7_makeAnew 75 = .ok (.iconst 1, 1) := by decide +kernel
theorem dX7_makeAnew_76 : decode cX7_makeAnew 76 = .ok (.iload_n 2, 1) := by decide +kernel
theorem dX7_makeAnew_77 : decode cX7_makeAnew 77 = .ok (.ishl, 1) := by decide +kernel
theorem dX7_makeAnew_78 : decode cX7_makeAnew 78 = .ok (.ior, 1) := by decide +kernel
theorem dX7_makeAnew_79 : decode cX7_makeAnew 79 = .ok (.putfield 25, 3) := by decide +kernel
theorem dX7_makeAnew_82 : decode cX7_makeAnew 82 = .ok (.iinc 2 1, 3) := by decide +kernel
theorem dX7_makeAnew_85 : decode cX7_makeAnew 85 = .ok (.goto (-52), 3) := by decide +kernel
theorem dX7_makeAnew_88 : decode cX7_makeAnew 88 = .ok (.return_, 1) := by decide +kernel
theorem dX7_becomeAs_0 : decode cX7_becomeAs 0 = .ok (.aload_n 1, 1) := by decide +kernel
theorem dX7_becomeAs_1 : decode cX7_becomeAs 1 = .ok (.getfield 9, 3) := by decide +kernel
theorem dX7_becomeAs_4 : decode cX7_becomeAs 4 = .ok (.iconst 0, 1) := by decide +kernel
theorem dX7_becomeAs_5 : decode cX7_becomeAs 5 = .ok (.aload_n 0, 1) := by decide +kernel
theorem dX7_becomeAs_6 : decode cX7_becomeAs 6 = .ok (.getfield 9, 3) := by decide +kernel
theorem dX7_becomeAs_9 : decode cX7_becomeAs 9 = .ok (.iconst 0, 1) := by decide +kernel
theorem dX7_becomeAs_10 : decode cX7_becomeAs 10 = .ok (.iconst 5, 1) := by decide +kernel
theorem dX7_becomeAs_11 : decode cX7_becomeAs 11 = .ok (.invokestatic 48, 3) := by decide +kernel
theorem dX7_becomeAs_14 : decode cX7_becomeAs 14 = .ok (.aload_n 1, 1) := by decide +kernel
theorem dX7_becomeAs_15 : decode cX7_becomeAs 15 = .ok (.getfield 15, 3) := by decide +kernel
theorem dX7_becomeAs_18 : decode cX7_becomeAs 18 = .ok (.iconst 0, 1) := by decide +kernel
theorem dX7_becomeAs_19 : decode cX7_becomeAs 19 = .ok (.aload_n 0, 1) := by decide +kernel
theorem dX7_becomeAs_20 : decode cX7_becomeAs 20 = .ok (.getfield 15, 3) := by decide +kernel
theorem dX7_becomeAs_23 : decode cX7_becomeAs 23 = .ok (.iconst 0, 1) := by decide +kernel
theorem dX7_becomeAs_24 : decode cX7_becomeAs 24 = .ok (.iconst 5, 1) := by decide +kernel
theorem dX7_becomeAs_25 : decode cX7_becomeAs 25 = .ok (.invokestatic 48, 3) := by decide +kernel
theorem dX7_becomeAs_28 : decode cX7_becomeAs 28 = .ok (.aload_n 0, 1) := by decide +kernel
theorem dX7_becomeAs_29 : decode cX7_becomeAs 29 = .ok (.aload_n 1, 1) := by decide +kernel
theorem dX7_becomeAs_30 : decode cX7_becomeAs 30 = .ok (.getfield 18, 3) := by decide +kernel
theorem dX7_becomeAs_33 : decode cX7_becomeAs 33 = .ok (.putfield 18, 3) := by decide +kernel
theorem dX7_becomeAs_36 : decode cX7_becomeAs 36 = .ok (.aload_n 0, 1) := by decide +kernel
theorem dX7_becomeAs_37 : decode cX7_becomeAs 37 = .ok (.aload_n 1, 1) := by decide +kernel
theorem dX7_becomeAs_38 : decode cX7_becomeAs 38 = .ok (.getfield 22, 3) := by decide +kernel
theorem dX7_becomeAs_41 : decode cX7_becomeAs 41 = .ok (.putfield 22, 3) := by decide +kernel
theorem dX7_becomeAs_44 : decode cX7_becomeAs 44 = .ok (.aload_n 0, 1) := by decide +kernel
theorem dX7_becomeAs_45 : decode cX7_becomeAs 45 = .ok (.aload_n 1, 1) := by decide +kernel
theorem dX7_becomeAs_46 : decode cX7_becomeAs 46 = .ok (.getfield 25, 3) := by decide +kernel
theorem dX7_becomeAs_49 : decode cX7_becomeAs 49 = .ok (.putfield 25, 3) := by decide +kernel
theorem dX7_becomeAs_52 : decode cX7_becomeAs 52 = .ok (.aload_n 0, 1) := by decide +kernel
theorem dX7_becomeAs_53 : decode cX7_becomeAs 53 = .ok (.aload_n 1, 1) := by decide +kernel
theorem dX7_becomeAs_54 : decode cX7_becomeAs 54 = .ok (.getfield 28, 3) := by decide +kernel
theorem dX7_becomeAs_57 : decode cX7_becomeAs 57 = .ok (.putfield 28, 3) := by decide +kernel
theorem dX7_becomeAs_60 : decode cX7_becomeAs 60 = .ok (.aload_n 0, 1) := by decide +kernel
theorem dX7_becomeAs_61 : decode cX7_becomeAs 61 = .ok (.aload_n 1, 1) := by decide +kernel
theorem dX7_becomeAs_62 : decode cX7_becomeAs 62 = .ok (.getfield 31, 3) := by decide +kernel
theorem dX7_becomeAs_65 : decode cX7_becomeAs 65 = .ok (.putfield 31, 3) := by decide +kernel
theorem dX7_becomeAs_68 : decode cX7_becomeAs 68 = .ok (.return_, 1) := by decide +kernel
theorem dX7_isUp_0 : decode cX7_isUp 0 = .ok (.aload_n 0, 1) := by decide +kernel
theorem dX7_isUp_1 : decode cX7_isUp 1 = .ok (.getfield 18, 3) := by decide +kernel
theorem dX7_isUp_4 : decode cX7_isUp 4 = .ok (.iload_n 1, 1) := by decide +kernel
theorem dX7_isUp_5 : decode cX7_isUp 5 = .ok (.invokestatic 54, 3) := by decide +kernel
theorem dX7_isUp_8 : decode cX7_isUp 8 = .ok (.ifCond .ne 7, 3) := by decide +kernel
theorem dX7_isUp_11 : decode cX7_isUp 11 = .ok (.iconst 1, 1) := by decide +kernel
theorem dX7_isUp_12 : decode cX7_isUp 12 = .ok (.goto 4, 3) := by decide +kernel
theorem dX7_isUp_15 : decode cX7_isUp 15 = .ok (.iconst 0, 1) := by decide +kernel
theorem dX7_isUp_16 : decode cX7_isUp 16 = .ok (.ireturn, 1) := by decide +kernel
theorem dX7_howManyDown_0 : decode cX7_howManyDown 0 = .ok (.aload_n 0, 1) := by decide +kernel
theorem dX7_howManyDown_1 : decode cX7_howManyDown 1 = .ok (.getfield 18, 3) := by decide +kernel
theorem dX7_howManyDown_4 : decode cX7_howManyDown 4 = .ok (.invokestatic 58, 3) := by decide +kernel
theorem dX7_howManyDown_7 : decode cX7_howManyDown 7 = .ok (.ireturn, 1) := by decide +kernel
theorem dX7_firmness_0 : decode cX7_firmness 0 = .ok (.aload_n 1, 1) := by decide +kernel
theorem dX7_firmness_1 : decode cX7_firmness 1 = .ok (.getfield 64, 3) := by decide +kernel
theorem dX7_firmness_4 : decode cX7_firmness 4 = .ok (.iload_n 2, 1) := by decide +kernel
theorem dX7_firmness_5 : decode cX7_firmness 5 = .ok (.iaload, 1) := by decide +kernel
theorem dX7_firmness_6 : decode cX7_firmness 6 = .ok (.iconst 4, 1) := by decide +kernel
theorem dX7_firmness_7 : decode cX7_firmness 7 = .ok (.aload_n 0, 1) := by decide +kernel
theorem dX7_firmness_8 : decode cX7_firmness 8 = .ok (.getfield 25, 3) := by decide +kernel
theorem dX7_firmness_11 : decode cX7_firmness 11 = .ok (.iload_n 2, 1) := by decide +kernel
theorem dX7_firmness_12 : decode cX7_firmness 12 = .ok (.invokestatic 54, 3) := by decide +kernel
theorem dX7_firmness_15 : decode cX7_firmness 15 = .ok (.imul, 1) := by decide +kernel
theorem dX7_firmness_16 : decode cX7_firmness 16 = .ok (.iadd, 1) := by decide +kernel
theorem dX7_firmness_17 : decode cX7_firmness 17 = .ok (.istore_n 3, 1) := by decide +kernel
theorem dX7_firmness_18 : decode cX7_firmness 18 = .ok (.aload_n 0, 1) := by decide +kernel
theorem dX7_firmness_19 : decode cX7_firmness 19 = .ok (.getfield 22, 3) := by decide +kernel
theorem dX7_firmness_22 : decode cX7_firmness 22 = .ok (.iload_n 2, 1) := by decide +kernel
theorem dX7_firmness_23 : decode cX7_firmness 23 = .ok (.invokestatic 54, 3) := by decide +kernel
theorem dX7_firmness_26 : decode cX7_firmness 26 = .ok (.iconst 1, 1) := by decide +kernel
theorem dX7_firmness_27 : decode cX7_firmness 27 = .ok (.if_icmp .ne 7, 3) := by decide +kernel
theorem dX7_firmness_30 : decode cX7_firmness 30 = .ok (.iload_n 3, 1) := by decide +kernel
theorem dX7_firmness_31 : decode cX7_firmness 31 = .ok (.iconst 2, 1) := by decide +kernel
theorem dX7_firmness_32 : decode cX7_firmness 32 = .ok (.idiv, 1) := by decide +kernel
theorem dX7_firmness_33 : decode cX7_firmness 33 = .ok (.istore_n 3, 1) := by decide +kernel
theorem dX7_firmness_34 : decode cX7_firmness 34 = .ok (.aload_n 1, 1) := by decide +kernel
theorem dX7_firmness_35 : decode cX7_firmness 35 = .ok (.getfield 45, 3) := by decide +kernel
theorem dX7_firmness_38 : decode cX7_firmness 38 = .ok (.iload_n 2, 1) := by decide +kernel
theorem dX7_firmness_39 : decode cX7_firmness 39 = .ok (.iaload, 1) := by decide +kernel
theorem dX7_firmness_40 : decode cX7_firmness 40 = .ok (.iconst 2, 1) := by decide +kernel
theorem dX7_firmness_41 : decode cX7_firmness 41 = .ok (.if_icmp .ne 12, 3) := by decide +kernel
theorem dX7_firmness_44 : decode cX7_firmness 44 = .ok (.iload_n 3, 1) := by decide +kernel
theorem dX7_firmness_45 : decode cX7_firmness 45 = .ok (.aload_n 0, 1) := by decide +kernel
theorem dX7_firmness_46 : decode cX7_firmness 46 = .ok (.getfield 15, 3) := by decide +kernel
theorem dX7_firmness_49 : decode cX7_firmness 49 = .ok (.iload_n 2, 1) := by decide +kernel
theorem dX7_firmness_50 : decode cX7_firmness 50 = .ok (.iaload, 1) := by decide +kernel
theorem dX7_firmness_51 : decode cX7_firmness 51 = .ok (.isub, 1) := by decide +kernel
theorem dX7_firmness_52 : decode cX7_firmness 52 = .ok (.istore_n 3, 1) := by decide +kernel
theorem dX7_firmness_53 : decode cX7_firmness 53 = .ok (.iconst 1, 1) := by decide +kernel
theorem dX7_firmness_54 : decode cX7_firmness 54 = .ok (.iload_n 3, 1) := by decide +kernel
theorem dX7_firmness_55 : decode cX7_firmness 55 = .ok (.invokestatic 67, 3) := by decide +kernel
theorem dX7_firmness_58 : decode cX7_firmness 58 = .ok (.ireturn, 1) := by decide +kernel
theorem dX7_setUp_0 : decode cX7_setUp 0 = .ok (.aload_n 0, 1) := by decide +kernel
theorem dX7_setUp_1 : decode cX7_setUp 1 = .ok (.iload_n 1, 1) := by decide +kernel
theorem dX7_setUp_2 : decode cX7_setUp 2 = .ok (.invokevirtual 72, 3) := by decide +kernel
theorem dX7_setUp_5 : decode cX7_setUp 5 = .ok (.ifCond .eq 5, 3) := by decide +kernel
theorem dX7_setUp_8 : decode cX7_setUp 8 = .ok (.iconst 0, 1) := by decide +kernel
theorem dX7_setUp_9 : decode cX7_setUp 9 = .ok (.ireturn, 1) := by decide +kernel
theorem dX7_setUp_10 : decode cX7_setUp 10 = .ok (.aload_n 0, 1) := by decide +kernel
theorem dX7_setUp_11 : decode cX7_setUp 11 = .ok (.dup, 1) := by decide +kernel
theorem dX7_setUp_12 : decode cX7_setUp 12 = .ok (.getfield 18, 3) := by decide +kernel
theorem dX7_setUp_15 : decode cX7_setUp 15 = .ok (.iconst 1, 1) := by decide +kernel
theorem dX7_setUp_16 : decode cX7_setUp 16 = .ok (.iload_n 1, 1) := by decide +kernel
theorem dX7_setUp_17 : decode cX7_setUp 17 = .ok (.ishl, 1) := by decide +kernel
theorem dX7_setUp_18 : decode cX7_setUp 18 = .ok (.ixor, 1) := by decide +kernel
theorem dX7_setUp_19 : decode cX7_setUp 19 = .ok (.putfield 18, 3) := by decide +kernel
theorem dX7_setUp_22 : decode cX7_setUp 22 = .ok (.aload_n 0, 1) := by decide +kernel
theorem dX7_setUp_23 : decode cX7_setUp 23 = .ok (.getfield 9, 3) := by decide +kernel
theorem dX7_setUp_26 : decode cX7_setUp 26 = .ok (.iload_n 1, 1) := by decide +kernel
theorem dX7_setUp_27 : decode cX7_setUp 27 = .ok (.iconst 0, 1) := by decide +kernel
theorem dX7_setUp_28 : decode cX7_setUp 28 = .ok (.iastore, 1) := by decide +kernel
theorem dX7_setUp_29 : decode cX7_setUp 29 = .ok (.iconst 1, 1) := by decide +kernel
theorem dX7_setUp_30 : decode cX7_setUp 30 = .ok (.ireturn, 1) := by decide +kernel
theorem dX7_turnNail_0 : decode cX7_turnNail 0 = .ok (.aload_n 0, 1) := by decide +kernel
theorem dX7_turnNail_1 : decode cX7_turnNail 1 = .ok (.iload_n 1, 1) := by decide +kernel
theorem dX7_turnNail_2 : decode cX7_turnNail 2 = .ok (.invokevirtual 72, 3) := by decide +kernel
theorem dX7_turnNail_5 : decode cX7_turnNail 5 = .ok (.ifCond .ne 5, 3) := by decide +kernel
theorem dX7_turnNail_8 : decode cX7_turnNail 8 = .ok (.iconst 0, 1) := by decide +kernel
theorem dX7_turnNail_9 : decode cX7_turnNail 9 = .ok (.ireturn, 1) := by decide +kernel
theorem dX7_turnNail_10 : decode cX7_turnNail 10 = .ok (.aload_n 0, 1) := by decide +kernel
theorem dX7_turnNail_11 : decode cX7_turnNail 11 = .ok (.dup, 1) := by decide +kernel
theorem dX7_turnNail_12 : decode cX7_turnNail 12 = .ok (.getfield 25, 3) := by decide +kernel
theorem dX7_turnNail_15 : decode cX7_turnNail 15 = .ok (.iconst 1, 1) := by decide +kernel
theorem dX7_turnNail_16 : decode cX7_turnNail 16 = .ok (.iload_n 1, 1) := by decide +kernel
theorem dX7_turnNail_17 : decode cX7_turnNail 17 = .ok (.ishl, 1) := by decide +kernel
theorem dX7_turnNail_18 : decode cX7_turnNail 18 = .ok (.ixor, 1) := by decide +kernel
theorem dX7_turnNail_19 : decode cX7_turnNail 19 = .ok (.putfield 25, 3) := by decide +kernel
theorem dX7_turnNail_22 : decode cX7_turnNail 22 = .ok (.iconst 1, 1) := by decide +kernel
theorem dX7_turnNail_23 : decode cX7_turnNail 23 = .ok (.ireturn, 1) := by decide +kernel
theorem dX7_takePenny_0 : decode cX7_takePenny 0 = .ok (.aload_n 0, 1) := by decide +kernel
theorem dX7_takePenny_1 : decode cX7_takePenny 1 = .ok (.getfield 31, 3) := by decide +kernel
theorem dX7_takePenny_4 : decode cX7_takePenny 4 = .ok (.bipush 9, 2) := by decide +kernel
theorem dX7_takePenny_6 : decode cX7_takePenny 6 = .ok (.if_icmp .lt 5, 3) := by decide +kernel
theorem dX7_takePenny_9 : decode cX7_takePenny 9 = .ok (.iconst 0, 1) := by decide +kernel
theorem dX7_takePenny_10 : decode cX7_takePenny 10 = .ok (.ireturn, 1) := by decide +kernel
theorem dX7_takePenny_11 : decode cX7_takePenny 11 = .ok (.aload_n 0, 1) := by decide +kernel
theorem dX7_takePenny_12 : decode cX7_takePenny 12 = .ok (.bipush 9, 2) := by decide +kernel
theorem dX7_takePenny_14 : decode cX7_takePenny 14 = .ok (.aload_n 0, 1) := by decide +kernel
theorem dX7_takePenny_15 : decode cX7_takePenny 15 = .ok (.getfield 31, 3) := by decide +kernel
theorem dX7_takePenny_18 : decode cX7_takePenny 18 = .ok (.iconst 3, 1) := by decide +kernel
theorem dX7_takePenny_19 : decode cX7_takePenny 19 = .ok (.iadd, 1) := by decide +kernel
theorem dX7_takePenny_20 : decode cX7_takePenny 20 = .ok (.invokestatic 76, 3) := by decide +kernel
theorem dX7_takePenny_23 : decode cX7_takePenny 23 = .ok (.putfield 31, 3) := by decide +kernel
theorem dX7_takePenny_26 : decode cX7_takePenny 26 = .ok (.iconst 1, 1) := by decide +kernel
theorem dX7_takePenny_27 : decode cX7_takePenny 27 = .ok (.ireturn, 1) := by decide +kernel
theorem dX7_throwBy_0 : decode cX7_throwBy 0 = .ok (.aload_n 1, 1) := by decide +kernel
theorem dX7_throwBy_1 : decode cX7_throwBy 1 = .ok (.aload_n 1, 1) := by decide +kernel
theorem dX7_throwBy_2 : decode cX7_throwBy 2 = .ok (.iload_n 2, 1) := by decide +kernel
theorem dX7_throwBy_3 : decode cX7_throwBy 3 = .ok (.iload_n 3, 1) := by decide +kernel
theorem dX7_throwBy_4 : decode cX7_throwBy 4 = .ok (.iload 4, 2) := by decide +kernel
theorem dX7_throwBy_6 : decode cX7_throwBy 6 = .ok (.aload_n 0, 1) := by decide +kernel
theorem dX7_throwBy_7 : decode cX7_throwBy 7 = .ok (.getfield 28, 3) := by decide +kernel
theorem dX7_throwBy_10 : decode cX7_throwBy 10 = .ok (.invokevirtual 79, 3) := by decide +kernel
theorem dX7_throwBy_13 : decode cX7_throwBy 13 = .ok (.invokevirtual 83, 3) := by decide +kernel
theorem dX7_throwBy_16 : decode cX7_throwBy 16 = .ok (.istore 5, 2) := by decide +kernel
theorem dX7_throwBy_18 : decode cX7_throwBy 18 = .ok (.iload 5, 2) := by decide +kernel
theorem dX7_throwBy_20 : decode cX7_throwBy 20 = .ok (.bipush (-9), 2) := by decide +kernel
theorem dX7_throwBy_22 : decode cX7_throwBy 22 = .ok (.if_icmp .eq 12, 3) := by decide +kernel
theorem dX7_throwBy_25 : decode cX7_throwBy 25 = .ok (.aload_n 0, 1) := by decide +kernel
theorem dX7_throwBy_26 : decode cX7_throwBy 26 = .ok (.iload 5, 2) := by decide +kernel
theorem dX7_throwBy_28 : decode cX7_throwBy 28 = .ok (.invokevirtual 72, 3) := by decide +kernel
theorem dX7_throwBy_31 : decode cX7_throwBy 31 = .ok (.ifCond .ne 5, 3) := by decide +kernel
theorem dX7_throwBy_34 : decode cX7_throwBy 34 = .ok (.iconst 0, 1) := by decide +kernel
theorem dX7_throwBy_35 : decode cX7_throwBy 35 = .ok (.ireturn, 1) := by decide +kernel
theorem dX7_throwBy_36 : decode cX7_throwBy 36 = .ok (.aload_n 0, 1) := by decide +kernel
theorem dX7_throwBy_37 : decode cX7_throwBy 37 = .ok (.aload_n 1, 1) := by decide +kernel
theorem dX7_throwBy_38 : decode cX7_throwBy 38 = .ok (.iload_n 2, 1) := by decide +kernel
theorem dX7_throwBy_39 : decode cX7_throwBy 39 = .ok (.iload 5, 2) := by decide +kernel
theorem dX7_throwBy_41 : decode cX7_throwBy 41 = .ok (.invokevirtual 86, 3) := by decide +kernel
theorem dX7_throwBy_44 : decode cX7_throwBy 44 = .ok (.ireturn, 1) := by decide +kernel
theorem dX7_canBeThrownAt_0 : decode cX7_canBeThrownAt 0 = .ok (.aload_n 0, 1) := by decide +kernel
theorem dX7_canBeThrownAt_1 : decode cX7_canBeThrownAt 1 = .ok (.iload_n 3, 1) := by decide +kernel
theorem dX7_canBeThrownAt_2 : decode cX7_canBeThrownAt 2 = .ok (.invokevirtual 72, 3) := by decide +kernel
theorem dX7_canBeThrownAt_5 : decode cX7_canBeThrownAt 5 = .ok (.ifCond .eq 20, 3) := by decide +kernel
theorem dX7_canBeThrownAt_8 : decode cX7_canBeThrownAt 8 = .ok (.aload_n 1, 1) := by decide +kernel
theorem dX7_canBeThrownAt_9 : decode cX7_canBeThrownAt 9 = .ok (.iload_n 2, 1) := by decide +kernel
theorem dX7_canBeThrownAt_10 : decode cX7_canBeThrownAt 10 = .ok (.iload_n 3, 1) := by decide +kernel
theorem dX7_canBeThrownAt_11 : decode cX7_canBeThrownAt 11 = .ok (.aload_n 0, 1) := by decide +kernel
theorem dX7_canBeThrownAt_12 : decode cX7_canBeThrownAt 12 = .ok (.getfield 28, 3) := by decide +kernel
theorem dX7_canBeThrownAt_15 : decode cX7_canBeThrownAt 15 = .ok (.invokevirtual 90, 3) := by decide +kernel
theorem dX7_canBeThrownAt_18 : decode cX7_canBeThrownAt 18 = .ok (.ifCond .eq 7, 3) := by decide +kernel
theorem dX7_canBeThrownAt_21 : decode cX7_canBeThrownAt 21 = .ok (.iconst 1, 1) := by decide +kernel
theorem dX7_canBeThrownAt_22 : decode cX7_canBeThrownAt 22 = .ok (.goto 4, 3) := by decide +kernel
theorem dX7_canBeThrownAt_25 : decode cX7_canBeThrownAt 25 = .ok (.iconst 0, 1) := by decide +kernel
theorem dX7_canBeThrownAt_26 : decode cX7_canBeThrownAt 26 = .ok (.ireturn, 1) := by decide +kernel
theorem dX7_strike_0 : decode cX7_strike 0 = .ok (.aload_n 0, 1) := by decide +kernel
theorem dX7_strike_1 : decode cX7_strike 1 = .ok (.getfield 9, 3) := by decide +kernel
theorem dX7_strike_4 : decode cX7_strike 4 = .ok (.iload_n 3, 1) := by decide +kernel
theorem dX7_strike_5 : decode cX7_strike 5 = .ok (.dup2, 1) := by decide +kernel
theorem dX7_strike_6 : decode cX7_strike 6 = .ok (.iaload, 1) := by decide +kernel
theorem dX7_strike_7 : decode cX7_strike 7 = .ok (.aload_n 1, 1) := by decide +kernel
theorem dX7_strike_8 : decode cX7_strike 8 = .ok (.iload_n 2, 1) := by decide +kernel
theorem dX7_strike_9 : decode cX7_strike 9 = .ok (.invokevirtual 94, 3) := by decide +kernel
theorem dX7_strike_12 : decode cX7_strike 12 = .ok (.iadd, 1) := by decide +kernel
theorem dX7_strike_13 : decode cX7_strike 13 = .ok (.iastore, 1) := by decide +kernel
theorem dX7_strike_14 : decode cX7_strike 14 = .ok (.aload_n 0, 1) := by decide +kernel
theorem dX7_strike_15 : decode cX7_strike 15 = .ok (.getfield 15, 3) := by decide +kernel
theorem dX7_strike_18 : decode cX7_strike 18 = .ok (.iload_n 3, 1) := by decide +kernel
theorem dX7_strike_19 : decode cX7_strike 19 = .ok (.dup2, 1) := by decide +kernel
theorem dX7_strike_20 : decode cX7_strike 20 = .ok (.iaload, 1) := by decide +kernel
theorem dX7_strike_21 : decode cX7_strike 21 = .ok (.iconst 1, 1) := by decide +kernel
theorem dX7_strike_22 : decode cX7_strike 22 = .ok (.iadd, 1) := by decide +kernel
theorem dX7_strike_23 : decode cX7_strike 23 = .ok (.iastore, 1) := by decide +kernel
theorem dX7_strike_24 : decode cX7_strike 24 = .ok (.aload_n 0, 1) := by decide +kernel
theorem dX7_strike_25 : decode cX7_strike 25 = .ok (.getfield 9, 3) := by decide +kernel
theorem dX7_strike_28 : decode cX7_strike 28 = .ok (.iload_n 3, 1) := by decide +kernel
theorem dX7_strike_29 : decode cX7_strike 29 = .ok (.iaload, 1) := by decide +kernel
theorem dX7_strike_30 : decode cX7_strike 30 = .ok (.aload_n 0, 1) := by decide +kernel
theorem dX7_strike_31 : decode cX7_strike 31 = .ok (.aload_n 1, 1) := by decide +kernel
theorem dX7_strike_32 : decode cX7_strike 32 = .ok (.iload_n 3, 1) := by decide +kernel
theorem dX7_strike_33 : decode cX7_strike 33 = .ok (.invokevirtual 97, 3) := by decide +kernel
theorem dX7_strike_36 : decode cX7_strike 36 = .ok (.if_icmp .ge 5, 3) := by decide +kernel
theorem dX7_strike_39 : decode cX7_strike 39 = .ok (.iconst 0, 1) := by decide +kernel
theorem dX7_strike_40 : decode cX7_strike 40 = .ok (.ireturn, 1) := by decide +kernel
theorem dX7_strike_41 : decode cX7_strike 41 = .ok (.aload_n 1, 1) := by decide +kernel
theorem dX7_strike_42 : decode cX7_strike 42 = .ok (.getfield 45, 3) := by decide +kernel
theorem dX7_strike_45 : decode cX7_strike 45 = .ok (.iload_n 3, 1) := by decide +kernel
theorem dX7_strike_46 : decode cX7_strike 46 = .ok (.iaload, 1) := by decide +kernel
theorem dX7_strike_47 : decode cX7_strike 47 = .ok (.iconst 3, 1) := by decide +kernel
theorem dX7_strike_48 : decode cX7_strike 48 = .ok (.if_icmp .ne 35, 3) := by decide +kernel
theorem dX7_strike_51 : decode cX7_strike 51 = .ok (.aload_n 0, 1) := by decide +kernel
theorem dX7_strike_52 : decode cX7_strike 52 = .ok (.getfield 22, 3) := by decide +kernel
theorem dX7_strike_55 : decode cX7_strike 55 = .ok (.iload_n 3, 1) := by decide +kernel
theorem dX7_strike_56 : decode cX7_strike 56 = .ok (.invokestatic 54, 3) := by decide +kernel
theorem dX7_strike_59 : decode cX7_strike 59 = .ok (.ifCond .ne 24, 3) := by decide +kernel
theorem dX7_strike_62 : decode cX7_strike 62 = .ok (.aload_n 0, 1) := by decide +kernel
theorem dX7_strike_63 : decode cX7_strike 63 = .ok (.dup, 1) := by decide +kernel
theorem dX7_strike_64 : decode cX7_strike 64 = .ok (.getfield 22, 3) := by decide +kernel
theorem dX7_strike_67 : decode cX7_strike 67 = .ok (.iconst 1, 1) := by decide +kernel
theorem dX7_strike_68 : decode cX7_strike 68 = .ok (.iload_n 3, 1) := by decide +kernel
theorem dX7_strike_69 : decode cX7_strike 69 = .ok (.ishl, 1) := by decide +kernel
theorem dX7_strike_70 : decode cX7_strike 70 = .ok (.ior, 1) := by decide +kernel
theorem dX7_strike_71 : decode cX7_strike 71 = .ok (.putfield 22, 3) := by decide +kernel
theorem dX7_strike_74 : decode cX7_strike 74 = .ok (.aload_n 0, 1) := by decide +kernel
theorem dX7_strike_75 : decode cX7_strike 75 = .ok (.getfield 9, 3) := by decide +kernel
theorem dX7_strike_78 : decode cX7_strike 78 = .ok (.iload_n 3, 1) := by decide +kernel
theorem dX7_strike_79 : decode cX7_strike 79 = .ok (.iconst 0, 1) := by decide +kernel
theorem dX7_strike_80 : decode cX7_strike 80 = .ok (.iastore, 1) := by decide +kernel
theorem dX7_strike_81 : decode cX7_strike 81 = .ok (.iconst 0, 1) := by decide +kernel
theorem dX7_strike_82 : decode cX7_strike 82 = .ok (.ireturn, 1) := by decide +kernel
theorem dX7_strike_83 : decode cX7_strike 83 = .ok (.aload_n 1, 1) := by decide +kernel
theorem dX7_strike_84 : decode cX7_strike 84 = .ok (.aload_n 0, 1) := by decide +kernel
theorem dX7_strike_85 : decode cX7_strike 85 = .ok (.iload_n 3, 1) := by decide +kernel
theorem dX7_strike_86 : decode cX7_strike 86 = .ok (.iconst 0, 1) := by decide +kernel
theorem dX7_strike_87 : decode cX7_strike 87 = .ok (.iconst 0, 1) := by decide +kernel
theorem dX7_strike_88 : decode cX7_strike 88 = .ok (.invokestatic 101, 3) := by decide +kernel
theorem dX7_strike_91 : decode cX7_strike 91 = .ok (.ireturn, 1) := by decide +kernel
theorem dX7_fall_0 : decode cX7_fall 0 = .ok (.iload 4, 2) := by decide +kernel
theorem dX7_fall_2 : decode cX7_fall 2 = .ok (.iconst 5, 1) := by decide +kernel
theorem dX7_fall_3 : decode cX7_fall 3 = .ok (.if_icmp .lt 5, 3) := by decide +kernel
theorem dX7_fall_6 : decode cX7_fall 6 = .ok (.iload_n 3, 1) := by decide +kernel
theorem dX7_fall_7 : decode cX7_fall 7 = .ok (.ireturn, 1) := by decide +kernel
theorem dX7_fall_8 : decode cX7_fall 8 = .ok (.aload_n 1, 1) := by decide +kernel
theorem dX7_fall_9 : decode cX7_fall 9 = .ok (.dup, 1) := by decide +kernel
theorem dX7_fall_10 : decode cX7_fall 10 = .ok (.getfield 18, 3) := by decide +kernel
theorem dX7_fall_13 : decode cX7_fall 13 = .ok (.iconst 1, 1) := by decide +kernel
theorem dX7_fall_14 : decode cX7_fall 14 = .ok (.iload_n 2, 1) := by decide +kernel
theorem dX7_fall_15 : decode cX7_fall 15 = .ok (.ishl, 1) := by decide +kernel
theorem dX7_fall_16 : decode cX7_fall 16 = .ok (.ior, 1) := by decide +kernel
theorem dX7_fall_17 : decode cX7_fall 17 = .ok (.putfield 18, 3) := by decide +kernel
theorem dX7_fall_20 : decode cX7_fall 20 = .ok (.iload_n 3, 1) := by decide +kernel
theorem dX7_fall_21 : decode cX7_fall 21 = .ok (.iconst 1, 1) := by decide +kernel
theorem dX7_fall_22 : decode cX7_fall 22 = .ok (.iload_n 2, 1) := by decide +kernel
theorem dX7_fall_23 : decode cX7_fall 23 = .ok (.ishl, 1) := by decide +kernel
theorem dX7_fall_24 : decode cX7_fall 24 = .ok (.ior, 1) := by decide +kernel
theorem dX7_fall_25 : decode cX7_fall 25 = .ok (.istore 5, 2) := by decide +kernel
theorem dX7_fall_27 : decode cX7_fall 27 = .ok (.iconst 0, 1) := by decide +kernel
theorem dX7_fall_28 : decode cX7_fall 28 = .ok (.istore 6, 2) := by decide +kernel
theorem dX7_fall_30 : decode cX7_fall 30 = .ok (.iload 6, 2) := by decide +kernel
theorem dX7_fall_32 : decode cX7_fall 32 = .ok (.aload_n 0, 1) := by decide +kernel
theorem dX7_fall_33 : decode cX7_fall 33 = .ok (.getfield 105, 3) := by decide +kernel
theorem dX7_fall_36 : decode cX7_fall 36 = .ok (.if_icmp .ge 87, 3) := by decide +kernel
theorem dX7_fall_39 : decode cX7_fall 39 = .ok (.aload_n 0, 1) := by decide +kernel
theorem dX7_fall_40 : decode cX7_fall 40 = .ok (.getfield 108, 3) := by decide +kernel
theorem dX7_fall_43 : decode cX7_fall 43 = .ok (.iload 6, 2) := by decide +kernel
theorem dX7_fall_45 : decode cX7_fall 45 = .ok (.iaload, 1) := by decide +kernel
theorem dX7_fall_46 : decode cX7_fall 46 = .ok (.iload_n 2, 1) := by decide +kernel
theorem dX7_fall_47 : decode cX7_fall 47 = .ok (.if_icmp .eq 6, 3) := by decide +kernel
theorem dX7_fall_50 : decode cX7_fall 50 = .ok (.goto 67, 3) := by decide +kernel
theorem dX7_fall_53 : decode cX7_fall 53 = .ok (.aload_n 0, 1) := by decide +kernel
theorem dX7_fall_54 : decode cX7_fall 54 = .ok (.getfield 111, 3) := by decide +kernel
theorem dX7_fall_57 : decode cX7_fall 57 = .ok (.iload 6, 2) := by decide +kernel
theorem dX7_fall_59 : decode cX7_fall 59 = .ok (.iaload, 1) := by decide +kernel
theorem dX7_fall_60 : decode cX7_fall 60 = .ok (.istore 7, 2) := by decide +kernel
theorem dX7_fall_62 : decode cX7_fall 62 = .ok (.aload_n 0, 1) := by decide +kernel
theorem dX7_fall_63 : decode cX7_fall 63 = .ok (.getfield 114, 3) := by decide +kernel
theorem dX7_fall_66 : decode cX7_fall 66 = .ok (.iload 6, 2) := by decide +kernel
theorem dX7_fall_68 : decode cX7_fall 68 = .ok (.iaload, 1) := by decide +kernel
theorem dX7_fall_69 : decode cX7_fall 69 = .ok (.iconst 1, 1) := by decide +kernel
theorem dX7_fall_70 : decode cX7_fall 70 = .ok (.if_icmp .ne 13, 3) := by decide +kernel
theorem dX7_fall_73 : decode cX7_fall 73 = .ok (.aload_n 1, 1) := by decide +kernel
theorem dX7_fall_74 : decode cX7_fall 74 = .ok (.iload 7, 2) := by decide +kernel
theorem dX7_fall_76 : decode cX7_fall 76 = .ok (.invokevirtual 117, 3) := by decide +kernel
theorem dX7_fall_79 : decode cX7_fall 79 = .ok (.pop, 1) := by decide +kernel
theorem dX7_fall_80 : decode cX7_fall 80 = .ok (.goto 37, 3) := by decide +kernel
theorem dX7_fall_83 : decode cX7_fall 83 = .ok (.aload_n 1, 1) := by decide +kernel
theorem dX7_fall_84 : decode cX7_fall 84 = .ok (.iload 7, 2) := by decide +kernel
theorem dX7_fall_86 : decode cX7_fall 86 = .ok (.invokevirtual 72, 3) := by decide +kernel
theorem dX7_fall_89 : decode cX7_fall 89 = .ok (.ifCond .eq 28, 3) := by decide +kernel
theorem dX7_fall_92 : decode cX7_fall 92 = .ok (.iload 5, 2) := by decide +kernel
theorem dX7_fall_94 : decode cX7_fall 94 = .ok (.iload 7, 2) := by decide +kernel
theorem dX7_fall_96 : decode cX7_fall 96 = .ok (.invokestatic 54, 3) := by decide +kernel
theorem dX7_fall_99 : decode cX7_fall 99 = .ok (.ifCond .ne 18, 3) := by decide +kernel
theorem dX7_fall_102 : decode cX7_fall 102 = .ok (.aload_n 0, 1) := by decide +kernel
theorem dX7_fall_103 : decode cX7_fall 103 = .ok (.aload_n 1, 1) := by decide +kernel
theorem dX7_fall_104 : decode cX7_fall 104 = .ok (.iload 7, 2) := by decide +kernel
theorem dX7_fall_106 : decode cX7_fall 106 = .ok (.iload 5, 2) := by decide +kernel
theorem dX7_fall_108 : decode cX7_fall 108 = .ok (.iload 4, 2) := by decide +kernel
theorem dX7_fall_110 : decode cX7_fall 110 = .ok (.iconst 1, 1) := by decide +kernel
theorem dX7_fall_111 : decode cX7_fall 111 = .ok (.iadd, 1) := by decide +kernel
theorem dX7_fall_112 : decode cX7_fall 112 = .ok (.invokestatic 101, 3) := by decide +kernel
theorem dX7_fall_115 : decode cX7_fall 115 = .ok (.istore 5, 2) := by decide +kernel
theorem dX7_fall_117 : decode cX7_fall 117 = .ok (.iinc 6 1, 3) := by decide +kernel
theorem dX7_fall_120 : decode cX7_fall 120 = .ok (.goto (-90), 3) := by decide +kernel
theorem dX7_fall_123 : decode cX7_fall 123 = .ok (.iload 5, 2) := by decide +kernel
theorem dX7_fall_125 : decode cX7_fall 125 = .ok (.ireturn, 1) := by decide +kernel
theorem dX8_init_0 : decode cX8_init 0 = .ok (.aload_n 0, 1) := by decide +kernel
theorem dX8_init_1 : decode cX8_init 1 = .ok (.invokespecial 3, 3) := by decide +kernel
theorem dX8_init_4 : decode cX8_init 4 = .ok (.aload_n 0, 1) := by decide +kernel
theorem dX8_init_5 : decode cX8_init 5 = .ok (.bipush 60, 2) := by decide +kernel
theorem dX8_init_7 : decode cX8_init 7 = .ok (.newarray .int, 2) := by decide +kernel
theorem dX8_init_9 : decode cX8_init 9 = .ok (.putfield 9, 3) := by decide +kernel
theorem dX8_init_12 : decode cX8_init 12 = .ok (.aload_n 0, 1) := by decide +kernel
theorem dX8_init_13 : decode cX8_init 13 = .ok (.iconst 0, 1) := by decide +kernel
theorem dX8_init_14 : decode cX8_init 14 = .ok (.putfield 15, 3) := by decide +kernel
theorem dX8_init_17 : decode cX8_init 17 = .ok (.return_, 1) := by decide +kernel
theorem dX8_append_0 : decode cX8_append 0 = .ok (.aload_n 0, 1) := by decide +kernel
theorem dX8_append_1 : decode cX8_append 1 = .ok (.getfield 15, 3) := by decide +kernel
theorem dX8_append_4 : decode cX8_append 4 = .ok (.bipush 60, 2) := by decide +kernel
theorem dX8_append_6 : decode cX8_append 6 = .ok (.if_icmp .lt 5, 3) := by decide +kernel
theorem dX8_append_9 : decode cX8_append 9 = .ok (.iconst 0, 1) := by decide +kernel
theorem dX8_append_10 : decode cX8_append 10 = .ok (.ireturn, 1) := by decide +kernel
theorem dX8_append_11 : decode cX8_append 11 = .ok (.aload_n 0, 1) := by decide +kernel
theorem dX8_append_12 : decode cX8_append 12 = .ok (.getfield 9, 3) := by decide +kernel
theorem dX8_append_15 : decode cX8_append 15 = .ok (.aload_n 0, 1) := by decide +kernel
theorem dX8_append_16 : decode cX8_append 16 = .ok (.getfield 15, 3) := by decide +kernel
theorem dX8_append_19 : decode cX8_append 19 = .ok (.iload_n 1, 1) := by decide +kernel
theorem dX8_append_20 : decode cX8_append 20 = .ok (.iastore, 1) := by decide +kernel
theorem dX8_append_21 : decode cX8_append 21 = .ok (.aload_n 0, 1) := by decide +kernel
theorem dX8_append_22 : decode cX8_append 22 = .ok (.dup, 1) := by decide +kernel
theorem dX8_append_23 : decode cX8_append 23 = .ok (.getfield 15, 3) := by decide +kernel
theorem dX8_append_26 : decode cX8_append 26 = .ok (.iconst 1, 1) := by decide +kernel
theorem dX8_append_27 : decode cX8_append 27 = .ok (.iadd, 1) := by decide +kernel
theorem dX8_append_28 : decode cX8_append 28 = .ok (.putfield 15, 3) := by decide +kernel
theorem dX8_append_31 : decode cX8_append 31 = .ok (.iconst 1, 1) := by decide +kernel
theorem dX8_append_32 : decode cX8_append 32 = .ok (.ireturn, 1) := by decide +kernel
theorem dX8_letterAt_0 : decode cX8_letterAt 0 = .ok (.iload_n 1, 1) := by decide +kernel
theorem dX8_letterAt_1 : decode cX8_letterAt 1 = .ok (.ifCond .lt 20, 3) := by decide +kernel
theorem dX8_letterAt_4 : decode cX8_letterAt 4 = .ok (.iload_n 1, 1) := by decide +kernel
theorem dX8_letterAt_5 : decode cX8_letterAt 5 = .ok (.aload_n 0, 1) := by decide +kernel
theorem dX8_letterAt_6 : decode cX8_letterAt 6 = .ok (.getfield 15, 3) := by decide +kernel
theorem dX8_letterAt_9 : decode cX8_letterAt 9 = .ok (.if_icmp .ge 12, 3) := by decide +kernel
theorem dX8_letterAt_12 : decode cX8_letterAt 12 = .ok (.aload_n 0, 1) := by decide +kernel
theorem dX8_letterAt_13 : decode cX8_letterAt 13 = .ok (.getfield 9, 3) := by decide +kernel
theorem dX8_letterAt_16 : decode cX8_letterAt 16 = .ok (.iload_n 1, 1) := by decide +kernel
theorem dX8_letterAt_17 : decode cX8_letterAt 17 = .ok (.iaload, 1) := by decide +kernel
theorem dX8_letterAt_18 : decode cX8_letterAt 18 = .ok (.goto 5, 3) := by decide +kernel
theorem dX8_letterAt_21 : decode cX8_letterAt 21 = .ok (.bipush (-9), 2) := by decide +kernel
theorem dX8_letterAt_23 : decode cX8_letterAt 23 = .ok (.ireturn, 1) := by decide +kernel
theorem dX8_figureAt_0 : decode cX8_figureAt 0 = .ok (.aload_n 0, 1) := by decide +kernel
theorem dX8_figureAt_1 : decode cX8_figureAt 1 = .ok (.iload_n 1, 1) := by decide +kernel
theorem dX8_figureAt_2 : decode cX8_figureAt 2 = .ok (.invokevirtual 19, 3) := by decide +kernel
theorem dX8_figureAt_5 : decode cX8_figureAt 5 = .ok (.bipush 48, 2) := by decide +kernel
theorem dX8_figureAt_7 : decode cX8_figureAt 7 = .ok (.isub, 1) := by decide +kernel
theorem dX8_figureAt_8 : decode cX8_figureAt 8 = .ok (.istore 4, 2) := by decide +kernel
theorem dX8_figureAt_10 : decode cX8_figureAt 10 = .ok (.iload 4, 2) := by decide +kernel
theorem dX8_figureAt_12 : decode cX8_figureAt 12 = .ok (.iload_n 2, 1) := by decide +kernel
theorem dX8_figureAt_13 : decode cX8_figureAt 13 = .ok (.if_icmp .lt 14, 3) := by decide +kernel
theorem dX8_figureAt_16 : decode cX8_figureAt 16 = .ok (.iload 4, 2) := by decide +kernel
theorem dX8_figureAt_18 : decode cX8_figureAt 18 = .ok (.iload_n 3, 1) := by decide +kernel
theorem dX8_figureAt_19 : decode cX8_figureAt 19 = .ok (.if_icmp .gt 8, 3) := by decide +kernel
theorem dX8_figureAt_22 : decode cX8_figureAt 22 = .ok (.iload 4, 2) := by decide +kernel
theorem dX8_figureAt_24 : decode cX8_figureAt 24 = .ok (.goto 5, 3) := by decide +kernel
theorem dX8_figureAt_27 : decode cX8_figureAt 27 = .ok (.bipush (-9), 2) := by decide +kernel
theorem dX8_figureAt_29 : decode cX8_figureAt 29 = .ok (.ireturn, 1) := by decide +kernel
theorem dX9_init_0 : decode cX9_init 0 = .ok (.aload_n 0, 1) := by decide +kernel
theorem dX9_init_1 : decode cX9_init 1 = .ok (.invokespecial 1, 3) := by decide +kernel
theorem dX9_init_4 : decode cX9_init 4 = .ok (.aload_n 0, 1) := by decide +kernel
theorem dX9_init_5 : decode cX9_init 5 = .ok (.new 7, 3) := by decide +kernel
theorem dX9_init_8 : decode cX9_init 8 = .ok (.dup, 1) := by decide +kernel
theorem dX9_init_9 : decode cX9_init 9 = .ok (.invokespecial 9, 3) := by decide +kernel
theorem dX9_init_12 : decode cX9_init 12 = .ok (.putfield 10, 3) := by decide +kernel
theorem dX9_init_15 : decode cX9_init 15 = .ok (.aload_n 0, 1) := by decide +kernel
theorem dX9_init_16 : decode cX9_init 16 = .ok (.new 16, 3) := by decide +kernel
theorem dX9_init_19 : decode cX9_init 19 = .ok (.dup, 1) := by decide +kernel
theorem dX9_init_20 : decode cX9_init 20 = .ok (.invokespecial 18, 3) := by decide +kernel
theorem dX9_init_23 : decode cX9_init 23 = .ok (.putfield 19, 3) := by decide +kernel
theorem dX9_init_26 : decode cX9_init 26 = .ok (.aload_n 0, 1) := by decide +kernel
theorem dX9_init_27 : decode cX9_init 27 = .ok (.new 23, 3) := by decide +kernel
theorem dX9_init_30 : decode cX9_init 30 = .ok (.dup, 1) := by decide +kernel
theorem dX9_init_31 : decode cX9_init 31 = .ok (.invokespecial 25, 3) := by decide +kernel
theorem dX9_init_34 : decode cX9_init 34 = .ok (.putfield 26, 3) := by decide +kernel
theorem dX9_init_37 : decode cX9_init 37 = .ok (.aload_n 0, 1) := by decide +kernel
theorem dX9_init_38 : decode cX9_init 38 = .ok (.new 30, 3) := by decide +kernel
theorem dX9_init_41 : decode cX9_init 41 = .ok (.dup, 1) := by decide +kernel
theorem dX9_init_42 : decode cX9_init 42 = .ok (.invokespecial 32, 3) := by decide +kernel
theorem dX9_init_45 : decode cX9_init 45 = .ok (.putfield 33, 3) := by decide +kernel
theorem dX9_init_48 : decode cX9_init 48 = .ok (.aload_n 0, 1) := by decide +kernel
theorem dX9_init_49 : decode cX9_init 49 = .ok (.new 37, 3) := by decide +kernel
theorem dX9_init_52 : decode cX9_init 52 = .ok (.dup, 1) := by decide +kernel
theorem dX9_init_53 : decode cX9_init 53 = .ok (.invokespecial 39, 3) := by decide +kernel
theorem dX9_init_56 : decode cX9_init 56 = .ok (.putfield 40, 3) := by decide +kernel
theorem dX9_init_59 : decode cX9_init 59 = .ok (.aload_n 0, 1) := by decide +kernel
theorem dX9_init_60 : decode cX9_init 60 = .ok (.new 44, 3) := by decide +kernel
theorem dX9_init_63 : decode cX9_init 63 = .ok (.dup, 1) := by decide +kernel
theorem dX9_init_64 : decode cX9_init 64 = .ok (.invokespecial 46, 3) := by decide +kernel
theorem dX9_init_67 : decode cX9_init 67 = .ok (.putfield 47, 3) := by decide +kernel
theorem dX9_init_70 : decode cX9_init 70 = .ok (.aload_n 0, 1) := by decide +kernel
theorem dX9_init_71 : decode cX9_init 71 = .ok (.new 51, 3) := by decide +kernel
theorem dX9_init_74 : decode cX9_init 74 = .ok (.dup, 1) := by decide +kernel
theorem dX9_init_75 : decode cX9_init 75 = .ok (.invokespecial 53, 3) := by decide +kernel
theorem dX9_init_78 : decode cX9_init 78 = .ok (.putfield 54, 3) := by decide +kernel
theorem dX9_init_81 : decode cX9_init 81 = .ok (.aload_n 0, 1) := by decide +kernel
theorem dX9_init_82 : decode cX9_init 82 = .ok (.new 58, 3) := by decide +kernel
theorem dX9_init_85 : decode cX9_init 85 = .ok (.dup, 1) := by decide +kernel
theorem dX9_init_86 : decode cX9_init 86 = .ok (.invokespecial 60, 3) := by decide +kernel
theorem dX9_init_89 : decode cX9_init 89 = .ok (.putfield 61, 3) := by decide +kernel
theorem dX9_init_92 : decode cX9_init 92 = .ok (.aload_n 0, 1) := by decide +kernel
theorem dX9_init_93 : decode cX9_init 93 = .ok (.new 65, 3) := by decide +kernel
theorem dX9_init_96 : decode cX9_init 96 = .ok (.dup, 1) := by decide +kernel
theorem dX9_init_97 : decode cX9_init 97 = .ok (.invokespecial 67, 3) := by decide +kernel
theorem dX9_init_100 : decode cX9_init 100 = .ok (.putfield 68, 3) := by decide +kernel
theorem dX9_init_103 : decode cX9_init 103 = .ok (.aload_n 0, 1) := by decide +kernel
theorem dX9_init_104 : decode cX9_init 104 = .ok (.new 65, 3) := by decide +kernel
theorem dX9_init_107 : decode cX9_init 107 = .ok (.dup, 1) := by decide +kernel
theorem dX9_init_108 : decode cX9_init 108 = .ok (.invokespecial 67, 3) := by decide +kernel
theorem dX9_init_111 : decode cX9_init 111 = .ok (.putfield 72, 3) := by decide +kernel
theorem dX9_init_114 : decode cX9_init 114 = .ok (.aload_n 0, 1) := by decide +kernel
theorem dX9_init_115 : decode cX9_init 115 = .ok (.lconst 0, 1) := by decide +kernel
theorem dX9_init_116 : decode cX9_init 116 = .ok (.putfield 75, 3) := by decide +kernel
theorem dX9_init_119 : decode cX9_init 119 = .ok (.return_, 1) := by decide +kernel
theorem dX9_write_0 : decode cX9_write 0 = .ok (.iload_n 1, 1) := by decide +kernel
theorem dX9_write_1 : decode cX9_write 1 = .ok (.ifCond .lt 10, 3) := by decide +kernel
theorem dX9_write_4 : decode cX9_write 4 = .ok (.iload_n 1, 1) := by decide +kernel
theorem dX9_write_5 : decode cX9_write 5 = .ok (.sipush 255, 3) := by decide +kernel
theorem dX9_write_8 : decode cX9_write 8 = .ok (.if_icmp .le 6, 3) := by decide +kernel
theorem dX9_write_11 : decode cX9_write 11 = .ok (.bipush (-2), 2) := by decide +kernel
theorem dX9_write_13 : decode cX9_write 13 = .ok (.ireturn, 1) := by decide +kernel
theorem dX9_write_14 : decode cX9_write 14 = .ok (.aload_n 0, 1) := by decide +kernel
theorem dX9_write_15 : decode cX9_write 15 = .ok (.getfield 10, 3) := by decide +kernel
theorem dX9_write_18 : decode cX9_write 18 = .ok (.iload_n 1, 1) := by decide +kernel
theorem dX9_write_19 : decode cX9_write 19 = .ok (.invokevirtual 79, 3) := by decide +kernel
theorem dX9_write_22 : decode cX9_write 22 = .ok (.ifCond .eq 13, 3) := by decide +kernel
theorem dX9_write_25 : decode cX9_write 25 = .ok (.aload_n 0, 1) := by decide +kernel
theorem dX9_write_26 : decode cX9_write 26 = .ok (.getfield 10, 3) := by decide +kernel
theorem dX9_write_29 : decode cX9_write 29 = .ok (.getfield 83, 3) := by decide +kernel
theorem dX9_write_32 : decode cX9_write 32 = .ok (.goto 5, 3) := by decide +kernel
theorem dX9_write_35 : decode cX9_write 35 = .ok (.bipush (-4), 2) := by decide +kernel
theorem dX9_write_37 : decode cX9_write 37 = .ok (.ireturn, 1) := by decide +kernel
theorem dX9_wipe_0 : decode cX9_wipe 0 = .ok (.aload_n 0, 1) := by decide +kernel
theorem dX9_wipe_1 : decode cX9_wipe 1 = .ok (.getfield 10, 3) := by decide +kernel
theorem dX9_wipe_4 : decode cX9_wipe 4 = .ok (.getfield 83, 3) := by decide +kernel
theorem dX9_wipe_7 : decode cX9_wipe 7 = .ok (.istore_n 1, 1) := by decide +kernel
theorem dX9_wipe_8 : decode cX9_wipe 8 = .ok (.aload_n 0, 1) := by decide +kernel
theorem dX9_wipe_9 : decode cX9_wipe 9 = .ok (.getfield 10, 3) := by decide +kernel
theorem dX9_wipe_12 : decode cX9_wipe 12 = .ok (.iconst 0, 1) := by decide +kernel
theorem dX9_wipe_13 : decode cX9_wipe 13 = .ok (.putfield 83, 3) := by decide +kernel
theorem dX9_wipe_16 : decode cX9_wipe 16 = .ok (.iload_n 1, 1) := by decide +kernel
theorem dX9_wipe_17 : decode cX9_wipe 17 = .ok (.ireturn, 1) := by decide +kernel
theorem dX9_fault_0 : decode cX9_fault 0 = .ok (.aload_n 0, 1) := by decide +kernel
theorem dX9_fault_1 : decode cX9_fault 1 = .ok (.getfield 72, 3) := by decide +kernel
theorem dX9_fault_4 : decode cX9_fault 4 = .ok (.aload_n 0, 1) := by decide +kernel
theorem dX9_fault_5 : decode cX9_fault 5 = .ok (.getfield 10, 3) := by decide +kernel
theorem dX9_fault_8 : decode cX9_fault 8 = .ok (.invokevirtual 87, 3) := by decide +kernel
theorem dX9_fault_11 : decode cX9_fault 11 = .ok (.ireturn, 1) := by decide +kernel
theorem dX9_fair_0 : decode cX9_fair 0 = .ok (.aload_n 0, 1) := by decide +kernel
theorem dX9_fair_1 : decode cX9_fair 1 = .ok (.getfield 72, 3) := by decide +kernel
theorem dX9_fair_4 : decode cX9_fair 4 = .ok (.aload_n 0, 1) := by decide +kernel
theorem dX9_fair_5 : decode cX9_fair 5 = .ok (.getfield 10, 3) := by decide +kernel
theorem dX9_fair_8 : decode cX9_fair 8 = .ok (.invokevirtual 87, 3) := by decide +kernel
theorem dX9_fair_11 : decode cX9_fair 11 = .ok (.bipush (-9), 2) := by decide +kernel
theorem dX9_fair_13 : decode cX9_fair 13 = .ok (.if_icmp .eq 6, 3) := by decide +kernel
theorem dX9_fair_16 : decode cX9_fair 16 = .ok (.bipush (-3), 2) := by decide +kernel
theorem dX9_fair_18 : decode cX9_fair 18 = .ok (.ireturn, 1) := by decide +kernel
theorem dX9_fair_19 : decode cX9_fair 19 = .ok (.aload_n 0, 1) := by decide +kernel
theorem dX9_fair_20 : decode cX9_fair 20 = .ok (.getfield 68, 3) := by decide +kernel
theorem dX9_fair_23 : decode cX9_fair 23 = .ok (.astore_n 1, 1) := by decide +kernel
theorem dX9_fair_24 : decode cX9_fair 24 = .ok (.aload_n 0, 1) := by decide +kernel
theorem dX9_fair_25 : decode cX9_fair 25 = .ok (.aload_n 0, 1) := by decide +kernel
theorem dX9_fair_26 : decode cX9_fair 26 = .ok (.getfield 72, 3) := by decide +kernel
theorem dX9_fair_29 : decode cX9_fair 29 = .ok (.putfield 68, 3) := by decide +kernel
theorem dX9_fair_32 : decode cX9_fair 32 = .ok (.aload_n 0, 1) := by decide +kernel
theorem dX9_fair_33 : decode cX9_fair 33 = .ok (.aload_n 1, 1) := by decide +kernel
theorem dX9_fair_34 : decode cX9_fair 34 = .ok (.putfield 72, 3) := by decide +kernel
theorem dX9_fair_37 : decode cX9_fair 37 = .ok (.aload_n 0, 1) := by decide +kernel
theorem dX9_fair_38 : decode cX9_fair 38 = .ok (.getfield 19, 3) := by decide +kernel
theorem dX9_fair_41 : decode cX9_fair 41 = .ok (.aload_n 0, 1) := by decide +kernel
theorem dX9_fair_42 : decode cX9_fair 42 = .ok (.getfield 68, 3) := by decide +kernel
theorem dX9_fair_45 : decode cX9_fair 45 = .ok (.invokevirtual 91, 3) := by decide +kernel
theorem dX9_fair_48 : decode cX9_fair 48 = .ok (.aload_n 0, 1) := by decide +kernel
theorem dX9_fair_49 : decode cX9_fair 49 = .ok (.getfield 26, 3) := by decide +kernel
theorem dX9_fair_52 : decode cX9_fair 52 = .ok (.invokevirtual 95, 3) := by decide +kernel
theorem dX9_fair_55 : decode cX9_fair 55 = .ok (.aload_n 0, 1) := by decide +kernel
theorem dX9_fair_56 : decode cX9_fair 56 = .ok (.getfield 40, 3) := by decide +kernel
theorem dX9_fair_59 : decode cX9_fair 59 = .ok (.invokevirtual 98, 3) := by decide +kernel
theorem dX9_fair_62 : decode cX9_fair 62 = .ok (.bipush 100, 2) := by decide +kernel
theorem dX9_fair_64 : decode cX9_fair 64 = .ok (.aload_n 0, 1) := by decide +kernel
theorem dX9_fair_65 : decode cX9_fair 65 = .ok (.getfield 68, 3) := by decide +kernel
theorem dX9_fair_68 : decode cX9_fair 68 = .ok (.getfield 99, 3) := by decide +kernel
theorem dX9_fair_71 : decode cX9_fair 71 = .ok (.imul, 1) := by decide +kernel
theorem dX9_fair_72 : decode cX9_fair 72 = .ok (.bipush 10, 2) := by decide +kernel
theorem dX9_fair_74 : decode cX9_fair 74 = .ok (.aload_n 0, 1) := by decide +kernel
theorem dX9_fair_75 : decode cX9_fair 75 = .ok (.getfield 68, 3) := by decide +kernel
theorem dX9_fair_78 : decode cX9_fair 78 = .ok (.getfield 102, 3) := by decide +kernel
theorem dX9_fair_81 : decode cX9_fair 81 = .ok (.imul, 1) := by decide +kernel
theorem dX9_fair_82 : decode cX9_fair 82 = .ok (.iadd, 1) := by decide +kernel
theorem dX9_fair_83 : decode cX9_fair 83 = .ok (.aload_n 0, 1) := by decide +kernel
theorem dX9_fair_84 : decode cX9_fair 84 = .ok (.getfield 68, 3) := by decide +kernel
theorem dX9_fair_87 : decode cX9_fair 87 = .ok (.getfield 105, 3) := by decide +kernel
theorem dX9_fair_90 : decode cX9_fair 90 = .ok (.iadd, 1) := by decide +kernel
theorem dX9_fair_91 : decode cX9_fair 91 = .ok (.ireturn, 1) := by decide +kernel
theorem dX9_about_0 : decode cX9_about 0 = .ok (.iload_n 1, 1) := by decide +kernel
theorem dX9_about_1 : decode cX9_about 1 = .ok (.tableswitch 123 0 8 #[51, 59, 67, 75, 83, 91, 99, 107, 115], 51) := by decide +kernel
theorem dX9_about_52 : decode cX9_about 52 = .ok (.aload_n 0, 1) := by decide +kernel
theorem dX9_about_53 : decode cX9_about 53 = .ok (.getfield 68, 3) := by decide +kernel
theorem dX9_about_56 : decode cX9_about 56 = .ok (.getfield 99, 3) := by decide +kernel
theorem dX9_about_59 : decode cX9_about 59 = .ok (.ireturn, 1) := by decide +kernel
theorem dX9_about_60 : decode cX9_about 60 = .ok (.aload_n 0, 1) := by decide +kernel
theorem dX9_about_61 : decode cX9_about 61 = .ok (.getfield 68, 3) := by decide +kernel
theorem dX9_about_64 : decode cX9_about 64 = .ok (.getfield 102, 3) := by decide +kernel
theorem dX9_about_67 : decode cX9_about 67 = .ok (.ireturn, 1) := by decide +kernel
theorem dX9_about_68 : decode cX9_about 68 = .ok (.aload_n 0, 1) := by decide +kernel
theorem dX9_about_69 : decode cX9_about 69 = .ok (.getfield 68, 3) := by decide +kernel
theorem dX9_about_72 : decode cX9_about 72 = .ok (.getfield 105, 3) := by decide +kernel
theorem dX9_about_75 : decode cX9_about 75 = .ok (.ireturn, 1) := by decide +kernel
theorem dX9_about_76 : decode cX9_about 76 = .ok (.aload_n 0, 1) := by decide +kernel
theorem dX9_about_77 : decode cX9_about 77 = .ok (.getfield 19, 3) := by decide +kernel
theorem dX9_about_80 : decode cX9_about 80 = .ok (.getfield 108, 3) := by decide +kernel
theorem dX9_about_83 : decode cX9_about 83 = .ok (.ireturn, 1) := by decide +kernel
theorem dX9_about_84 : decode cX9_about 84 = .ok (.aload_n 0, 1) := by decide +kernel
theorem dX9_about_85 : decode cX9_about 85 = .ok (.getfield 19, 3) := by decide +kernel
theorem dX9_about_88 : decode cX9_about 88 = .ok (.getfield 111, 3) := by decide +kernel
theorem dX9_about_91 : decode cX9_about 91 = .ok (.ireturn, 1) := by decide +kernel
theorem dX9_about_92 : decode cX9_about 92 = .ok (.aload_n 0, 1) := by decide +kernel
theorem dX9_about_93 : decode cX9_about 93 = .ok (.getfield 19, 3) := by decide +kernel
theorem dX9_about_96 : decode cX9_about 96 = .ok (.getfield 114, 3) := by decide +kernel
theorem dX9_about_99 : decode cX9_about 99 = .ok (.ireturn, 1) := by decide +kernel
theorem dX9_about_100 : decode cX9_about 100 = .ok (.aload_n 0, 1) := by decide +kernel
theorem dX9_about_101 : decode cX9_about 101 = .ok (.getfield 26, 3) := by decide +kernel
theorem dX9_about_104 : decode cX9_about 104 = .ok (.getfield 117, 3) := by decide +kernel
theorem dX9_about_107 : decode cX9_about 107 = .ok (.ireturn, 1) := by decide +kernel
theorem dX9_about_108 : decode cX9_about 108 = .ok (.aload_n 0, 1) := by decide +kernel
theorem dX9_about_109 : decode cX9_about 109 = .ok (.getfield 33, 3) := by decide +kernel
theorem dX9_about_112 : decode cX9_about 112 = .ok (.getfield 120, 3) := by decide +kernel
theorem dX9_about_115 : decode cX9_about 115 = .ok (.ireturn, 1) := by decide +kernel
theorem dX9_about_116 : decode cX9_about 116 = .ok (.aload_n 0, 1) := by decide +kernel
theorem dX9_about_117 : decode cX9_about 117 = .ok (.getfield 10, 3) := by decide +kernel
theorem dX9_about_120 : decode cX9_about 120 = .ok (.getfield 83, 3) := by decide +kernel
theorem dX9_about_123 : decode cX9_about 123 = .ok (.ireturn, 1) := by decide +kernel
theorem dX9_about_124 : decode cX9_about 124 = .ok (.bipush (-2), 2) := by decide +kernel
theorem dX9_about_126 : decode cX9_about 126 = .ok (.ireturn, 1) := by decide +kernel
theorem dX9_husk_0 : decode cX9_husk 0 = .ok (.aload_n 0, 1) := by decide +kernel
theorem dX9_husk_1 : decode cX9_husk 1 = .ok (.getfield 68, 3) := by decide +kernel
theorem dX9_husk_4 : decode cX9_husk 4 = .ok (.iload_n 1, 1) := by decide +kernel
theorem dX9_husk_5 : decode cX9_husk 5 = .ok (.invokevirtual 121, 3) := by decide +kernel
theorem dX9_husk_8 : decode cX9_husk 8 = .ok (.ifCond .ne 5, 3) := by decide +kernel
theorem dX9_husk_11 : decode cX9_husk 11 = .ok (.iconst (-1), 1) := by decide +kernel
theorem dX9_husk_12 : decode cX9_husk 12 = .ok (.ireturn, 1) := by decide +kernel
theorem dX9_husk_13 : decode cX9_husk 13 = .ok (.iload_n 2, 1) := by decide +kernel
theorem dX9_husk_14 : decode cX9_husk 14 = .ok (.tableswitch 149 0 8 #[50, 60, 70, 80, 93, 103, 113, 125, 137], 50) := by decide +kernel
theorem dX9_husk_64 : decode cX9_husk 64 = .ok (.aload_n 0, 1) := by decide +kernel
theorem dX9_husk_65 : decode cX9_husk 65 = .ok (.getfield 68, 3) := by decide +kernel
theorem dX9_husk_68 : decode cX9_husk 68 = .ok (.getfield 124, 3) := by decide +kernel
theorem dX9_husk_71 : decode cX9_husk 71 = .ok (.iload_n 1, 1) := by decide +kernel
theorem dX9_husk_72 : decode cX9_husk 72 = .ok (.iaload, 1) := by decide +kernel
theorem dX9_husk_73 : decode cX9_husk 73 = .ok (.ireturn, 1) := by decide +kernel
theorem dX9_husk_74 : decode cX9_husk 74 = .ok (.aload_n 0, 1) := by decide +kernel
theorem dX9_husk_75 : decode cX9_husk 75 = .ok (.getfield 68, 3) := by decide +kernel
theorem dX9_husk_78 : decode cX9_husk 78 = .ok (.getfield 128, 3) := by decide +kernel
theorem dX9_husk_81 : decode cX9_husk 81 = .ok (.iload_n 1, 1) := by decide +kernel
theorem dX9_husk_82 : decode cX9_husk 82 = .ok (.iaload, 1) := by decide +kernel
theorem dX9_husk_83 : decode cX9_husk 83 = .ok (.ireturn, 1) := by decide +kernel
theorem dX9_husk_84 : decode cX9_husk 84 = .ok (.aload_n 0, 1) := by decide +kernel
theorem dX9_husk_85 : decode cX9_husk 85 = .ok (.getfield 68, 3) := by decide +kernel
theorem dX9_husk_88 : decode cX9_husk 88 = .ok (.getfield 131, 3) := by decide +kernel
theorem dX9_husk_91 : decode cX9_husk 91 = .ok (.iload_n 1, 1) := by decide +kernel
theorem dX9_husk_92 : decode cX9_husk 92 = .ok (.iaload, 1) := by decide +kernel
theorem dX9_husk_93 : decode cX9_husk 93 = .ok (.ireturn, 1) := by decide +kernel
theorem dX9_husk_94 : decode cX9_husk 94 = .ok (.aload_n 0, 1) := by decide +kernel
theorem dX9_husk_95 : decode cX9_husk 95 = .ok (.getfield 19, 3) := by decide +kernel
theorem dX9_husk_98 : decode cX9_husk 98 = .ok (.aload_n 0, 1) := by decide +kernel
theorem dX9_husk_99 : decode cX9_husk 99 = .ok (.getfield 68, 3) := by decide +kernel
theorem dX9_husk_102 : decode cX9_husk 102 = .ok (.iload_n 1, 1) := by decide +kernel
theorem dX9_husk_103 : decode cX9_husk 103 = .ok (.invokevirtual 134, 3) := by decide +kernel
theorem dX9_husk_106 : decode cX9_husk 106 = .ok (.ireturn, 1) := by decide +kernel
theorem dX9_husk_107 : decode cX9_husk 107 = .ok (.aload_n 0, 1) := by decide +kernel
theorem dX9_husk_108 : decode cX9_husk 108 = .ok (.getfield 19, 3) := by decide +kernel
theorem dX9_husk_111 : decode cX9_husk 111 = .ok (.getfield 138, 3) := by decide +kernel
theorem dX9_husk_114 : decode cX9_husk 114 = .ok (.iload_n 1, 1) := by decide +kernel
theorem dX9_husk_115 : decode cX9_husk 115 = .ok (.iaload, 1) := by decide +kernel
theorem dX9_husk_116 : decode cX9_husk 116 = .ok (.ireturn, 1) := by decide +kernel
theorem dX9_husk_117 : decode cX9_husk 117 = .ok (.aload_n 0, 1) := by decide +kernel
theorem dX9_husk_118 : decode cX9_husk 118 = .ok (.getfield 19, 3) := by decide +kernel
theorem dX9_husk_121 : decode cX9_husk 121 = .ok (.getfield 141, 3) := by decide +kernel
theorem dX9_husk_124 : decode cX9_husk 124 = .ok (.iload_n 1, 1) := by decide +kernel
theorem dX9_husk_125 : decode cX9_husk 125 = .ok (.iaload, 1) := by decide +kernel
theorem dX9_husk_126 : decode cX9_husk 126 = .ok (.ireturn, 1) := by decide +kernel
theorem dX9_husk_127 : decode cX9_husk 127 = .ok (.aload_n 0, 1) := by decide +kernel
theorem dX9_husk_128 : decode cX9_husk 128 = .ok (.getfield 19, 3) := by decide +kernel
theorem dX9_husk_131 : decode cX9_husk 131 = .ok (.getfield 144, 3) := by decide +kernel
theorem dX9_husk_134 : decode cX9_husk 134 = .ok (.iload_n 1, 1) := by decide +kernel
theorem dX9_husk_135 : decode cX9_husk 135 = .ok (.invokestatic 147, 3) := by decide +kernel
theorem dX9_husk_138 : decode cX9_husk 138 = .ok (.ireturn, 1) := by decide +kernel
theorem dX9_husk_139 : decode cX9_husk 139 = .ok (.aload_n 0, 1) := by decide +kernel
theorem dX9_husk_140 : decode cX9_husk 140 = .ok (.getfield 19, 3) := by decide +kernel
theorem dX9_husk_143 : decode cX9_husk 143 = .ok (.getfield 151, 3) := by decide +kernel
theorem dX9_husk_146 : decode cX9_husk 146 = .ok (.iload_n 1, 1) := by decide +kernel
theorem dX9_husk_147 : decode cX9_husk 147 = .ok (.invokestatic 147, 3) := by decide +kernel
theorem dX9_husk_150 : decode cX9_husk 150 = .ok (.ireturn, 1) := by decide +kernel
theorem dX9_husk_151 : decode cX9_husk 151 = .ok (.aload_n 0, 1) := by decide +kernel
theorem dX9_husk_152 : decode cX9_husk 152 = .ok (.getfield 19, 3) := by decide +kernel
theorem dX9_husk_155 : decode cX9_husk 155 = .ok (.getfield 114, 3) := by decide +kernel
theorem dX9_husk_158 : decode cX9_husk 158 = .ok (.iload_n 1, 1) := by decide +kernel
theorem dX9_husk_159 : decode cX9_husk 159 = .ok (.invokestatic 147, 3) := by decide +kernel
theorem dX9_husk_162 : decode cX9_husk 162 = .ok (.ireturn, 1) := by decide +kernel
theorem dX9_husk_163 : decode cX9_husk 163 = .ok (.bipush (-2), 2) := by decide +kernel
theorem dX9_husk_165 : decode cX9_husk 165 = .ok (.ireturn, 1) := by decide +kernel
theorem dX9_thrower_0 : decode cX9_thrower 0 = .ok (.aload_n 0, 1) := by decide +kernel
theorem dX9_thrower_1 : decode cX9_thrower 1 = .ok (.getfield 68, 3) := by decide +kernel
theorem dX9_thrower_4 : decode cX9_thrower 4 = .ok (.iload_n 1, 1) := by decide +kernel
theorem dX9_thrower_5 : decode cX9_thrower 5 = .ok (.invokevirtual 154, 3) := by decide +kernel
theorem dX9_thrower_8 : decode cX9_thrower 8 = .ok (.ifCond .ne 5, 3) := by decide +kernel
theorem dX9_thrower_11 : decode cX9_thrower 11 = .ok (.iconst (-1), 1) := by decide +kernel
theorem dX9_thrower_12 : decode cX9_thrower 12 = .ok (.ireturn, 1) := by decide +kernel
theorem dX9_thrower_13 : decode cX9_thrower 13 = .ok (.iload_n 2, 1) := by decide +kernel
theorem dX9_thrower_14 : decode cX9_thrower 14 = .ok (.tableswitch 69 0 3 #[30, 40, 50, 60], 30) := by decide +kernel
theorem dX9_thrower_44 : decode cX9_thrower 44 = .ok (.aload_n 0, 1) := by decide +kernel
theorem dX9_thrower_45 : decode cX9_thrower 45 = .ok (.getfield 68, 3) := by decide +kernel
theorem dX9_thrower_48 : decode cX9_thrower 48 = .ok (.getfield 157, 3) := by decide +kernel
theorem dX9_thrower_51 : decode cX9_thrower 51 = .ok (.iload_n 1, 1) := by decide +kernel
theorem dX9_thrower_52 : decode cX9_thrower 52 = .ok (.iaload, 1) := by decide +kernel
theorem dX9_thrower_53 : decode cX9_thrower 53 = .ok (.ireturn, 1) := by decide +kernel
theorem dX9_thrower_54 : decode cX9_thrower 54 = .ok (.aload_n 0, 1) := by decide +kernel
theorem dX9_thrower_55 : decode cX9_thrower 55 = .ok (.getfield 68, 3) := by decide +kernel
theorem dX9_thrower_58 : decode cX9_thrower 58 = .ok (.getfield 160, 3) := by decide +kernel
theorem dX9_thrower_61 : decode cX9_thrower 61 = .ok (.iload_n 1, 1) := by decide +kernel
theorem dX9_thrower_62 : decode cX9_thrower 62 = .ok (.iaload, 1) := by decide +kernel
theorem dX9_thrower_63 : decode cX9_thrower 63 = .ok (.ireturn, 1) := by decide +kernel
theorem dX9_thrower_64 : decode cX9_thrower 64 = .ok (.aload_n 0, 1) := by decide +kernel
theorem dX9_thrower_65 : decode cX9_thrower 65 = .ok (.getfield 68, 3) := by decide +kernel
theorem dX9_thrower_68 : decode cX9_thrower 68 = .ok (.getfield 163, 3) := by decide +kernel
theorem dX9_thrower_71 : decode cX9_thrower 71 = .ok (.iload_n 1, 1) := by decide +kernel
theorem dX9_thrower_72 : decode cX9_thrower 72 = .ok (.iaload, 1) := by decide +kernel
theorem dX9_thrower_73 : decode cX9_thrower 73 = .ok (.ireturn, 1) := by decide +kernel
theorem dX9_thrower_74 : decode cX9_thrower 74 = .ok (.aload_n 0, 1) := by decide +kernel
theorem dX9_thrower_75 : decode cX9_thrower 75 = .ok (.getfield 68, 3) := by decide +kernel
theorem dX9_thrower_78 : decode cX9_thrower 78 = .ok (.iload_n 1, 1) := by decide +kernel
theorem dX9_thrower_79 : decode cX9_thrower 79 = .ok (.invokevirtual 166, 3) := by decide +kernel
theorem dX9_thrower_82 : decode cX9_thrower 82 = .ok (.ireturn, 1) := by decide +kernel
theorem dX9_thrower_83 : decode cX9_thrower 83 = .ok (.bipush (-2), 2) := by decide +kernel
theorem dX9_thrower_85 : decode cX9_thrower 85 = .ok (.ireturn, 1) := by decide +kernel
theorem dX9_lands_0 : decode cX9_lands 0 = .ok (.aload_n 0, 1) := by decide +kernel
theorem dX9_lands_1 : decode cX9_lands 1 = .ok (.iload_n 1, 1) := by decide +kernel
theorem dX9_lands_2 : decode cX9_lands 2 = .ok (.iload_n 2, 1) := by decide +kernel
theorem dX9_lands_3 : decode cX9_lands 3 = .ok (.iload_n 3, 1) := by decide +kernel
theorem dX9_lands_4 : decode cX9_lands 4 = .ok (.invokevirtual 170, 3) := by decide +kernel
theorem dX9_lands_7 : decode cX9_lands 7 = .ok (.istore 4, 2) := by decide +kernel
theorem dX9_lands_9 : decode cX9_lands 9 = .ok (.iload 4, 2) := by decide +kernel
theorem dX9_lands_11 : decode cX9_lands 11 = .ok (.bipush (-9), 2) := by decide +kernel
theorem dX9_lands_13 : decode cX9_lands 13 = .ok (.if_icmp .eq 8, 3) := by decide +kernel
theorem dX9_lands_16 : decode cX9_lands 16 = .ok (.iload 4, 2) := by decide +kernel
theorem dX9_lands_18 : decode cX9_lands 18 = .ok (.goto 20, 3) := by decide +kernel
theorem dX9_lands_21 : decode cX9_lands 21 = .ok (.aload_n 0, 1) := by decide +kernel
theorem dX9_lands_22 : decode cX9_lands 22 = .ok (.getfield 68, 3) := by decide +kernel
theorem dX9_lands_25 : decode cX9_lands 25 = .ok (.iload_n 1, 1) := by decide +kernel
theorem dX9_lands_26 : decode cX9_lands 26 = .ok (.iload_n 2, 1) := by decide +kernel
theorem dX9_lands_27 : decode cX9_lands 27 = .ok (.iload_n 3, 1) := by decide +kernel
theorem dX9_lands_28 : decode cX9_lands 28 = .ok (.aload_n 0, 1) := by decide +kernel
theorem dX9_lands_29 : decode cX9_lands 29 = .ok (.getfield 19, 3) := by decide +kernel
theorem dX9_lands_32 : decode cX9_lands 32 = .ok (.getfield 108, 3) := by decide +kernel
theorem dX9_lands_35 : decode cX9_lands 35 = .ok (.invokevirtual 174, 3) := by decide +kernel
theorem dX9_lands_38 : decode cX9_lands 38 = .ok (.ireturn, 1) := by decide +kernel
theorem dX9_toss_0 : decode cX9_toss 0 = .ok (.aload_n 0, 1) := by decide +kernel
theorem dX9_toss_1 : decode cX9_toss 1 = .ok (.iload_n 1, 1) := by decide +kernel
theorem dX9_toss_2 : decode cX9_toss 2 = .ok (.iload_n 2, 1) := by decide +kernel
theorem dX9_toss_3 : decode cX9_toss 3 = .ok (.iload_n 3, 1) := by decide +kernel
theorem dX9_toss_4 : decode cX9_toss 4 = .ok (.invokevirtual 170, 3) := by decide +kernel
theorem dX9_toss_7 : decode cX9_toss 7 = .ok (.istore 4, 2) := by decide +kernel
theorem dX9_toss_9 : decode cX9_toss 9 = .ok (.iload 4, 2) := by decide +kernel
theorem dX9_toss_11 : decode cX9_toss 11 = .ok (.bipush (-9), 2) := by decide +kernel
theorem dX9_toss_13 : decode cX9_toss 13 = .ok (.if_icmp .eq 6, 3) := by decide +kernel
theorem dX9_toss_16 : decode cX9_toss 16 = .ok (.iload 4, 2) := by decide +kernel
theorem dX9_toss_18 : decode cX9_toss 18 = .ok (.ireturn, 1) := by decide +kernel
theorem dX9_toss_19 : decode cX9_toss 19 = .ok (.aload_n 0, 1) := by decide +kernel
theorem dX9_toss_20 : decode cX9_toss 20 = .ok (.getfield 19, 3) := by decide +kernel
theorem dX9_toss_23 : decode cX9_toss 23 = .ok (.getfield 111, 3) := by decide +kernel
theorem dX9_toss_26 : decode cX9_toss 26 = .ok (.ifCond .ne 6, 3) := by decide +kernel
theorem dX9_toss_29 : decode cX9_toss 29 = .ok (.bipush (-3), 2) := by decide +kernel
theorem dX9_toss_31 : decode cX9_toss 31 = .ok (.ireturn, 1) := by decide +kernel
theorem dX9_toss_32 : decode cX9_toss 32 = .ok (.aload_n 0, 1) := by decide +kernel
theorem dX9_toss_33 : decode cX9_toss 33 = .ok (.getfield 26, 3) := by decide +kernel
theorem dX9_toss_36 : decode cX9_toss 36 = .ok (.aload_n 0, 1) := by decide +kernel
theorem dX9_toss_37 : decode cX9_toss 37 = .ok (.getfield 19, 3) := by decide +kernel
theorem dX9_toss_40 : decode cX9_toss 40 = .ok (.invokevirtual 178, 3) := by decide +kernel
theorem dX9_toss_43 : decode cX9_toss 43 = .ok (.aload_n 0, 1) := by decide +kernel
theorem dX9_toss_44 : decode cX9_toss 44 = .ok (.getfield 19, 3) := by decide +kernel
theorem dX9_toss_47 : decode cX9_toss 47 = .ok (.dup, 1) := by decide +kernel
theorem dX9_toss_48 : decode cX9_toss 48 = .ok (.getfield 111, 3) := by decide +kernel
theorem dX9_toss_51 : decode cX9_toss 51 = .ok (.iconst 1, 1) := by decide +kernel
end
section
theorem dX9_toss_52 : decode cX9_toss 52 = .ok (.isub, 1) := by decide +kernel
theorem dX9_toss_53 : decode cX9_toss 53 = .ok (.putfield 111, 3) := by decide +kernel
theorem dX9_toss_56 : decode cX9_toss 56 = .ok (.aload_n 0, 1) := by decide +kernel
theorem dX9_toss_57 : decode cX9_toss 57 = .ok (.getfield 19, 3) := by decide +kernel
theorem dX9_toss_60 : decode cX9_toss 60 = .ok (.aload_n 0, 1) := by decide +kernel
theorem dX9_toss_61 : decode cX9_toss 61 = .ok (.getfield 68, 3) := by decide +kernel
theorem dX9_toss_64 : decode cX9_toss 64 = .ok (.iload_n 1, 1) := by decide +kernel
theorem dX9_toss_65 : decode cX9_toss 65 = .ok (.iload_n 2, 1) := by decide +kernel
theorem dX9_toss_66 : decode cX9_toss 66 = .ok (.iload_n 3, 1) := by decide +kernel
theorem dX9_toss_67 : decode cX9_toss 67 = .ok (.invokevirtual 182, 3) := by decide +kernel
theorem dX9_toss_70 : decode cX9_toss 70 = .ok (.ireturn, 1) := by decide +kernel
theorem dX9_set_0 : decode cX9_set 0 = .ok (.aload_n 0, 1) := by decide +kernel
theorem dX9_set_1 : decode cX9_set 1 = .ok (.getfield 68, 3) := by decide +kernel
theorem dX9_set_4 : decode cX9_set 4 = .ok (.iload_n 1, 1) := by decide +kernel
theorem dX9_set_5 : decode cX9_set 5 = .ok (.invokevirtual 121, 3) := by decide +kernel
theorem dX9_set_8 : decode cX9_set 8 = .ok (.ifCond .ne 5, 3) := by decide +kernel
theorem dX9_set_11 : decode cX9_set 11 = .ok (.iconst (-1), 1) := by decide +kernel
theorem dX9_set_12 : decode cX9_set 12 = .ok (.ireturn, 1) := by decide +kernel
theorem dX9_set_13 : decode cX9_set 13 = .ok (.aload_n 0, 1) := by decide +kernel
theorem dX9_set_14 : decode cX9_set 14 = .ok (.getfield 19, 3) := by decide +kernel
theorem dX9_set_17 : decode cX9_set 17 = .ok (.iload_n 1, 1) := by decide +kernel
theorem dX9_set_18 : decode cX9_set 18 = .ok (.invokevirtual 186, 3) := by decide +kernel
theorem dX9_set_21 : decode cX9_set 21 = .ok (.ifCond .eq 6, 3) := by decide +kernel
theorem dX9_set_24 : decode cX9_set 24 = .ok (.bipush (-3), 2) := by decide +kernel
theorem dX9_set_26 : decode cX9_set 26 = .ok (.ireturn, 1) := by decide +kernel
theorem dX9_set_27 : decode cX9_set 27 = .ok (.aload_n 0, 1) := by decide +kernel
theorem dX9_set_28 : decode cX9_set 28 = .ok (.getfield 26, 3) := by decide +kernel
theorem dX9_set_31 : decode cX9_set 31 = .ok (.aload_n 0, 1) := by decide +kernel
theorem dX9_set_32 : decode cX9_set 32 = .ok (.getfield 19, 3) := by decide +kernel
theorem dX9_set_35 : decode cX9_set 35 = .ok (.invokevirtual 178, 3) := by decide +kernel
theorem dX9_set_38 : decode cX9_set 38 = .ok (.aload_n 0, 1) := by decide +kernel
theorem dX9_set_39 : decode cX9_set 39 = .ok (.getfield 19, 3) := by decide +kernel
theorem dX9_set_42 : decode cX9_set 42 = .ok (.iload_n 1, 1) := by decide +kernel
theorem dX9_set_43 : decode cX9_set 43 = .ok (.invokevirtual 189, 3) := by decide +kernel
theorem dX9_set_46 : decode cX9_set 46 = .ok (.pop, 1) := by decide +kernel
theorem dX9_set_47 : decode cX9_set 47 = .ok (.aload_n 0, 1) := by decide +kernel
theorem dX9_set_48 : decode cX9_set 48 = .ok (.getfield 19, 3) := by decide +kernel
theorem dX9_set_51 : decode cX9_set 51 = .ok (.aload_n 0, 1) := by decide +kernel
theorem dX9_set_52 : decode cX9_set 52 = .ok (.getfield 68, 3) := by decide +kernel
theorem dX9_set_55 : decode cX9_set 55 = .ok (.iload_n 1, 1) := by decide +kernel
theorem dX9_set_56 : decode cX9_set 56 = .ok (.invokevirtual 134, 3) := by decide +kernel
theorem dX9_set_59 : decode cX9_set 59 = .ok (.ireturn, 1) := by decide +kernel
theorem dX9_nail_0 : decode cX9_nail 0 = .ok (.aload_n 0, 1) := by decide +kernel
theorem dX9_nail_1 : decode cX9_nail 1 = .ok (.getfield 68, 3) := by decide +kernel
theorem dX9_nail_4 : decode cX9_nail 4 = .ok (.iload_n 1, 1) := by decide +kernel
theorem dX9_nail_5 : decode cX9_nail 5 = .ok (.invokevirtual 121, 3) := by decide +kernel
theorem dX9_nail_8 : decode cX9_nail 8 = .ok (.ifCond .ne 5, 3) := by decide +kernel
theorem dX9_nail_11 : decode cX9_nail 11 = .ok (.iconst (-1), 1) := by decide +kernel
theorem dX9_nail_12 : decode cX9_nail 12 = .ok (.ireturn, 1) := by decide +kernel
theorem dX9_nail_13 : decode cX9_nail 13 = .ok (.aload_n 0, 1) := by decide +kernel
theorem dX9_nail_14 : decode cX9_nail 14 = .ok (.getfield 19, 3) := by decide +kernel
theorem dX9_nail_17 : decode cX9_nail 17 = .ok (.iload_n 1, 1) := by decide +kernel
theorem dX9_nail_18 : decode cX9_nail 18 = .ok (.invokevirtual 186, 3) := by decide +kernel
theorem dX9_nail_21 : decode cX9_nail 21 = .ok (.ifCond .ne 6, 3) := by decide +kernel
theorem dX9_nail_24 : decode cX9_nail 24 = .ok (.bipush (-3), 2) := by decide +kernel
theorem dX9_nail_26 : decode cX9_nail 26 = .ok (.ireturn, 1) := by decide +kernel
theorem dX9_nail_27 : decode cX9_nail 27 = .ok (.aload_n 0, 1) := by decide +kernel
theorem dX9_nail_28 : decode cX9_nail 28 = .ok (.getfield 26, 3) := by decide +kernel
theorem dX9_nail_31 : decode cX9_nail 31 = .ok (.aload_n 0, 1) := by decide +kernel
theorem dX9_nail_32 : decode cX9_nail 32 = .ok (.getfield 19, 3) := by decide +kernel
theorem dX9_nail_35 : decode cX9_nail 35 = .ok (.invokevirtual 178, 3) := by decide +kernel
theorem dX9_nail_38 : decode cX9_nail 38 = .ok (.aload_n 0, 1) := by decide +kernel
theorem dX9_nail_39 : decode cX9_nail 39 = .ok (.getfield 19, 3) := by decide +kernel
theorem dX9_nail_42 : decode cX9_nail 42 = .ok (.iload_n 1, 1) := by decide +kernel
theorem dX9_nail_43 : decode cX9_nail 43 = .ok (.invokevirtual 192, 3) := by decide +kernel
theorem dX9_nail_46 : decode cX9_nail 46 = .ok (.pop, 1) := by decide +kernel
theorem dX9_nail_47 : decode cX9_nail 47 = .ok (.aload_n 0, 1) := by decide +kernel
theorem dX9_nail_48 : decode cX9_nail 48 = .ok (.getfield 19, 3) := by decide +kernel
theorem dX9_nail_51 : decode cX9_nail 51 = .ok (.aload_n 0, 1) := by decide +kernel
theorem dX9_nail_52 : decode cX9_nail 52 = .ok (.getfield 68, 3) := by decide +kernel
theorem dX9_nail_55 : decode cX9_nail 55 = .ok (.iload_n 1, 1) := by decide +kernel
theorem dX9_nail_56 : decode cX9_nail 56 = .ok (.invokevirtual 134, 3) := by decide +kernel
theorem dX9_nail_59 : decode cX9_nail 59 = .ok (.ireturn, 1) := by decide +kernel
theorem dX9_pay_0 : decode cX9_pay 0 = .ok (.aload_n 0, 1) := by decide +kernel
theorem dX9_pay_1 : decode cX9_pay 1 = .ok (.getfield 19, 3) := by decide +kernel
theorem dX9_pay_4 : decode cX9_pay 4 = .ok (.getfield 111, 3) := by decide +kernel
theorem dX9_pay_7 : decode cX9_pay 7 = .ok (.bipush 9, 2) := by decide +kernel
theorem dX9_pay_9 : decode cX9_pay 9 = .ok (.if_icmp .lt 6, 3) := by decide +kernel
theorem dX9_pay_12 : decode cX9_pay 12 = .ok (.bipush (-3), 2) := by decide +kernel
theorem dX9_pay_14 : decode cX9_pay 14 = .ok (.ireturn, 1) := by decide +kernel
theorem dX9_pay_15 : decode cX9_pay 15 = .ok (.aload_n 0, 1) := by decide +kernel
theorem dX9_pay_16 : decode cX9_pay 16 = .ok (.getfield 26, 3) := by decide +kernel
theorem dX9_pay_19 : decode cX9_pay 19 = .ok (.aload_n 0, 1) := by decide +kernel
theorem dX9_pay_20 : decode cX9_pay 20 = .ok (.getfield 19, 3) := by decide +kernel
theorem dX9_pay_23 : decode cX9_pay 23 = .ok (.invokevirtual 178, 3) := by decide +kernel
theorem dX9_pay_26 : decode cX9_pay 26 = .ok (.aload_n 0, 1) := by decide +kernel
theorem dX9_pay_27 : decode cX9_pay 27 = .ok (.getfield 19, 3) := by decide +kernel
theorem dX9_pay_30 : decode cX9_pay 30 = .ok (.invokevirtual 195, 3) := by decide +kernel
theorem dX9_pay_33 : decode cX9_pay 33 = .ok (.pop, 1) := by decide +kernel
theorem dX9_pay_34 : decode cX9_pay 34 = .ok (.aload_n 0, 1) := by decide +kernel
theorem dX9_pay_35 : decode cX9_pay 35 = .ok (.getfield 19, 3) := by decide +kernel
theorem dX9_pay_38 : decode cX9_pay 38 = .ok (.getfield 111, 3) := by decide +kernel
theorem dX9_pay_41 : decode cX9_pay 41 = .ok (.ireturn, 1) := by decide +kernel
theorem dX9_blow_0 : decode cX9_blow 0 = .ok (.iload_n 1, 1) := by decide +kernel
theorem dX9_blow_1 : decode cX9_blow 1 = .ok (.ifCond .lt 8, 3) := by decide +kernel
theorem dX9_blow_4 : decode cX9_blow 4 = .ok (.iload_n 1, 1) := by decide +kernel
theorem dX9_blow_5 : decode cX9_blow 5 = .ok (.iconst 2, 1) := by decide +kernel
theorem dX9_blow_6 : decode cX9_blow 6 = .ok (.if_icmp .le 6, 3) := by decide +kernel
theorem dX9_blow_9 : decode cX9_blow 9 = .ok (.bipush (-2), 2) := by decide +kernel
theorem dX9_blow_11 : decode cX9_blow 11 = .ok (.ireturn, 1) := by decide +kernel
theorem dX9_blow_12 : decode cX9_blow 12 = .ok (.iload_n 1, 1) := by decide +kernel
theorem dX9_blow_13 : decode cX9_blow 13 = .ok (.aload_n 0, 1) := by decide +kernel
theorem dX9_blow_14 : decode cX9_blow 14 = .ok (.getfield 19, 3) := by decide +kernel
theorem dX9_blow_17 : decode cX9_blow 17 = .ok (.getfield 108, 3) := by decide +kernel
theorem dX9_blow_20 : decode cX9_blow 20 = .ok (.if_icmp .ne 6, 3) := by decide +kernel
theorem dX9_blow_23 : decode cX9_blow 23 = .ok (.bipush (-3), 2) := by decide +kernel
theorem dX9_blow_25 : decode cX9_blow 25 = .ok (.ireturn, 1) := by decide +kernel
theorem dX9_blow_26 : decode cX9_blow 26 = .ok (.aload_n 0, 1) := by decide +kernel
theorem dX9_blow_27 : decode cX9_blow 27 = .ok (.getfield 26, 3) := by decide +kernel
theorem dX9_blow_30 : decode cX9_blow 30 = .ok (.aload_n 0, 1) := by decide +kernel
theorem dX9_blow_31 : decode cX9_blow 31 = .ok (.getfield 19, 3) := by decide +kernel
theorem dX9_blow_34 : decode cX9_blow 34 = .ok (.invokevirtual 178, 3) := by decide +kernel
theorem dX9_blow_37 : decode cX9_blow 37 = .ok (.aload_n 0, 1) := by decide +kernel
theorem dX9_blow_38 : decode cX9_blow 38 = .ok (.getfield 19, 3) := by decide +kernel
theorem dX9_blow_41 : decode cX9_blow 41 = .ok (.getfield 108, 3) := by decide +kernel
theorem dX9_blow_44 : decode cX9_blow 44 = .ok (.istore_n 2, 1) := by decide +kernel
theorem dX9_blow_45 : decode cX9_blow 45 = .ok (.aload_n 0, 1) := by decide +kernel
theorem dX9_blow_46 : decode cX9_blow 46 = .ok (.getfield 19, 3) := by decide +kernel
theorem dX9_blow_49 : decode cX9_blow 49 = .ok (.iload_n 1, 1) := by decide +kernel
theorem dX9_blow_50 : decode cX9_blow 50 = .ok (.putfield 108, 3) := by decide +kernel
theorem dX9_blow_53 : decode cX9_blow 53 = .ok (.iload_n 2, 1) := by decide +kernel
theorem dX9_blow_54 : decode cX9_blow 54 = .ok (.ireturn, 1) := by decide +kernel
theorem dX9_undo_0 : decode cX9_undo 0 = .ok (.aload_n 0, 1) := by decide +kernel
theorem dX9_undo_1 : decode cX9_undo 1 = .ok (.getfield 26, 3) := by decide +kernel
theorem dX9_undo_4 : decode cX9_undo 4 = .ok (.aload_n 0, 1) := by decide +kernel
theorem dX9_undo_5 : decode cX9_undo 5 = .ok (.getfield 19, 3) := by decide +kernel
theorem dX9_undo_8 : decode cX9_undo 8 = .ok (.invokevirtual 199, 3) := by decide +kernel
theorem dX9_undo_11 : decode cX9_undo 11 = .ok (.ifCond .eq 13, 3) := by decide +kernel
theorem dX9_undo_14 : decode cX9_undo 14 = .ok (.aload_n 0, 1) := by decide +kernel
theorem dX9_undo_15 : decode cX9_undo 15 = .ok (.getfield 26, 3) := by decide +kernel
theorem dX9_undo_18 : decode cX9_undo 18 = .ok (.getfield 117, 3) := by decide +kernel
theorem dX9_undo_21 : decode cX9_undo 21 = .ok (.goto 5, 3) := by decide +kernel
theorem dX9_undo_24 : decode cX9_undo 24 = .ok (.bipush (-3), 2) := by decide +kernel
theorem dX9_undo_26 : decode cX9_undo 26 = .ok (.ireturn, 1) := by decide +kernel
theorem dX9_felled_0 : decode cX9_felled 0 = .ok (.aload_n 0, 1) := by decide +kernel
theorem dX9_felled_1 : decode cX9_felled 1 = .ok (.iload_n 1, 1) := by decide +kernel
theorem dX9_felled_2 : decode cX9_felled 2 = .ok (.iload_n 2, 1) := by decide +kernel
theorem dX9_felled_3 : decode cX9_felled 3 = .ok (.iload_n 3, 1) := by decide +kernel
theorem dX9_felled_4 : decode cX9_felled 4 = .ok (.invokevirtual 170, 3) := by decide +kernel
theorem dX9_felled_7 : decode cX9_felled 7 = .ok (.istore 4, 2) := by decide +kernel
theorem dX9_felled_9 : decode cX9_felled 9 = .ok (.iload 4, 2) := by decide +kernel
theorem dX9_felled_11 : decode cX9_felled 11 = .ok (.bipush (-9), 2) := by decide +kernel
theorem dX9_felled_13 : decode cX9_felled 13 = .ok (.if_icmp .eq 8, 3) := by decide +kernel
theorem dX9_felled_16 : decode cX9_felled 16 = .ok (.iload 4, 2) := by decide +kernel
theorem dX9_felled_18 : decode cX9_felled 18 = .ok (.goto 21, 3) := by decide +kernel
theorem dX9_felled_21 : decode cX9_felled 21 = .ok (.aload_n 0, 1) := by decide +kernel
theorem dX9_felled_22 : decode cX9_felled 22 = .ok (.getfield 47, 3) := by decide +kernel
theorem dX9_felled_25 : decode cX9_felled 25 = .ok (.aload_n 0, 1) := by decide +kernel
theorem dX9_felled_26 : decode cX9_felled 26 = .ok (.getfield 68, 3) := by decide +kernel
theorem dX9_felled_29 : decode cX9_felled 29 = .ok (.aload_n 0, 1) := by decide +kernel
theorem dX9_felled_30 : decode cX9_felled 30 = .ok (.getfield 19, 3) := by decide +kernel
theorem dX9_felled_33 : decode cX9_felled 33 = .ok (.iload_n 1, 1) := by decide +kernel
theorem dX9_felled_34 : decode cX9_felled 34 = .ok (.iload_n 2, 1) := by decide +kernel
theorem dX9_felled_35 : decode cX9_felled 35 = .ok (.iload_n 3, 1) := by decide +kernel
theorem dX9_felled_36 : decode cX9_felled 36 = .ok (.invokevirtual 203, 3) := by decide +kernel
theorem dX9_felled_39 : decode cX9_felled 39 = .ok (.ireturn, 1) := by decide +kernel
theorem dX9_fewest_0 : decode cX9_fewest 0 = .ok (.aload_n 0, 1) := by decide +kernel
theorem dX9_fewest_1 : decode cX9_fewest 1 = .ok (.getfield 68, 3) := by decide +kernel
theorem dX9_fewest_4 : decode cX9_fewest 4 = .ok (.iload_n 1, 1) := by decide +kernel
theorem dX9_fewest_5 : decode cX9_fewest 5 = .ok (.invokevirtual 121, 3) := by decide +kernel
theorem dX9_fewest_8 : decode cX9_fewest 8 = .ok (.ifCond .ne 5, 3) := by decide +kernel
theorem dX9_fewest_11 : decode cX9_fewest 11 = .ok (.iconst (-1), 1) := by decide +kernel
theorem dX9_fewest_12 : decode cX9_fewest 12 = .ok (.ireturn, 1) := by decide +kernel
theorem dX9_fewest_13 : decode cX9_fewest 13 = .ok (.iconst 0, 1) := by decide +kernel
theorem dX9_fewest_14 : decode cX9_fewest 14 = .ok (.istore_n 3, 1) := by decide +kernel
theorem dX9_fewest_15 : decode cX9_fewest 15 = .ok (.iload_n 3, 1) := by decide +kernel
theorem dX9_fewest_16 : decode cX9_fewest 16 = .ok (.iconst 3, 1) := by decide +kernel
theorem dX9_fewest_17 : decode cX9_fewest 17 = .ok (.if_icmp .gt 46, 3) := by decide +kernel
theorem dX9_fewest_20 : decode cX9_fewest 20 = .ok (.aload_n 0, 1) := by decide +kernel
theorem dX9_fewest_21 : decode cX9_fewest 21 = .ok (.getfield 47, 3) := by decide +kernel
theorem dX9_fewest_24 : decode cX9_fewest 24 = .ok (.aload_n 0, 1) := by decide +kernel
theorem dX9_fewest_25 : decode cX9_fewest 25 = .ok (.getfield 68, 3) := by decide +kernel
theorem dX9_fewest_28 : decode cX9_fewest 28 = .ok (.aload_n 0, 1) := by decide +kernel
theorem dX9_fewest_29 : decode cX9_fewest 29 = .ok (.getfield 19, 3) := by decide +kernel
theorem dX9_fewest_32 : decode cX9_fewest 32 = .ok (.iload_n 1, 1) := by decide +kernel
theorem dX9_fewest_33 : decode cX9_fewest 33 = .ok (.iload_n 3, 1) := by decide +kernel
theorem dX9_fewest_34 : decode cX9_fewest 34 = .ok (.invokevirtual 207, 3) := by decide +kernel
theorem dX9_fewest_37 : decode cX9_fewest 37 = .ok (.istore 4, 2) := by decide +kernel
theorem dX9_fewest_39 : decode cX9_fewest 39 = .ok (.iload 4, 2) := by decide +kernel
theorem dX9_fewest_41 : decode cX9_fewest 41 = .ok (.bipush (-9), 2) := by decide +kernel
theorem dX9_fewest_43 : decode cX9_fewest 43 = .ok (.if_icmp .eq 14, 3) := by decide +kernel
theorem dX9_fewest_46 : decode cX9_fewest 46 = .ok (.iload_n 2, 1) := by decide +kernel
theorem dX9_fewest_47 : decode cX9_fewest 47 = .ok (.ifCond .eq 8, 3) := by decide +kernel
theorem dX9_fewest_50 : decode cX9_fewest 50 = .ok (.iload 4, 2) := by decide +kernel
theorem dX9_fewest_52 : decode cX9_fewest 52 = .ok (.goto 4, 3) := by decide +kernel
theorem dX9_fewest_55 : decode cX9_fewest 55 = .ok (.iload_n 3, 1) := by decide +kernel
theorem dX9_fewest_56 : decode cX9_fewest 56 = .ok (.ireturn, 1) := by decide +kernel
theorem dX9_fewest_57 : decode cX9_fewest 57 = .ok (.iinc 3 1, 3) := by decide +kernel
theorem dX9_fewest_60 : decode cX9_fewest 60 = .ok (.goto (-45), 3) := by decide +kernel
theorem dX9_fewest_63 : decode cX9_fewest 63 = .ok (.bipush (-9), 2) := by decide +kernel
theorem dX9_fewest_65 : decode cX9_fewest 65 = .ok (.ireturn, 1) := by decide +kernel
theorem dX9_winds_0 : decode cX9_winds 0 = .ok (.aload_n 0, 1) := by decide +kernel
theorem dX9_winds_1 : decode cX9_winds 1 = .ok (.getfield 68, 3) := by decide +kernel
theorem dX9_winds_4 : decode cX9_winds 4 = .ok (.iload_n 1, 1) := by decide +kernel
theorem dX9_winds_5 : decode cX9_winds 5 = .ok (.invokevirtual 154, 3) := by decide +kernel
theorem dX9_winds_8 : decode cX9_winds 8 = .ok (.ifCond .eq 14, 3) := by decide +kernel
theorem dX9_winds_11 : decode cX9_winds 11 = .ok (.aload_n 0, 1) := by decide +kernel
theorem dX9_winds_12 : decode cX9_winds 12 = .ok (.getfield 68, 3) := by decide +kernel
theorem dX9_winds_15 : decode cX9_winds 15 = .ok (.iload_n 2, 1) := by decide +kernel
theorem dX9_winds_16 : decode cX9_winds 16 = .ok (.invokevirtual 121, 3) := by decide +kernel
theorem dX9_winds_19 : decode cX9_winds 19 = .ok (.ifCond .ne 5, 3) := by decide +kernel
theorem dX9_winds_22 : decode cX9_winds 22 = .ok (.iconst (-1), 1) := by decide +kernel
theorem dX9_winds_23 : decode cX9_winds 23 = .ok (.ireturn, 1) := by decide +kernel
theorem dX9_winds_24 : decode cX9_winds 24 = .ok (.aload_n 0, 1) := by decide +kernel
theorem dX9_winds_25 : decode cX9_winds 25 = .ok (.getfield 19, 3) := by decide +kernel
theorem dX9_winds_28 : decode cX9_winds 28 = .ok (.iload_n 2, 1) := by decide +kernel
theorem dX9_winds_29 : decode cX9_winds 29 = .ok (.invokevirtual 186, 3) := by decide +kernel
theorem dX9_winds_32 : decode cX9_winds 32 = .ok (.ifCond .ne 5, 3) := by decide +kernel
theorem dX9_winds_35 : decode cX9_winds 35 = .ok (.iconst 0, 1) := by decide +kernel
theorem dX9_winds_36 : decode cX9_winds 36 = .ok (.ireturn, 1) := by decide +kernel
theorem dX9_winds_37 : decode cX9_winds 37 = .ok (.iconst 0, 1) := by decide +kernel
theorem dX9_winds_38 : decode cX9_winds 38 = .ok (.istore_n 3, 1) := by decide +kernel
theorem dX9_winds_39 : decode cX9_winds 39 = .ok (.iconst 0, 1) := by decide +kernel
theorem dX9_winds_40 : decode cX9_winds 40 = .ok (.istore 4, 2) := by decide +kernel
theorem dX9_winds_42 : decode cX9_winds 42 = .ok (.iload 4, 2) := by decide +kernel
theorem dX9_winds_44 : decode cX9_winds 44 = .ok (.iconst 2, 1) := by decide +kernel
theorem dX9_winds_45 : decode cX9_winds 45 = .ok (.if_icmp .gt 30, 3) := by decide +kernel
theorem dX9_winds_48 : decode cX9_winds 48 = .ok (.aload_n 0, 1) := by decide +kernel
theorem dX9_winds_49 : decode cX9_winds 49 = .ok (.getfield 68, 3) := by decide +kernel
theorem dX9_winds_52 : decode cX9_winds 52 = .ok (.iload_n 1, 1) := by decide +kernel
theorem dX9_winds_53 : decode cX9_winds 53 = .ok (.iload_n 2, 1) := by decide +kernel
theorem dX9_winds_54 : decode cX9_winds 54 = .ok (.iload 4, 2) := by decide +kernel
theorem dX9_winds_56 : decode cX9_winds 56 = .ok (.invokevirtual 211, 3) := by decide +kernel
theorem dX9_winds_59 : decode cX9_winds 59 = .ok (.ifCond .eq 10, 3) := by decide +kernel
theorem dX9_winds_62 : decode cX9_winds 62 = .ok (.iload_n 3, 1) := by decide +kernel
theorem dX9_winds_63 : decode cX9_winds 63 = .ok (.iconst 1, 1) := by decide +kernel
theorem dX9_winds_64 : decode cX9_winds 64 = .ok (.iload 4, 2) := by decide +kernel
theorem dX9_winds_66 : decode cX9_winds 66 = .ok (.ishl, 1) := by decide +kernel
theorem dX9_winds_67 : decode cX9_winds 67 = .ok (.ior, 1) := by decide +kernel
theorem dX9_winds_68 : decode cX9_winds 68 = .ok (.istore_n 3, 1) := by decide +kernel
theorem dX9_winds_69 : decode cX9_winds 69 = .ok (.iinc 4 1, 3) := by decide +kernel
theorem dX9_winds_72 : decode cX9_winds 72 = .ok (.goto (-30), 3) := by decide +kernel
theorem dX9_winds_75 : decode cX9_winds 75 = .ok (.iload_n 3, 1) := by decide +kernel
theorem dX9_winds_76 : decode cX9_winds 76 = .ok (.ireturn, 1) := by decide +kernel
theorem dX9_match_0 : decode cX9_match 0 = .ok (.aload_n 0, 1) := by decide +kernel
theorem dX9_match_1 : decode cX9_match 1 = .ok (.getfield 47, 3) := by decide +kernel
theorem dX9_match_4 : decode cX9_match 4 = .ok (.aload_n 0, 1) := by decide +kernel
theorem dX9_match_5 : decode cX9_match 5 = .ok (.getfield 68, 3) := by decide +kernel
theorem dX9_match_8 : decode cX9_match 8 = .ok (.aload_n 0, 1) := by decide +kernel
theorem dX9_match_9 : decode cX9_match 9 = .ok (.getfield 19, 3) := by decide +kernel
theorem dX9_match_12 : decode cX9_match 12 = .ok (.iconst 1, 1) := by decide +kernel
theorem dX9_match_13 : decode cX9_match 13 = .ok (.aload_n 0, 1) := by decide +kernel
theorem dX9_match_14 : decode cX9_match 14 = .ok (.getfield 68, 3) := by decide +kernel
theorem dX9_match_17 : decode cX9_match 17 = .ok (.getfield 102, 3) := by decide +kernel
theorem dX9_match_20 : decode cX9_match 20 = .ok (.ishl, 1) := by decide +kernel
theorem dX9_match_21 : decode cX9_match 21 = .ok (.iconst 1, 1) := by decide +kernel
theorem dX9_match_22 : decode cX9_match 22 = .ok (.isub, 1) := by decide +kernel
theorem dX9_match_23 : decode cX9_match 23 = .ok (.invokevirtual 215, 3) := by decide +kernel
theorem dX9_match_26 : decode cX9_match 26 = .ok (.pop, 1) := by decide +kernel
theorem dX9_match_27 : decode cX9_match 27 = .ok (.iload_n 1, 1) := by decide +kernel
theorem dX9_match_28 : decode cX9_match 28 = .ok (.ifCond .eq 13, 3) := by decide +kernel
theorem dX9_match_31 : decode cX9_match 31 = .ok (.aload_n 0, 1) := by decide +kernel
theorem dX9_match_32 : decode cX9_match 32 = .ok (.getfield 47, 3) := by decide +kernel
theorem dX9_match_35 : decode cX9_match 35 = .ok (.getfield 219, 3) := by decide +kernel
theorem dX9_match_38 : decode cX9_match 38 = .ok (.goto 10, 3) := by decide +kernel
theorem dX9_match_41 : decode cX9_match 41 = .ok (.aload_n 0, 1) := by decide +kernel
theorem dX9_match_42 : decode cX9_match 42 = .ok (.getfield 47, 3) := by decide +kernel
theorem dX9_match_45 : decode cX9_match 45 = .ok (.getfield 222, 3) := by decide +kernel
theorem dX9_match_48 : decode cX9_match 48 = .ok (.ireturn, 1) := by decide +kernel
theorem dX9_nails_0 : decode cX9_nails 0 = .ok (.aload_n 0, 1) := by decide +kernel
theorem dX9_nails_1 : decode cX9_nails 1 = .ok (.getfield 68, 3) := by decide +kernel
theorem dX9_nails_4 : decode cX9_nails 4 = .ok (.iload_n 1, 1) := by decide +kernel
theorem dX9_nails_5 : decode cX9_nails 5 = .ok (.invokevirtual 121, 3) := by decide +kernel
theorem dX9_nails_8 : decode cX9_nails 8 = .ok (.ifCond .ne 5, 3) := by decide +kernel
theorem dX9_nails_11 : decode cX9_nails 11 = .ok (.iconst (-1), 1) := by decide +kernel
theorem dX9_nails_12 : decode cX9_nails 12 = .ok (.ireturn, 1) := by decide +kernel
theorem dX9_nails_13 : decode cX9_nails 13 = .ok (.aload_n 0, 1) := by decide +kernel
theorem dX9_nails_14 : decode cX9_nails 14 = .ok (.getfield 19, 3) := by decide +kernel
theorem dX9_nails_17 : decode cX9_nails 17 = .ok (.iload_n 1, 1) := by decide +kernel
theorem dX9_nails_18 : decode cX9_nails 18 = .ok (.invokevirtual 186, 3) := by decide +kernel
theorem dX9_nails_21 : decode cX9_nails 21 = .ok (.ifCond .eq 22, 3) := by decide +kernel
theorem dX9_nails_24 : decode cX9_nails 24 = .ok (.aload_n 0, 1) := by decide +kernel
theorem dX9_nails_25 : decode cX9_nails 25 = .ok (.getfield 47, 3) := by decide +kernel
theorem dX9_nails_28 : decode cX9_nails 28 = .ok (.aload_n 0, 1) := by decide +kernel
theorem dX9_nails_29 : decode cX9_nails 29 = .ok (.getfield 68, 3) := by decide +kernel
theorem dX9_nails_32 : decode cX9_nails 32 = .ok (.aload_n 0, 1) := by decide +kernel
theorem dX9_nails_33 : decode cX9_nails 33 = .ok (.getfield 19, 3) := by decide +kernel
theorem dX9_nails_36 : decode cX9_nails 36 = .ok (.iload_n 1, 1) := by decide +kernel
theorem dX9_nails_37 : decode cX9_nails 37 = .ok (.invokevirtual 225, 3) := by decide +kernel
theorem dX9_nails_40 : decode cX9_nails 40 = .ok (.goto 5, 3) := by decide +kernel
theorem dX9_nails_43 : decode cX9_nails 43 = .ok (.bipush (-9), 2) := by decide +kernel
theorem dX9_nails_45 : decode cX9_nails 45 = .ok (.ireturn, 1) := by decide +kernel
theorem dX9_judge_0 : decode cX9_judge 0 = .ok (.iload_n 1, 1) := by decide +kernel
theorem dX9_judge_1 : decode cX9_judge 1 = .ok (.iconst 1, 1) := by decide +kernel
theorem dX9_judge_2 : decode cX9_judge 2 = .ok (.if_icmp .lt 20, 3) := by decide +kernel
theorem dX9_judge_5 : decode cX9_judge 5 = .ok (.iload_n 1, 1) := by decide +kernel
theorem dX9_judge_6 : decode cX9_judge 6 = .ok (.iconst 4, 1) := by decide +kernel
theorem dX9_judge_7 : decode cX9_judge 7 = .ok (.if_icmp .gt 15, 3) := by decide +kernel
theorem dX9_judge_10 : decode cX9_judge 10 = .ok (.iload_n 2, 1) := by decide +kernel
theorem dX9_judge_11 : decode cX9_judge 11 = .ok (.ifCond .lt 11, 3) := by decide +kernel
theorem dX9_judge_14 : decode cX9_judge 14 = .ok (.iload_n 2, 1) := by decide +kernel
theorem dX9_judge_15 : decode cX9_judge 15 = .ok (.iload_n 1, 1) := by decide +kernel
theorem dX9_judge_16 : decode cX9_judge 16 = .ok (.invokestatic 228, 3) := by decide +kernel
theorem dX9_judge_19 : decode cX9_judge 19 = .ok (.if_icmp .lt 6, 3) := by decide +kernel
theorem dX9_judge_22 : decode cX9_judge 22 = .ok (.bipush (-2), 2) := by decide +kernel
theorem dX9_judge_24 : decode cX9_judge 24 = .ok (.ireturn, 1) := by decide +kernel
theorem dX9_judge_25 : decode cX9_judge 25 = .ok (.aload_n 0, 1) := by decide +kernel
theorem dX9_judge_26 : decode cX9_judge 26 = .ok (.getfield 47, 3) := by decide +kernel
theorem dX9_judge_29 : decode cX9_judge 29 = .ok (.aload_n 0, 1) := by decide +kernel
theorem dX9_judge_30 : decode cX9_judge 30 = .ok (.getfield 68, 3) := by decide +kernel
theorem dX9_judge_33 : decode cX9_judge 33 = .ok (.aload_n 0, 1) := by decide +kernel
theorem dX9_judge_34 : decode cX9_judge 34 = .ok (.getfield 19, 3) := by decide +kernel
theorem dX9_judge_37 : decode cX9_judge 37 = .ok (.iload_n 1, 1) := by decide +kernel
theorem dX9_judge_38 : decode cX9_judge 38 = .ok (.iload_n 2, 1) := by decide +kernel
theorem dX9_judge_39 : decode cX9_judge 39 = .ok (.invokevirtual 231, 3) := by decide +kernel
theorem dX9_judge_42 : decode cX9_judge 42 = .ok (.ireturn, 1) := by decide +kernel
theorem dX9_share_0 : decode cX9_share 0 = .ok (.aload_n 0, 1) := by decide +kernel
theorem dX9_share_1 : decode cX9_share 1 = .ok (.getfield 68, 3) := by decide +kernel
theorem dX9_share_4 : decode cX9_share 4 = .ok (.iload_n 1, 1) := by decide +kernel
theorem dX9_share_5 : decode cX9_share 5 = .ok (.invokevirtual 154, 3) := by decide +kernel
theorem dX9_share_8 : decode cX9_share 8 = .ok (.ifCond .ne 5, 3) := by decide +kernel
theorem dX9_share_11 : decode cX9_share 11 = .ok (.iconst (-1), 1) := by decide +kernel
theorem dX9_share_12 : decode cX9_share 12 = .ok (.ireturn, 1) := by decide +kernel
theorem dX9_share_13 : decode cX9_share 13 = .ok (.iconst 0, 1) := by decide +kernel
theorem dX9_share_14 : decode cX9_share 14 = .ok (.istore_n 3, 1) := by decide +kernel
theorem dX9_share_15 : decode cX9_share 15 = .ok (.iconst 0, 1) := by decide +kernel
theorem dX9_share_16 : decode cX9_share 16 = .ok (.istore 4, 2) := by decide +kernel
theorem dX9_share_18 : decode cX9_share 18 = .ok (.iload 4, 2) := by decide +kernel
theorem dX9_share_20 : decode cX9_share 20 = .ok (.iconst 1, 1) := by decide +kernel
theorem dX9_share_21 : decode cX9_share 21 = .ok (.aload_n 0, 1) := by decide +kernel
theorem dX9_share_22 : decode cX9_share 22 = .ok (.getfield 68, 3) := by decide +kernel
theorem dX9_share_25 : decode cX9_share 25 = .ok (.getfield 102, 3) := by decide +kernel
theorem dX9_share_28 : decode cX9_share 28 = .ok (.ishl, 1) := by decide +kernel
theorem dX9_share_29 : decode cX9_share 29 = .ok (.if_icmp .ge 93, 3) := by decide +kernel
theorem dX9_share_32 : decode cX9_share 32 = .ok (.iload 4, 2) := by decide +kernel
theorem dX9_share_34 : decode cX9_share 34 = .ok (.iload_n 1, 1) := by decide +kernel
theorem dX9_share_35 : decode cX9_share 35 = .ok (.invokestatic 147, 3) := by decide +kernel
theorem dX9_share_38 : decode cX9_share 38 = .ok (.ifCond .ne 78, 3) := by decide +kernel
theorem dX9_share_41 : decode cX9_share 41 = .ok (.aload_n 0, 1) := by decide +kernel
theorem dX9_share_42 : decode cX9_share 42 = .ok (.getfield 47, 3) := by decide +kernel
theorem dX9_share_45 : decode cX9_share 45 = .ok (.aload_n 0, 1) := by decide +kernel
theorem dX9_share_46 : decode cX9_share 46 = .ok (.getfield 68, 3) := by decide +kernel
theorem dX9_share_49 : decode cX9_share 49 = .ok (.aload_n 0, 1) := by decide +kernel
theorem dX9_share_50 : decode cX9_share 50 = .ok (.getfield 19, 3) := by decide +kernel
theorem dX9_share_53 : decode cX9_share 53 = .ok (.iload 4, 2) := by decide +kernel
theorem dX9_share_55 : decode cX9_share 55 = .ok (.iconst 1, 1) := by decide +kernel
theorem dX9_share_56 : decode cX9_share 56 = .ok (.iload_n 1, 1) := by decide +kernel
theorem dX9_share_57 : decode cX9_share 57 = .ok (.ishl, 1) := by decide +kernel
theorem dX9_share_58 : decode cX9_share 58 = .ok (.ior, 1) := by decide +kernel
theorem dX9_share_59 : decode cX9_share 59 = .ok (.invokevirtual 215, 3) := by decide +kernel
theorem dX9_share_62 : decode cX9_share 62 = .ok (.aload_n 0, 1) := by decide +kernel
theorem dX9_share_63 : decode cX9_share 63 = .ok (.getfield 47, 3) := by decide +kernel
theorem dX9_share_66 : decode cX9_share 66 = .ok (.aload_n 0, 1) := by decide +kernel
theorem dX9_share_67 : decode cX9_share 67 = .ok (.getfield 68, 3) := by decide +kernel
theorem dX9_share_70 : decode cX9_share 70 = .ok (.aload_n 0, 1) := by decide +kernel
theorem dX9_share_71 : decode cX9_share 71 = .ok (.getfield 19, 3) := by decide +kernel
theorem dX9_share_74 : decode cX9_share 74 = .ok (.iload 4, 2) := by decide +kernel
theorem dX9_share_76 : decode cX9_share 76 = .ok (.invokevirtual 215, 3) := by decide +kernel
theorem dX9_share_79 : decode cX9_share 79 = .ok (.isub, 1) := by decide +kernel
theorem dX9_share_80 : decode cX9_share 80 = .ok (.istore 5, 2) := by decide +kernel
theorem dX9_share_82 : decode cX9_share 82 = .ok (.iload 4, 2) := by decide +kernel
theorem dX9_share_84 : decode cX9_share 84 = .ok (.invokestatic 234, 3) := by decide +kernel
theorem dX9_share_87 : decode cX9_share 87 = .ok (.istore 6, 2) := by decide +kernel
theorem dX9_share_89 : decode cX9_share 89 = .ok (.iload_n 3, 1) := by decide +kernel
theorem dX9_share_90 : decode cX9_share 90 = .ok (.iload 5, 2) := by decide +kernel
theorem dX9_share_92 : decode cX9_share 92 = .ok (.iload 6, 2) := by decide +kernel
theorem dX9_share_94 : decode cX9_share 94 = .ok (.invokestatic 239, 3) := by decide +kernel
theorem dX9_share_97 : decode cX9_share 97 = .ok (.imul, 1) := by decide +kernel
theorem dX9_share_98 : decode cX9_share 98 = .ok (.aload_n 0, 1) := by decide +kernel
theorem dX9_share_99 : decode cX9_share 99 = .ok (.getfield 68, 3) := by decide +kernel
theorem dX9_share_102 : decode cX9_share 102 = .ok (.getfield 102, 3) := by decide +kernel
theorem dX9_share_105 : decode cX9_share 105 = .ok (.iload 6, 2) := by decide +kernel
theorem dX9_share_107 : decode cX9_share 107 = .ok (.isub, 1) := by decide +kernel
theorem dX9_share_108 : decode cX9_share 108 = .ok (.iconst 1, 1) := by decide +kernel
theorem dX9_share_109 : decode cX9_share 109 = .ok (.isub, 1) := by decide +kernel
theorem dX9_share_110 : decode cX9_share 110 = .ok (.invokestatic 239, 3) := by decide +kernel
theorem dX9_share_113 : decode cX9_share 113 = .ok (.imul, 1) := by decide +kernel
theorem dX9_share_114 : decode cX9_share 114 = .ok (.iadd, 1) := by decide +kernel
theorem dX9_share_115 : decode cX9_share 115 = .ok (.istore_n 3, 1) := by decide +kernel
theorem dX9_share_116 : decode cX9_share 116 = .ok (.iinc 4 1, 3) := by decide +kernel
theorem dX9_share_119 : decode cX9_share 119 = .ok (.goto (-101), 3) := by decide +kernel
theorem dX9_share_122 : decode cX9_share 122 = .ok (.iload_n 3, 1) := by decide +kernel
theorem dX9_share_123 : decode cX9_share 123 = .ok (.aload_n 0, 1) := by decide +kernel
theorem dX9_share_124 : decode cX9_share 124 = .ok (.getfield 68, 3) := by decide +kernel
theorem dX9_share_127 : decode cX9_share 127 = .ok (.getfield 102, 3) := by decide +kernel
theorem dX9_share_130 : decode cX9_share 130 = .ok (.invokestatic 239, 3) := by decide +kernel
theorem dX9_share_133 : decode cX9_share 133 = .ok (.iload_n 2, 1) := by decide +kernel
theorem dX9_share_134 : decode cX9_share 134 = .ok (.invokestatic 242, 3) := by decide +kernel
theorem dX9_share_137 : decode cX9_share 137 = .ok (.ireturn, 1) := by decide +kernel
theorem dX9_see_0 : decode cX9_see 0 = .ok (.aload_n 0, 1) := by decide +kernel
theorem dX9_see_1 : decode cX9_see 1 = .ok (.getfield 68, 3) := by decide +kernel
theorem dX9_see_4 : decode cX9_see 4 = .ok (.iload_n 1, 1) := by decide +kernel
theorem dX9_see_5 : decode cX9_see 5 = .ok (.invokevirtual 121, 3) := by decide +kernel
theorem dX9_see_8 : decode cX9_see 8 = .ok (.ifCond .ne 5, 3) := by decide +kernel
theorem dX9_see_11 : decode cX9_see 11 = .ok (.iconst (-1), 1) := by decide +kernel
theorem dX9_see_12 : decode cX9_see 12 = .ok (.ireturn, 1) := by decide +kernel
theorem dX9_see_13 : decode cX9_see 13 = .ok (.iload_n 2, 1) := by decide +kernel
theorem dX9_see_14 : decode cX9_see 14 = .ok (.iconst 1, 1) := by decide +kernel
theorem dX9_see_15 : decode cX9_see 15 = .ok (.if_icmp .lt 18, 3) := by decide +kernel
theorem dX9_see_18 : decode cX9_see 18 = .ok (.iload_n 2, 1) := by decide +kernel
theorem dX9_see_19 : decode cX9_see 19 = .ok (.bipush 11, 2) := by decide +kernel
theorem dX9_see_21 : decode cX9_see 21 = .ok (.if_icmp .gt 12, 3) := by decide +kernel
theorem dX9_see_24 : decode cX9_see 24 = .ok (.iload_n 3, 1) := by decide +kernel
theorem dX9_see_25 : decode cX9_see 25 = .ok (.ifCond .lt 8, 3) := by decide +kernel
theorem dX9_see_28 : decode cX9_see 28 = .ok (.iload_n 3, 1) := by decide +kernel
theorem dX9_see_29 : decode cX9_see 29 = .ok (.iconst 1, 1) := by decide +kernel
theorem dX9_see_30 : decode cX9_see 30 = .ok (.if_icmp .le 6, 3) := by decide +kernel
theorem dX9_see_33 : decode cX9_see 33 = .ok (.bipush (-2), 2) := by decide +kernel
theorem dX9_see_35 : decode cX9_see 35 = .ok (.ireturn, 1) := by decide +kernel
theorem dX9_see_36 : decode cX9_see 36 = .ok (.aload_n 0, 1) := by decide +kernel
theorem dX9_see_37 : decode cX9_see 37 = .ok (.getfield 33, 3) := by decide +kernel
theorem dX9_see_40 : decode cX9_see 40 = .ok (.iload_n 1, 1) := by decide +kernel
theorem dX9_see_41 : decode cX9_see 41 = .ok (.iload_n 2, 1) := by decide +kernel
theorem dX9_see_42 : decode cX9_see 42 = .ok (.iload_n 3, 1) := by decide +kernel
theorem dX9_see_43 : decode cX9_see 43 = .ok (.invokevirtual 246, 3) := by decide +kernel
theorem dX9_see_46 : decode cX9_see 46 = .ok (.ifCond .eq 13, 3) := by decide +kernel
theorem dX9_see_49 : decode cX9_see 49 = .ok (.aload_n 0, 1) := by decide +kernel
theorem dX9_see_50 : decode cX9_see 50 = .ok (.getfield 33, 3) := by decide +kernel
theorem dX9_see_53 : decode cX9_see 53 = .ok (.getfield 120, 3) := by decide +kernel
theorem dX9_see_56 : decode cX9_see 56 = .ok (.goto 5, 3) := by decide +kernel
theorem dX9_see_59 : decode cX9_see 59 = .ok (.bipush (-4), 2) := by decide +kernel
theorem dX9_see_61 : decode cX9_see 61 = .ok (.ireturn, 1) := by decide +kernel
theorem dX9_unsee_0 : decode cX9_unsee 0 = .ok (.aload_n 0, 1) := by decide +kernel
theorem dX9_unsee_1 : decode cX9_unsee 1 = .ok (.getfield 33, 3) := by decide +kernel
theorem dX9_unsee_4 : decode cX9_unsee 4 = .ok (.getfield 120, 3) := by decide +kernel
theorem dX9_unsee_7 : decode cX9_unsee 7 = .ok (.istore_n 1, 1) := by decide +kernel
theorem dX9_unsee_8 : decode cX9_unsee 8 = .ok (.aload_n 0, 1) := by decide +kernel
theorem dX9_unsee_9 : decode cX9_unsee 9 = .ok (.getfield 33, 3) := by decide +kernel
theorem dX9_unsee_12 : decode cX9_unsee 12 = .ok (.iconst 0, 1) := by decide +kernel
theorem dX9_unsee_13 : decode cX9_unsee 13 = .ok (.putfield 120, 3) := by decide +kernel
theorem dX9_unsee_16 : decode cX9_unsee 16 = .ok (.iload_n 1, 1) := by decide +kernel
theorem dX9_unsee_17 : decode cX9_unsee 17 = .ok (.ireturn, 1) := by decide +kernel
theorem dX9_holds_0 : decode cX9_holds 0 = .ok (.aload_n 0, 1) := by decide +kernel
theorem dX9_holds_1 : decode cX9_holds 1 = .ok (.getfield 68, 3) := by decide +kernel
theorem dX9_holds_4 : decode cX9_holds 4 = .ok (.iload_n 1, 1) := by decide +kernel
theorem dX9_holds_5 : decode cX9_holds 5 = .ok (.invokevirtual 121, 3) := by decide +kernel
theorem dX9_holds_8 : decode cX9_holds 8 = .ok (.ifCond .ne 5, 3) := by decide +kernel
theorem dX9_holds_11 : decode cX9_holds 11 = .ok (.iconst (-1), 1) := by decide +kernel
theorem dX9_holds_12 : decode cX9_holds 12 = .ok (.ireturn, 1) := by decide +kernel
theorem dX9_holds_13 : decode cX9_holds 13 = .ok (.aload_n 0, 1) := by decide +kernel
theorem dX9_holds_14 : decode cX9_holds 14 = .ok (.getfield 33, 3) := by decide +kernel
theorem dX9_holds_17 : decode cX9_holds 17 = .ok (.iload_n 1, 1) := by decide +kernel
theorem dX9_holds_18 : decode cX9_holds 18 = .ok (.iconst 4, 1) := by decide +kernel
theorem dX9_holds_19 : decode cX9_holds 19 = .ok (.aload_n 0, 1) := by decide +kernel
theorem dX9_holds_20 : decode cX9_holds 20 = .ok (.getfield 19, 3) := by decide +kernel
theorem dX9_holds_23 : decode cX9_holds 23 = .ok (.getfield 151, 3) := by decide +kernel
theorem dX9_holds_26 : decode cX9_holds 26 = .ok (.iload_n 1, 1) := by decide +kernel
theorem dX9_holds_27 : decode cX9_holds 27 = .ok (.invokestatic 147, 3) := by decide +kernel
theorem dX9_holds_30 : decode cX9_holds 30 = .ok (.imul, 1) := by decide +kernel
theorem dX9_holds_31 : decode cX9_holds 31 = .ok (.invokevirtual 248, 3) := by decide +kernel
theorem dX9_holds_34 : decode cX9_holds 34 = .ok (.ireturn, 1) := by decide +kernel
theorem dX9_rests_0 : decode cX9_rests 0 = .ok (.aload_n 0, 1) := by decide +kernel
theorem dX9_rests_1 : decode cX9_rests 1 = .ok (.getfield 68, 3) := by decide +kernel
theorem dX9_rests_4 : decode cX9_rests 4 = .ok (.getfield 102, 3) := by decide +kernel
theorem dX9_rests_7 : decode cX9_rests 7 = .ok (.iconst 2, 1) := by decide +kernel
theorem dX9_rests_8 : decode cX9_rests 8 = .ok (.if_icmp .ge 5, 3) := by decide +kernel
theorem dX9_rests_11 : decode cX9_rests 11 = .ok (.iconst (-1), 1) := by decide +kernel
theorem dX9_rests_12 : decode cX9_rests 12 = .ok (.ireturn, 1) := by decide +kernel
theorem dX9_rests_13 : decode cX9_rests 13 = .ok (.iload_n 1, 1) := by decide +kernel
theorem dX9_rests_14 : decode cX9_rests 14 = .ok (.ifCond .lt 8, 3) := by decide +kernel
theorem dX9_rests_17 : decode cX9_rests 17 = .ok (.iload_n 1, 1) := by decide +kernel
theorem dX9_rests_18 : decode cX9_rests 18 = .ok (.iconst 1, 1) := by decide +kernel
theorem dX9_rests_19 : decode cX9_rests 19 = .ok (.if_icmp .le 6, 3) := by decide +kernel
theorem dX9_rests_22 : decode cX9_rests 22 = .ok (.bipush (-2), 2) := by decide +kernel
theorem dX9_rests_24 : decode cX9_rests 24 = .ok (.ireturn, 1) := by decide +kernel
theorem dX9_rests_25 : decode cX9_rests 25 = .ok (.aload_n 0, 1) := by decide +kernel
theorem dX9_rests_26 : decode cX9_rests 26 = .ok (.getfield 54, 3) := by decide +kernel
theorem dX9_rests_29 : decode cX9_rests 29 = .ok (.aload_n 0, 1) := by decide +kernel
theorem dX9_rests_30 : decode cX9_rests 30 = .ok (.getfield 68, 3) := by decide +kernel
theorem dX9_rests_33 : decode cX9_rests 33 = .ok (.aload_n 0, 1) := by decide +kernel
theorem dX9_rests_34 : decode cX9_rests 34 = .ok (.getfield 19, 3) := by decide +kernel
theorem dX9_rests_37 : decode cX9_rests 37 = .ok (.invokevirtual 251, 3) := by decide +kernel
theorem dX9_rests_40 : decode cX9_rests 40 = .ok (.iload_n 1, 1) := by decide +kernel
theorem dX9_rests_41 : decode cX9_rests 41 = .ok (.ifCond .ne 13, 3) := by decide +kernel
theorem dX9_rests_44 : decode cX9_rests 44 = .ok (.aload_n 0, 1) := by decide +kernel
theorem dX9_rests_45 : decode cX9_rests 45 = .ok (.getfield 54, 3) := by decide +kernel
theorem dX9_rests_48 : decode cX9_rests 48 = .ok (.getfield 255, 3) := by decide +kernel
theorem dX9_rests_51 : decode cX9_rests 51 = .ok (.goto 10, 3) := by decide +kernel
theorem dX9_rests_54 : decode cX9_rests 54 = .ok (.aload_n 0, 1) := by decide +kernel
theorem dX9_rests_55 : decode cX9_rests 55 = .ok (.getfield 54, 3) := by decide +kernel
theorem dX9_rests_58 : decode cX9_rests 58 = .ok (.getfield 256, 3) := by decide +kernel
theorem dX9_rests_61 : decode cX9_rests 61 = .ok (.ireturn, 1) := by decide +kernel
theorem dX9_odds_0 : decode cX9_odds 0 = .ok (.aload_n 0, 1) := by decide +kernel
theorem dX9_odds_1 : decode cX9_odds 1 = .ok (.getfield 68, 3) := by decide +kernel
theorem dX9_odds_4 : decode cX9_odds 4 = .ok (.iload_n 1, 1) := by decide +kernel
theorem dX9_odds_5 : decode cX9_odds 5 = .ok (.invokevirtual 154, 3) := by decide +kernel
theorem dX9_odds_8 : decode cX9_odds 8 = .ok (.ifCond .eq 15, 3) := by decide +kernel
theorem dX9_odds_11 : decode cX9_odds 11 = .ok (.aload_n 0, 1) := by decide +kernel
theorem dX9_odds_12 : decode cX9_odds 12 = .ok (.getfield 68, 3) := by decide +kernel
theorem dX9_odds_15 : decode cX9_odds 15 = .ok (.iload 4, 2) := by decide +kernel
theorem dX9_odds_17 : decode cX9_odds 17 = .ok (.invokevirtual 121, 3) := by decide +kernel
theorem dX9_odds_20 : decode cX9_odds 20 = .ok (.ifCond .ne 5, 3) := by decide +kernel
theorem dX9_odds_23 : decode cX9_odds 23 = .ok (.iconst (-1), 1) := by decide +kernel
theorem dX9_odds_24 : decode cX9_odds 24 = .ok (.ireturn, 1) := by decide +kernel
theorem dX9_odds_25 : decode cX9_odds 25 = .ok (.iload_n 2, 1) := by decide +kernel
theorem dX9_odds_26 : decode cX9_odds 26 = .ok (.invokestatic 259, 3) := by decide +kernel
theorem dX9_odds_29 : decode cX9_odds 29 = .ok (.ifCond .eq 25, 3) := by decide +kernel
theorem dX9_odds_32 : decode cX9_odds 32 = .ok (.iload_n 3, 1) := by decide +kernel
theorem dX9_odds_33 : decode cX9_odds 33 = .ok (.iconst 1, 1) := by decide +kernel
theorem dX9_odds_34 : decode cX9_odds 34 = .ok (.if_icmp .lt 20, 3) := by decide +kernel
theorem dX9_odds_37 : decode cX9_odds 37 = .ok (.iload_n 3, 1) := by decide +kernel
theorem dX9_odds_38 : decode cX9_odds 38 = .ok (.iconst 4, 1) := by decide +kernel
theorem dX9_odds_39 : decode cX9_odds 39 = .ok (.if_icmp .gt 15, 3) := by decide +kernel
theorem dX9_odds_42 : decode cX9_odds 42 = .ok (.iload 5, 2) := by decide +kernel
theorem dX9_odds_44 : decode cX9_odds 44 = .ok (.ifCond .lt 10, 3) := by decide +kernel
theorem dX9_odds_47 : decode cX9_odds 47 = .ok (.iload 5, 2) := by decide +kernel
theorem dX9_odds_49 : decode cX9_odds 49 = .ok (.bipush 10, 2) := by decide +kernel
theorem dX9_odds_51 : decode cX9_odds 51 = .ok (.if_icmp .le 6, 3) := by decide +kernel
theorem dX9_odds_54 : decode cX9_odds 54 = .ok (.bipush (-2), 2) := by decide +kernel
theorem dX9_odds_56 : decode cX9_odds 56 = .ok (.ireturn, 1) := by decide +kernel
theorem dX9_odds_57 : decode cX9_odds 57 = .ok (.aload_n 0, 1) := by decide +kernel
theorem dX9_odds_58 : decode cX9_odds 58 = .ok (.getfield 61, 3) := by decide +kernel
theorem dX9_odds_61 : decode cX9_odds 61 = .ok (.iload_n 1, 1) := by decide +kernel
theorem dX9_odds_62 : decode cX9_odds 62 = .ok (.putfield 262, 3) := by decide +kernel
theorem dX9_odds_65 : decode cX9_odds 65 = .ok (.aload_n 0, 1) := by decide +kernel
theorem dX9_odds_66 : decode cX9_odds 66 = .ok (.getfield 61, 3) := by decide +kernel
theorem dX9_odds_69 : decode cX9_odds 69 = .ok (.iload_n 2, 1) := by decide +kernel
theorem dX9_odds_70 : decode cX9_odds 70 = .ok (.putfield 265, 3) := by decide +kernel
theorem dX9_odds_73 : decode cX9_odds 73 = .ok (.aload_n 0, 1) := by decide +kernel
theorem dX9_odds_74 : decode cX9_odds 74 = .ok (.getfield 61, 3) := by decide +kernel
theorem dX9_odds_77 : decode cX9_odds 77 = .ok (.iload 5, 2) := by decide +kernel
theorem dX9_odds_79 : decode cX9_odds 79 = .ok (.putfield 267, 3) := by decide +kernel
theorem dX9_odds_82 : decode cX9_odds 82 = .ok (.aload_n 0, 1) := by decide +kernel
theorem dX9_odds_83 : decode cX9_odds 83 = .ok (.getfield 61, 3) := by decide +kernel
theorem dX9_odds_86 : decode cX9_odds 86 = .ok (.aload_n 0, 1) := by decide +kernel
theorem dX9_odds_87 : decode cX9_odds 87 = .ok (.getfield 68, 3) := by decide +kernel
theorem dX9_odds_90 : decode cX9_odds 90 = .ok (.aload_n 0, 1) := by decide +kernel
theorem dX9_odds_91 : decode cX9_odds 91 = .ok (.getfield 19, 3) := by decide +kernel
theorem dX9_odds_94 : decode cX9_odds 94 = .ok (.iload 4, 2) := by decide +kernel
theorem dX9_odds_96 : decode cX9_odds 96 = .ok (.iload_n 3, 1) := by decide +kernel
theorem dX9_odds_97 : decode cX9_odds 97 = .ok (.invokevirtual 270, 3) := by decide +kernel
theorem dX9_odds_100 : decode cX9_odds 100 = .ok (.iload_n 3, 1) := by decide +kernel
theorem dX9_odds_101 : decode cX9_odds 101 = .ok (.invokestatic 273, 3) := by decide +kernel
theorem dX9_odds_104 : decode cX9_odds 104 = .ok (.iload 6, 2) := by decide +kernel
theorem dX9_odds_106 : decode cX9_odds 106 = .ok (.invokestatic 242, 3) := by decide +kernel
theorem dX9_odds_109 : decode cX9_odds 109 = .ok (.ireturn, 1) := by decide +kernel
theorem dX9_seed_0 : decode cX9_seed 0 = .ok (.aload_n 0, 1) := by decide +kernel
theorem dX9_seed_1 : decode cX9_seed 1 = .ok (.getfield 75, 3) := by decide +kernel
theorem dX9_seed_4 : decode cX9_seed 4 = .ok (.lstore_n 3, 1) := by decide +kernel
theorem dX9_seed_5 : decode cX9_seed 5 = .ok (.aload_n 0, 1) := by decide +kernel
theorem dX9_seed_6 : decode cX9_seed 6 = .ok (.lload_n 1, 1) := by decide +kernel
theorem dX9_seed_7 : decode cX9_seed 7 = .ok (.putfield 75, 3) := by decide +kernel
theorem dX9_seed_10 : decode cX9_seed 10 = .ok (.lload_n 3, 1) := by decide +kernel
theorem dX9_seed_11 : decode cX9_seed 11 = .ok (.lreturn, 1) := by decide +kernel
theorem dX9_fairs_0 : decode cX9_fairs 0 = .ok (.iload_n 1, 1) := by decide +kernel
theorem dX9_fairs_1 : decode cX9_fairs 1 = .ok (.iconst 1, 1) := by decide +kernel
theorem dX9_fairs_2 : decode cX9_fairs 2 = .ok (.if_icmp .lt 9, 3) := by decide +kernel
theorem dX9_fairs_5 : decode cX9_fairs 5 = .ok (.iload_n 1, 1) := by decide +kernel
theorem dX9_fairs_6 : decode cX9_fairs 6 = .ok (.bipush 30, 2) := by decide +kernel
theorem dX9_fairs_8 : decode cX9_fairs 8 = .ok (.if_icmp .le 6, 3) := by decide +kernel
theorem dX9_fairs_11 : decode cX9_fairs 11 = .ok (.bipush (-2), 2) := by decide +kernel
theorem dX9_fairs_13 : decode cX9_fairs 13 = .ok (.ireturn, 1) := by decide +kernel
theorem dX9_fairs_14 : decode cX9_fairs 14 = .ok (.iconst 0, 1) := by decide +kernel
theorem dX9_fairs_15 : decode cX9_fairs 15 = .ok (.istore_n 2, 1) := by decide +kernel
theorem dX9_fairs_16 : decode cX9_fairs 16 = .ok (.aload_n 0, 1) := by decide +kernel
theorem dX9_fairs_17 : decode cX9_fairs 17 = .ok (.getfield 61, 3) := by decide +kernel
theorem dX9_fairs_20 : decode cX9_fairs 20 = .ok (.aload_n 0, 1) := by decide +kernel
theorem dX9_fairs_21 : decode cX9_fairs 21 = .ok (.getfield 19, 3) := by decide +kernel
theorem dX9_fairs_24 : decode cX9_fairs 24 = .ok (.invokevirtual 276, 3) := by decide +kernel
theorem dX9_fairs_27 : decode cX9_fairs 27 = .ok (.iconst 0, 1) := by decide +kernel
theorem dX9_fairs_28 : decode cX9_fairs 28 = .ok (.istore_n 3, 1) := by decide +kernel
theorem dX9_fairs_29 : decode cX9_fairs 29 = .ok (.iload_n 3, 1) := by decide +kernel
theorem dX9_fairs_30 : decode cX9_fairs 30 = .ok (.iload_n 1, 1) := by decide +kernel
theorem dX9_fairs_31 : decode cX9_fairs 31 = .ok (.if_icmp .ge 51, 3) := by decide +kernel
theorem dX9_fairs_34 : decode cX9_fairs 34 = .ok (.aload_n 0, 1) := by decide +kernel
theorem dX9_fairs_35 : decode cX9_fairs 35 = .ok (.aload_n 0, 1) := by decide +kernel
theorem dX9_fairs_36 : decode cX9_fairs 36 = .ok (.getfield 75, 3) := by decide +kernel
theorem dX9_fairs_39 : decode cX9_fairs 39 = .ok (.ldc2_w 279, 3) := by decide +kernel
theorem dX9_fairs_42 : decode cX9_fairs 42 = .ok (.lmul, 1) := by decide +kernel
theorem dX9_fairs_43 : decode cX9_fairs 43 = .ok (.ldc2_w 281, 3) := by decide +kernel
theorem dX9_fairs_46 : decode cX9_fairs 46 = .ok (.ladd, 1) := by decide +kernel
theorem dX9_fairs_47 : decode cX9_fairs 47 = .ok (.putfield 75, 3) := by decide +kernel
theorem dX9_fairs_50 : decode cX9_fairs 50 = .ok (.iload_n 2, 1) := by decide +kernel
theorem dX9_fairs_51 : decode cX9_fairs 51 = .ok (.aload_n 0, 1) := by decide +kernel
theorem dX9_fairs_52 : decode cX9_fairs 52 = .ok (.getfield 61, 3) := by decide +kernel
theorem dX9_fairs_55 : decode cX9_fairs 55 = .ok (.aload_n 0, 1) := by decide +kernel
theorem dX9_fairs_56 : decode cX9_fairs 56 = .ok (.getfield 68, 3) := by decide +kernel
theorem dX9_fairs_59 : decode cX9_fairs 59 = .ok (.aload_n 0, 1) := by decide +kernel
theorem dX9_fairs_60 : decode cX9_fairs 60 = .ok (.getfield 75, 3) := by decide +kernel
theorem dX9_fairs_63 : decode cX9_fairs 63 = .ok (.bipush 33, 2) := by decide +kernel
theorem dX9_fairs_65 : decode cX9_fairs 65 = .ok (.lushr, 1) := by decide +kernel
theorem dX9_fairs_66 : decode cX9_fairs 66 = .ok (.ldc2_w 283, 3) := by decide +kernel
theorem dX9_fairs_69 : decode cX9_fairs 69 = .ok (.lrem, 1) := by decide +kernel
theorem dX9_fairs_70 : decode cX9_fairs 70 = .ok (.l2i, 1) := by decide +kernel
theorem dX9_fairs_71 : decode cX9_fairs 71 = .ok (.invokevirtual 285, 3) := by decide +kernel
theorem dX9_fairs_74 : decode cX9_fairs 74 = .ok (.iadd, 1) := by decide +kernel
theorem dX9_fairs_75 : decode cX9_fairs 75 = .ok (.istore_n 2, 1) := by decide +kernel
theorem dX9_fairs_76 : decode cX9_fairs 76 = .ok (.iinc 3 1, 3) := by decide +kernel
theorem dX9_fairs_79 : decode cX9_fairs 79 = .ok (.goto (-50), 3) := by decide +kernel
theorem dX9_fairs_82 : decode cX9_fairs 82 = .ok (.iload_n 2, 1) := by decide +kernel
theorem dX9_fairs_83 : decode cX9_fairs 83 = .ok (.ireturn, 1) := by decide +kernel
theorem dX9_keep_0 : decode cX9_keep 0 = .ok (.aload_n 0, 1) := by decide +kernel
theorem dX9_keep_1 : decode cX9_keep 1 = .ok (.getfield 40, 3) := by decide +kernel
theorem dX9_keep_4 : decode cX9_keep 4 = .ok (.iload_n 1, 1) := by decide +kernel
theorem dX9_keep_5 : decode cX9_keep 5 = .ok (.aload_n 0, 1) := by decide +kernel
theorem dX9_keep_6 : decode cX9_keep 6 = .ok (.getfield 19, 3) := by decide +kernel
theorem dX9_keep_9 : decode cX9_keep 9 = .ok (.invokevirtual 288, 3) := by decide +kernel
theorem dX9_keep_12 : decode cX9_keep 12 = .ok (.ifCond .eq 13, 3) := by decide +kernel
theorem dX9_keep_15 : decode cX9_keep 15 = .ok (.aload_n 0, 1) := by decide +kernel
theorem dX9_keep_16 : decode cX9_keep 16 = .ok (.getfield 19, 3) := by decide +kernel
theorem dX9_keep_19 : decode cX9_keep 19 = .ok (.invokevirtual 292, 3) := by decide +kernel
theorem dX9_keep_22 : decode cX9_keep 22 = .ok (.goto 4, 3) := by decide +kernel
theorem dX9_keep_25 : decode cX9_keep 25 = .ok (.iconst (-1), 1) := by decide +kernel
theorem dX9_keep_26 : decode cX9_keep 26 = .ok (.ireturn, 1) := by decide +kernel
theorem dX9_again_0 : decode cX9_again 0 = .ok (.iload_n 1, 1) := by decide +kernel
theorem dX9_again_1 : decode cX9_again 1 = .ok (.ifCond .lt 8, 3) := by decide +kernel
theorem dX9_again_4 : decode cX9_again 4 = .ok (.iload_n 1, 1) := by decide +kernel
theorem dX9_again_5 : decode cX9_again 5 = .ok (.iconst 2, 1) := by decide +kernel
theorem dX9_again_6 : decode cX9_again 6 = .ok (.if_icmp .lt 5, 3) := by decide +kernel
theorem dX9_again_9 : decode cX9_again 9 = .ok (.iconst (-1), 1) := by decide +kernel
theorem dX9_again_10 : decode cX9_again 10 = .ok (.ireturn, 1) := by decide +kernel
theorem dX9_again_11 : decode cX9_again 11 = .ok (.aload_n 0, 1) := by decide +kernel
theorem dX9_again_12 : decode cX9_again 12 = .ok (.getfield 40, 3) := by decide +kernel
theorem dX9_again_15 : decode cX9_again 15 = .ok (.iload_n 1, 1) := by decide +kernel
theorem dX9_again_16 : decode cX9_again 16 = .ok (.aload_n 0, 1) := by decide +kernel
theorem dX9_again_17 : decode cX9_again 17 = .ok (.getfield 19, 3) := by decide +kernel
theorem dX9_again_20 : decode cX9_again 20 = .ok (.invokevirtual 296, 3) := by decide +kernel
theorem dX9_again_23 : decode cX9_again 23 = .ok (.ifCond .ne 6, 3) := by decide +kernel
theorem dX9_again_26 : decode cX9_again 26 = .ok (.bipush (-3), 2) := by decide +kernel
theorem dX9_again_28 : decode cX9_again 28 = .ok (.ireturn, 1) := by decide +kernel
theorem dX9_again_29 : decode cX9_again 29 = .ok (.aload_n 0, 1) := by decide +kernel
theorem dX9_again_30 : decode cX9_again 30 = .ok (.getfield 26, 3) := by decide +kernel
theorem dX9_again_33 : decode cX9_again 33 = .ok (.invokevirtual 95, 3) := by decide +kernel
theorem dX9_again_36 : decode cX9_again 36 = .ok (.aload_n 0, 1) := by decide +kernel
theorem dX9_again_37 : decode cX9_again 37 = .ok (.getfield 19, 3) := by decide +kernel
theorem dX9_again_40 : decode cX9_again 40 = .ok (.invokevirtual 292, 3) := by decide +kernel
theorem dX9_again_43 : decode cX9_again 43 = .ok (.ireturn, 1) := by decide +kernel
theorem dX9_refusalOfThrow_0 : decode cX9_refusalOfThrow 0 = .ok (.aload_n 0, 1) := by decide +kernel
theorem dX9_refusalOfThrow_1 : decode cX9_refusalOfThrow 1 = .ok (.getfield 68, 3) := by decide +kernel
theorem dX9_refusalOfThrow_4 : decode cX9_refusalOfThrow 4 = .ok (.iload_n 1, 1) := by decide +kernel
theorem dX9_refusalOfThrow_5 : decode cX9_refusalOfThrow 5 = .ok (.invokevirtual 154, 3) := by decide +kernel
theorem dX9_refusalOfThrow_8 : decode cX9_refusalOfThrow 8 = .ok (.ifCond .ne 5, 3) := by decide +kernel
theorem dX9_refusalOfThrow_11 : decode cX9_refusalOfThrow 11 = .ok (.iconst (-1), 1) := by decide +kernel
theorem dX9_refusalOfThrow_12 : decode cX9_refusalOfThrow 12 = .ok (.ireturn, 1) := by decide +kernel
theorem dX9_refusalOfThrow_13 : decode cX9_refusalOfThrow 13 = .ok (.iload_n 2, 1) := by decide +kernel
theorem dX9_refusalOfThrow_14 : decode cX9_refusalOfThrow 14 = .ok (.invokestatic 259, 3) := by decide +kernel
theorem dX9_refusalOfThrow_17 : decode cX9_refusalOfThrow 17 = .ok (.ifCond .eq 17, 3) := by decide +kernel
theorem dX9_refusalOfThrow_20 : decode cX9_refusalOfThrow 20 = .ok (.iload_n 3, 1) := by decide +kernel
theorem dX9_refusalOfThrow_21 : decode cX9_refusalOfThrow 21 = .ok (.ifCond .lt 13, 3) := by decide +kernel
theorem dX9_refusalOfThrow_24 : decode cX9_refusalOfThrow 24 = .ok (.iload_n 3, 1) := by decide +kernel
theorem dX9_refusalOfThrow_25 : decode cX9_refusalOfThrow 25 = .ok (.iconst 2, 1) := by decide +kernel
theorem dX9_refusalOfThrow_26 : decode cX9_refusalOfThrow 26 = .ok (.if_icmp .gt 8, 3) := by decide +kernel
theorem dX9_refusalOfThrow_29 : decode cX9_refusalOfThrow 29 = .ok (.bipush (-9), 2) := by decide +kernel
theorem dX9_refusalOfThrow_31 : decode cX9_refusalOfThrow 31 = .ok (.goto 5, 3) := by decide +kernel
theorem dX9_refusalOfThrow_34 : decode cX9_refusalOfThrow 34 = .ok (.bipush (-2), 2) := by decide +kernel
theorem dX9_refusalOfThrow_36 : decode cX9_refusalOfThrow 36 = .ok (.ireturn, 1) := by decide +kernel
theorem dX9_isPlace_0 : decode cX9_isPlace 0 = .ok (.iload_n 0, 1) := by decide +kernel
theorem dX9_isPlace_1 : decode cX9_isPlace 1 = .ok (.ifCond .lt 13, 3) := by decide +kernel
theorem dX9_isPlace_4 : decode cX9_isPlace 4 = .ok (.iload_n 0, 1) := by decide +kernel
theorem dX9_isPlace_5 : decode cX9_isPlace 5 = .ok (.bipush 8, 2) := by decide +kernel
theorem dX9_isPlace_7 : decode cX9_isPlace 7 = .ok (.if_icmp .ge 7, 3) := by decide +kernel
theorem dX9_isPlace_10 : decode cX9_isPlace 10 = .ok (.iconst 1, 1) := by decide +kernel
theorem dX9_isPlace_11 : decode cX9_isPlace 11 = .ok (.goto 4, 3) := by decide +kernel
theorem dX9_isPlace_14 : decode cX9_isPlace 14 = .ok (.iconst 0, 1) := by decide +kernel
theorem dX9_isPlace_15 : decode cX9_isPlace 15 = .ok (.ireturn, 1) := by decide +kernel
theorem dX9_bit_0 : decode cX9_bit 0 = .ok (.iload_n 0, 1) := by decide +kernel
theorem dX9_bit_1 : decode cX9_bit 1 = .ok (.iload_n 1, 1) := by decide +kernel
theorem dX9_bit_2 : decode cX9_bit 2 = .ok (.ishr, 1) := by decide +kernel
theorem dX9_bit_3 : decode cX9_bit 3 = .ok (.iconst 1, 1) := by decide +kernel
theorem dX9_bit_4 : decode cX9_bit 4 = .ok (.iand, 1) := by decide +kernel
theorem dX9_bit_5 : decode cX9_bit 5 = .ok (.ireturn, 1) := by decide +kernel
theorem dX9_newStands_0 : decode cX9_newStands 0 = .ok (.iconst 0, 1) := by decide +kernel
theorem dX9_newStands_1 : decode cX9_newStands 1 = .ok (.iload_n 0, 1) := by decide +kernel
theorem dX9_newStands_2 : decode cX9_newStands 2 = .ok (.invokestatic 299, 3) := by decide +kernel
theorem dX9_newStands_5 : decode cX9_newStands 5 = .ok (.anewarray 16, 3) := by decide +kernel
theorem dX9_newStands_8 : decode cX9_newStands 8 = .ok (.astore_n 1, 1) := by decide +kernel
theorem dX9_newStands_9 : decode cX9_newStands 9 = .ok (.iconst 0, 1) := by decide +kernel
theorem dX9_newStands_10 : decode cX9_newStands 10 = .ok (.istore_n 2, 1) := by decide +kernel
theorem dX9_newStands_11 : decode cX9_newStands 11 = .ok (.iload_n 2, 1) := by decide +kernel
theorem dX9_newStands_12 : decode cX9_newStands 12 = .ok (.aload_n 1, 1) := by decide +kernel
theorem dX9_newStands_13 : decode cX9_newStands 13 = .ok (.arraylength, 1) := by decide +kernel
theorem dX9_newStands_14 : decode cX9_newStands 14 = .ok (.if_icmp .ge 19, 3) := by decide +kernel
theorem dX9_newStands_17 : decode cX9_newStands 17 = .ok (.aload_n 1, 1) := by decide +kernel
theorem dX9_newStands_18 : decode cX9_newStands 18 = .ok (.iload_n 2, 1) := by decide +kernel
theorem dX9_newStands_19 : decode cX9_newStands 19 = .ok (.new 16, 3) := by decide +kernel
theorem dX9_newStands_22 : decode cX9_newStands 22 = .ok (.dup, 1) := by decide +kernel
theorem dX9_newStands_23 : decode cX9_newStands 23 = .ok (.invokespecial 18, 3) := by decide +kernel
theorem dX9_newStands_26 : decode cX9_newStands 26 = .ok (.aastore, 1) := by decide +kernel
theorem dX9_newStands_27 : decode cX9_newStands 27 = .ok (.iinc 2 1, 3) := by decide +kernel
theorem dX9_newStands_30 : decode cX9_newStands 30 = .ok (.goto (-19), 3) := by decide +kernel
theorem dX9_newStands_33 : decode cX9_newStands 33 = .ok (.aload_n 1, 1) := by decide +kernel
theorem dX9_newStands_34 : decode cX9_newStands 34 = .ok (.areturn, 1) := by decide +kernel
theorem dX9_ordersOf_0 : decode cX9_ordersOf 0 = .ok (.iload_n 0, 1) := by decide +kernel
theorem dX9_ordersOf_1 : decode cX9_ordersOf 1 = .ok (.ifCond .lt 19, 3) := by decide +kernel
theorem dX9_ordersOf_4 : decode cX9_ordersOf 4 = .ok (.iload_n 0, 1) := by decide +kernel
theorem dX9_ordersOf_5 : decode cX9_ordersOf 5 = .ok (.getstatic 304, 3) := by decide +kernel
theorem dX9_ordersOf_8 : decode cX9_ordersOf 8 = .ok (.arraylength, 1) := by decide +kernel
theorem dX9_ordersOf_9 : decode cX9_ordersOf 9 = .ok (.if_icmp .ge 11, 3) := by decide +kernel
theorem dX9_ordersOf_12 : decode cX9_ordersOf 12 = .ok (.getstatic 304, 3) := by decide +kernel
theorem dX9_ordersOf_15 : decode cX9_ordersOf 15 = .ok (.iload_n 0, 1) := by decide +kernel
theorem dX9_ordersOf_16 : decode cX9_ordersOf 16 = .ok (.iaload, 1) := by decide +kernel
theorem dX9_ordersOf_17 : decode cX9_ordersOf 17 = .ok (.goto 4, 3) := by decide +kernel
theorem dX9_ordersOf_20 : decode cX9_ordersOf 20 = .ok (.iconst 1, 1) := by decide +kernel
theorem dX9_ordersOf_21 : decode cX9_ordersOf 21 = .ok (.ireturn, 1) := by decide +kernel
theorem dX9_hundreds_0 : decode cX9_hundreds 0 = .ok (.iload_n 0, 1) := by decide +kernel
theorem dX9_hundreds_1 : decode cX9_hundreds 1 = .ok (.ifCond .lt 19, 3) := by decide +kernel
theorem dX9_hundreds_4 : decode cX9_hundreds 4 = .ok (.iload_n 0, 1) := by decide +kernel
theorem dX9_hundreds_5 : decode cX9_hundreds 5 = .ok (.getstatic 307, 3) := by decide +kernel
theorem dX9_hundreds_8 : decode cX9_hundreds 8 = .ok (.arraylength, 1) := by decide +kernel
theorem dX9_hundreds_9 : decode cX9_hundreds 9 = .ok (.if_icmp .ge 11, 3) := by decide +kernel
theorem dX9_hundreds_12 : decode cX9_hundreds 12 = .ok (.getstatic 307, 3) := by decide +kernel
theorem dX9_hundreds_15 : decode cX9_hundreds 15 = .ok (.iload_n 0, 1) := by decide +kernel
theorem dX9_hundreds_16 : decode cX9_hundreds 16 = .ok (.iaload, 1) := by decide +kernel
theorem dX9_hundreds_17 : decode cX9_hundreds 17 = .ok (.goto 4, 3) := by decide +kernel
theorem dX9_hundreds_20 : decode cX9_hundreds 20 = .ok (.iconst 1, 1) := by decide +kernel
theorem dX9_hundreds_21 : decode cX9_hundreds 21 = .ok (.ireturn, 1) := by decide +kernel
theorem dX9_inLeastTerms_0 : decode cX9_inLeastTerms 0 = .ok (.iload_n 0, 1) := by decide +kernel
theorem dX9_inLeastTerms_1 : decode cX9_inLeastTerms 1 = .ok (.iload_n 1, 1) := by decide +kernel
theorem dX9_inLeastTerms_2 : decode cX9_inLeastTerms 2 = .ok (.invokestatic 310, 3) := by decide +kernel
theorem dX9_inLeastTerms_5 : decode cX9_inLeastTerms 5 = .ok (.istore_n 3, 1) := by decide +kernel
theorem dX9_inLeastTerms_6 : decode cX9_inLeastTerms 6 = .ok (.iload_n 3, 1) := by decide +kernel
theorem dX9_inLeastTerms_7 : decode cX9_inLeastTerms 7 = .ok (.ifCond .ne 5, 3) := by decide +kernel
theorem dX9_inLeastTerms_10 : decode cX9_inLeastTerms 10 = .ok (.iconst 0, 1) := by decide +kernel
theorem dX9_inLeastTerms_11 : decode cX9_inLeastTerms 11 = .ok (.ireturn, 1) := by decide +kernel
theorem dX9_inLeastTerms_12 : decode cX9_inLeastTerms 12 = .ok (.iload_n 2, 1) := by decide +kernel
theorem dX9_inLeastTerms_13 : decode cX9_inLeastTerms 13 = .ok (.ifCond .eq 7, 3) := by decide +kernel
theorem dX9_inLeastTerms_16 : decode cX9_inLeastTerms 16 = .ok (.iload_n 0, 1) := by decide +kernel
theorem dX9_inLeastTerms_17 : decode cX9_inLeastTerms 17 = .ok (.goto 4, 3) := by decide +kernel
theorem dX9_inLeastTerms_20 : decode cX9_inLeastTerms 20 = .ok (.iload_n 1, 1) := by decide +kernel
theorem dX9_inLeastTerms_21 : decode cX9_inLeastTerms 21 = .ok (.iload_n 3, 1) := by decide +kernel
theorem dX9_inLeastTerms_22 : decode cX9_inLeastTerms 22 = .ok (.idiv, 1) := by decide +kernel
theorem dX9_inLeastTerms_23 : decode cX9_inLeastTerms 23 = .ok (.ireturn, 1) := by decide +kernel
theorem dX9_commonDivisor_0 : decode cX9_commonDivisor 0 = .ok (.iload_n 0, 1) := by decide +kernel
theorem dX9_commonDivisor_1 : decode cX9_commonDivisor 1 = .ok (.istore_n 2, 1) := by decide +kernel
theorem dX9_commonDivisor_2 : decode cX9_commonDivisor 2 = .ok (.iload_n 1, 1) := by decide +kernel
theorem dX9_commonDivisor_3 : decode cX9_commonDivisor 3 = .ok (.istore_n 3, 1) := by decide +kernel
theorem dX9_commonDivisor_4 : decode cX9_commonDivisor 4 = .ok (.iconst 0, 1) := by decide +kernel
theorem dX9_commonDivisor_5 : decode cX9_commonDivisor 5 = .ok (.istore 4, 2) := by decide +kernel
theorem dX9_commonDivisor_7 : decode cX9_commonDivisor 7 = .ok (.iload 4, 2) := by decide +kernel
theorem dX9_commonDivisor_9 : decode cX9_commonDivisor 9 = .ok (.bipush 64, 2) := by decide +kernel
theorem dX9_commonDivisor_11 : decode cX9_commonDivisor 11 = .ok (.if_icmp .ge 23, 3) := by decide +kernel
theorem dX9_commonDivisor_14 : decode cX9_commonDivisor 14 = .ok (.iload_n 3, 1) := by decide +kernel
theorem dX9_commonDivisor_15 : decode cX9_commonDivisor 15 = .ok (.ifCond .eq 19, 3) := by decide +kernel
theorem dX9_commonDivisor_18 : decode cX9_commonDivisor 18 = .ok (.iload_n 2, 1) := by decide +kernel
theorem dX9_commonDivisor_19 : decode cX9_commonDivisor 19 = .ok (.iload_n 3, 1) := by decide +kernel
theorem dX9_commonDivisor_20 : decode cX9_commonDivisor 20 = .ok (.irem, 1) := by decide +kernel
theorem dX9_commonDivisor_21 : decode cX9_commonDivisor 21 = .ok (.istore 5, 2) := by decide +kernel
theorem dX9_commonDivisor_23 : decode cX9_commonDivisor 23 = .ok (.iload_n 3, 1) := by decide +kernel
theorem dX9_commonDivisor_24 : decode cX9_commonDivisor 24 = .ok (.istore_n 2, 1) := by decide +kernel
theorem dX9_commonDivisor_25 : decode cX9_commonDivisor 25 = .ok (.iload 5, 2) := by decide +kernel
theorem dX9_commonDivisor_27 : decode cX9_commonDivisor 27 = .ok (.istore_n 3, 1) := by decide +kernel
theorem dX9_commonDivisor_28 : decode cX9_commonDivisor 28 = .ok (.iinc 4 1, 3) := by decide +kernel
theorem dX9_commonDivisor_31 : decode cX9_commonDivisor 31 = .ok (.goto (-24), 3) := by decide +kernel
theorem dX9_commonDivisor_34 : decode cX9_commonDivisor 34 = .ok (.iload_n 2, 1) := by decide +kernel
theorem dX9_commonDivisor_35 : decode cX9_commonDivisor 35 = .ok (.ireturn, 1) := by decide +kernel
theorem dX10_init_0 : decode cX10_init 0 = .ok (.aload_n 0, 1) := by decide +kernel
theorem dX10_init_1 : decode cX10_init 1 = .ok (.invokespecial 1, 3) := by decide +kernel
theorem dX10_init_4 : decode cX10_init 4 = .ok (.aload_n 0, 1) := by decide +kernel
theorem dX10_init_5 : decode cX10_init 5 = .ok (.bipush 60, 2) := by decide +kernel
theorem dX10_init_7 : decode cX10_init 7 = .ok (.newarray .int, 2) := by decide +kernel
theorem dX10_init_9 : decode cX10_init 9 = .ok (.putfield 7, 3) := by decide +kernel
theorem dX10_init_12 : decode cX10_init 12 = .ok (.aload_n 0, 1) := by decide +kernel
theorem dX10_init_13 : decode cX10_init 13 = .ok (.bipush 15, 2) := by decide +kernel
theorem dX10_init_15 : decode cX10_init 15 = .ok (.newarray .int, 2) := by decide +kernel
theorem dX10_init_17 : decode cX10_init 17 = .ok (.putfield 13, 3) := by decide +kernel
theorem dX10_init_20 : decode cX10_init 20 = .ok (.aload_n 0, 1) := by decide +kernel
theorem dX10_init_21 : decode cX10_init 21 = .ok (.bipush 12, 2) := by decide +kernel
theorem dX10_init_23 : decode cX10_init 23 = .ok (.newarray .int, 2) := by decide +kernel
theorem dX10_init_25 : decode cX10_init 25 = .ok (.putfield 16, 3) := by decide +kernel
theorem dX10_init_28 : decode cX10_init 28 = .ok (.aload_n 0, 1) := by decide +kernel
theorem dX10_init_29 : decode cX10_init 29 = .ok (.bipush 12, 2) := by decide +kernel
theorem dX10_init_31 : decode cX10_init 31 = .ok (.newarray .int, 2) := by decide +kernel
theorem dX10_init_33 : decode cX10_init 33 = .ok (.putfield 19, 3) := by decide +kernel
theorem dX10_init_36 : decode cX10_init 36 = .ok (.aload_n 0, 1) := by decide +kernel
theorem dX10_init_37 : decode cX10_init 37 = .ok (.bipush 15, 2) := by decide +kernel
theorem dX10_init_39 : decode cX10_init 39 = .ok (.newarray .int, 2) := by decide +kernel
theorem dX10_init_41 : decode cX10_init 41 = .ok (.putfield 22, 3) := by decide +kernel
theorem dX10_init_44 : decode cX10_init 44 = .ok (.aload_n 0, 1) := by decide +kernel
theorem dX10_init_45 : decode cX10_init 45 = .ok (.bipush 12, 2) := by decide +kernel
theorem dX10_init_47 : decode cX10_init 47 = .ok (.newarray .int, 2) := by decide +kernel
theorem dX10_init_49 : decode cX10_init 49 = .ok (.putfield 25, 3) := by decide +kernel
theorem dX10_init_52 : decode cX10_init 52 = .ok (.aload_n 0, 1) := by decide +kernel
theorem dX10_init_53 : decode cX10_init 53 = .ok (.bipush 12, 2) := by decide +kernel
theorem dX10_init_55 : decode cX10_init 55 = .ok (.newarray .int, 2) := by decide +kernel
theorem dX10_init_57 : decode cX10_init 57 = .ok (.putfield 28, 3) := by decide +kernel
theorem dX10_init_60 : decode cX10_init 60 = .ok (.aload_n 0, 1) := by decide +kernel
theorem dX10_init_61 : decode cX10_init 61 = .ok (.bipush 15, 2) := by decide +kernel
theorem dX10_init_63 : decode cX10_init 63 = .ok (.newarray .int, 2) := by decide +kernel
theorem dX10_init_65 : decode cX10_init 65 = .ok (.putfield 31, 3) := by decide +kernel
theorem dX10_init_68 : decode cX10_init 68 = .ok (.aload_n 0, 1) := by decide +kernel
theorem dX10_init_69 : decode cX10_init 69 = .ok (.bipush 15, 2) := by decide +kernel
theorem dX10_init_71 : decode cX10_init 71 = .ok (.newarray .int, 2) := by decide +kernel
theorem dX10_init_73 : decode cX10_init 73 = .ok (.putfield 34, 3) := by decide +kernel
theorem dX10_init_76 : decode cX10_init 76 = .ok (.aload_n 0, 1) := by decide +kernel
theorem dX10_init_77 : decode cX10_init 77 = .ok (.bipush 15, 2) := by decide +kernel
theorem dX10_init_79 : decode cX10_init 79 = .ok (.newarray .int, 2) := by decide +kernel
theorem dX10_init_81 : decode cX10_init 81 = .ok (.putfield 37, 3) := by decide +kernel
theorem dX10_init_84 : decode cX10_init 84 = .ok (.aload_n 0, 1) := by decide +kernel
theorem dX10_init_85 : decode cX10_init 85 = .ok (.sipush 210, 3) := by decide +kernel
theorem dX10_init_88 : decode cX10_init 88 = .ok (.newarray .int, 2) := by decide +kernel
theorem dX10_init_90 : decode cX10_init 90 = .ok (.putfield 40, 3) := by decide +kernel
theorem dX10_init_93 : decode cX10_init 93 = .ok (.aload_n 0, 1) := by decide +kernel
theorem dX10_init_94 : decode cX10_init 94 = .ok (.bipush 30, 2) := by decide +kernel
theorem dX10_init_96 : decode cX10_init 96 = .ok (.newarray .int, 2) := by decide +kernel
theorem dX10_init_98 : decode cX10_init 98 = .ok (.putfield 43, 3) := by decide +kernel
theorem dX10_init_101 : decode cX10_init 101 = .ok (.aload_n 0, 1) := by decide +kernel
theorem dX10_init_102 : decode cX10_init 102 = .ok (.iconst 2, 1) := by decide +kernel
theorem dX10_init_103 : decode cX10_init 103 = .ok (.newarray .boolean, 2) := by decide +kernel
theorem dX10_init_105 : decode cX10_init 105 = .ok (.putfield 46, 3) := by decide +kernel
theorem dX10_init_108 : decode cX10_init 108 = .ok (.aload_n 0, 1) := by decide +kernel
theorem dX10_init_109 : decode cX10_init 109 = .ok (.bipush 6, 2) := by decide +kernel
theorem dX10_init_111 : decode cX10_init 111 = .ok (.newarray .int, 2) := by decide +kernel
theorem dX10_init_113 : decode cX10_init 113 = .ok (.putfield 50, 3) := by decide +kernel
theorem dX10_init_116 : decode cX10_init 116 = .ok (.aload_n 0, 1) := by decide +kernel
theorem dX10_init_117 : decode cX10_init 117 = .ok (.bipush 6, 2) := by decide +kernel
theorem dX10_init_119 : decode cX10_init 119 = .ok (.newarray .int, 2) := by decide +kernel
theorem dX10_init_121 : decode cX10_init 121 = .ok (.putfield 53, 3) := by decide +kernel
theorem dX10_init_124 : decode cX10_init 124 = .ok (.aload_n 0, 1) := by decide +kernel
theorem dX10_init_125 : decode cX10_init 125 = .ok (.bipush 6, 2) := by decide +kernel
theorem dX10_init_127 : decode cX10_init 127 = .ok (.newarray .int, 2) := by decide +kernel
theorem dX10_init_129 : decode cX10_init 129 = .ok (.putfield 56, 3) := by decide +kernel
theorem dX10_init_132 : decode cX10_init 132 = .ok (.aload_n 0, 1) := by decide +kernel
theorem dX10_init_133 : decode cX10_init 133 = .ok (.bipush 6, 2) := by decide +kernel
theorem dX10_init_135 : decode cX10_init 135 = .ok (.newarray .int, 2) := by decide +kernel
theorem dX10_init_137 : decode cX10_init 137 = .ok (.putfield 59, 3) := by decide +kernel
theorem dX10_init_140 : decode cX10_init 140 = .ok (.aload_n 0, 1) := by decide +kernel
theorem dX10_init_141 : decode cX10_init 141 = .ok (.bipush 6, 2) := by decide +kernel
theorem dX10_init_143 : decode cX10_init 143 = .ok (.newarray .int, 2) := by decide +kernel
theorem dX10_init_145 : decode cX10_init 145 = .ok (.putfield 62, 3) := by decide +kernel
theorem dX10_init_148 : decode cX10_init 148 = .ok (.aload_n 0, 1) := by decide +kernel
theorem dX10_init_149 : decode cX10_init 149 = .ok (.bipush 72, 2) := by decide +kernel
theorem dX10_init_151 : decode cX10_init 151 = .ok (.newarray .int, 2) := by decide +kernel
theorem dX10_init_153 : decode cX10_init 153 = .ok (.putfield 65, 3) := by decide +kernel
theorem dX10_init_156 : decode cX10_init 156 = .ok (.aload_n 0, 1) := by decide +kernel
theorem dX10_init_157 : decode cX10_init 157 = .ok (.bipush 16, 2) := by decide +kernel
theorem dX10_init_159 : decode cX10_init 159 = .ok (.newarray .int, 2) := by decide +kernel
theorem dX10_init_161 : decode cX10_init 161 = .ok (.putfield 68, 3) := by decide +kernel
theorem dX10_init_164 : decode cX10_init 164 = .ok (.aload_n 0, 1) := by decide +kernel
theorem dX10_init_165 : decode cX10_init 165 = .ok (.getfield 31, 3) := by decide +kernel
theorem dX10_init_168 : decode cX10_init 168 = .ok (.bipush 13, 2) := by decide +kernel
theorem dX10_init_170 : decode cX10_init 170 = .ok (.iconst 1, 1) := by decide +kernel
theorem dX10_init_171 : decode cX10_init 171 = .ok (.iastore, 1) := by decide +kernel
theorem dX10_init_172 : decode cX10_init 172 = .ok (.return_, 1) := by decide +kernel
theorem dX10_in_0 : decode cX10_in 0 = .ok (.lload_n 0, 1) := by decide +kernel
theorem dX10_in_1 : decode cX10_in 1 = .ok (.lload_n 2, 1) := by decide +kernel
theorem dX10_in_2 : decode cX10_in 2 = .ok (.lcmp, 1) := by decide +kernel
theorem dX10_in_3 : decode cX10_in 3 = .ok (.ifCond .lt 14, 3) := by decide +kernel
theorem dX10_in_6 : decode cX10_in 6 = .ok (.lload_n 0, 1) := by decide +kernel
theorem dX10_in_7 : decode cX10_in 7 = .ok (.lload 4, 2) := by decide +kernel
theorem dX10_in_9 : decode cX10_in 9 = .ok (.lcmp, 1) := by decide +kernel
theorem dX10_in_10 : decode cX10_in 10 = .ok (.ifCond .gt 7, 3) := by decide +kernel
theorem dX10_in_13 : decode cX10_in 13 = .ok (.iconst 1, 1) := by decide +kernel
theorem dX10_in_14 : decode cX10_in 14 = .ok (.goto 4, 3) := by decide +kernel
theorem dX10_in_17 : decode cX10_in 17 = .ok (.iconst 0, 1) := by decide +kernel
theorem dX10_in_18 : decode cX10_in 18 = .ok (.ireturn, 1) := by decide +kernel
theorem dX10_has_0 : decode cX10_has 0 = .ok (.iload_n 0, 1) := by decide +kernel
theorem dX10_has_1 : decode cX10_has 1 = .ok (.iload_n 1, 1) := by decide +kernel
theorem dX10_has_2 : decode cX10_has 2 = .ok (.ishr, 1) := by decide +kernel
theorem dX10_has_3 : decode cX10_has 3 = .ok (.iconst 1, 1) := by decide +kernel
theorem dX10_has_4 : decode cX10_has 4 = .ok (.iand, 1) := by decide +kernel
theorem dX10_has_5 : decode cX10_has 5 = .ok (.iconst 1, 1) := by decide +kernel
theorem dX10_has_6 : decode cX10_has 6 = .ok (.if_icmp .ne 7, 3) := by decide +kernel
theorem dX10_has_9 : decode cX10_has 9 = .ok (.iconst 1, 1) := by decide +kernel
theorem dX10_has_10 : decode cX10_has 10 = .ok (.goto 4, 3) := by decide +kernel
theorem dX10_has_13 : decode cX10_has 13 = .ok (.iconst 0, 1) := by decide +kernel
theorem dX10_has_14 : decode cX10_has 14 = .ok (.ireturn, 1) := by decide +kernel
theorem dX10_many_0 : decode cX10_many 0 = .ok (.iconst 0, 1) := by decide +kernel
theorem dX10_many_1 : decode cX10_many 1 = .ok (.istore_n 1, 1) := by decide +kernel
theorem dX10_many_2 : decode cX10_many 2 = .ok (.iconst 0, 1) := by decide +kernel
theorem dX10_many_3 : decode cX10_many 3 = .ok (.istore_n 2, 1) := by decide +kernel
theorem dX10_many_4 : decode cX10_many 4 = .ok (.iload_n 2, 1) := by decide +kernel
theorem dX10_many_5 : decode cX10_many 5 = .ok (.iconst 5, 1) := by decide +kernel
theorem dX10_many_6 : decode cX10_many 6 = .ok (.if_icmp .ge 17, 3) := by decide +kernel
theorem dX10_many_9 : decode cX10_many 9 = .ok (.iload_n 1, 1) := by decide +kernel
theorem dX10_many_10 : decode cX10_many 10 = .ok (.iload_n 0, 1) := by decide +kernel
theorem dX10_many_11 : decode cX10_many 11 = .ok (.iload_n 2, 1) := by decide +kernel
theorem dX10_many_12 : decode cX10_many 12 = .ok (.ishr, 1) := by decide +kernel
theorem dX10_many_13 : decode cX10_many 13 = .ok (.iconst 1, 1) := by decide +kernel
theorem dX10_many_14 : decode cX10_many 14 = .ok (.iand, 1) := by decide +kernel
theorem dX10_many_15 : decode cX10_many 15 = .ok (.iadd, 1) := by decide +kernel
theorem dX10_many_16 : decode cX10_many 16 = .ok (.istore_n 1, 1) := by decide +kernel
theorem dX10_many_17 : decode cX10_many 17 = .ok (.iinc 2 1, 3) := by decide +kernel
theorem dX10_many_20 : decode cX10_many 20 = .ok (.goto (-16), 3) := by decide +kernel
theorem dX10_many_23 : decode cX10_many 23 = .ok (.iload_n 1, 1) := by decide +kernel
theorem dX10_many_24 : decode cX10_many 24 = .ok (.ireturn, 1) := by decide +kernel
theorem dX10_noHusk_0 : decode cX10_noHusk 0 = .ok (.iload_n 1, 1) := by decide +kernel
theorem dX10_noHusk_1 : decode cX10_noHusk 1 = .ok (.i2l, 1) := by decide +kernel
theorem dX10_noHusk_2 : decode cX10_noHusk 2 = .ok (.lconst 0, 1) := by decide +kernel
theorem dX10_noHusk_3 : decode cX10_noHusk 3 = .ok (.aload_n 0, 1) := by decide +kernel
theorem dX10_noHusk_4 : decode cX10_noHusk 4 = .ok (.getfield 75, 3) := by decide +kernel
theorem dX10_noHusk_7 : decode cX10_noHusk 7 = .ok (.iconst 1, 1) := by decide +kernel
theorem dX10_noHusk_8 : decode cX10_noHusk 8 = .ok (.isub, 1) := by decide +kernel
theorem dX10_noHusk_9 : decode cX10_noHusk 9 = .ok (.i2l, 1) := by decide +kernel
theorem dX10_noHusk_10 : decode cX10_noHusk 10 = .ok (.invokestatic 78, 3) := by decide +kernel
theorem dX10_noHusk_13 : decode cX10_noHusk 13 = .ok (.ifCond .ne 7, 3) := by decide +kernel
theorem dX10_noHusk_16 : decode cX10_noHusk 16 = .ok (.iconst 1, 1) := by decide +kernel
theorem dX10_noHusk_17 : decode cX10_noHusk 17 = .ok (.goto 4, 3) := by decide +kernel
theorem dX10_noHusk_20 : decode cX10_noHusk 20 = .ok (.iconst 0, 1) := by decide +kernel
theorem dX10_noHusk_21 : decode cX10_noHusk 21 = .ok (.ireturn, 1) := by decide +kernel
theorem dX10_noThrower_0 : decode cX10_noThrower 0 = .ok (.iload_n 1, 1) := by decide +kernel
theorem dX10_noThrower_1 : decode cX10_noThrower 1 = .ok (.i2l, 1) := by decide +kernel
theorem dX10_noThrower_2 : decode cX10_noThrower 2 = .ok (.lconst 0, 1) := by decide +kernel
theorem dX10_noThrower_3 : decode cX10_noThrower 3 = .ok (.aload_n 0, 1) := by decide +kernel
theorem dX10_noThrower_4 : decode cX10_noThrower 4 = .ok (.getfield 82, 3) := by decide +kernel
theorem dX10_noThrower_7 : decode cX10_noThrower 7 = .ok (.iconst 1, 1) := by decide +kernel
theorem dX10_noThrower_8 : decode cX10_noThrower 8 = .ok (.isub, 1) := by decide +kernel
theorem dX10_noThrower_9 : decode cX10_noThrower 9 = .ok (.i2l, 1) := by decide +kernel
theorem dX10_noThrower_10 : decode cX10_noThrower 10 = .ok (.invokestatic 78, 3) := by decide +kernel
theorem dX10_noThrower_13 : decode cX10_noThrower 13 = .ok (.ifCond .ne 7, 3) := by decide +kernel
theorem dX10_noThrower_16 : decode cX10_noThrower 16 = .ok (.iconst 1, 1) := by decide +kernel
theorem dX10_noThrower_17 : decode cX10_noThrower 17 = .ok (.goto 4, 3) := by decide +kernel
theorem dX10_noThrower_20 : decode cX10_noThrower 20 = .ok (.iconst 0, 1) := by decide +kernel
theorem dX10_noThrower_21 : decode cX10_noThrower 21 = .ok (.ireturn, 1) := by decide +kernel
theorem dX10_write_0 : decode cX10_write 0 = .ok (.aload_n 0, 1) := by decide +kernel
theorem dX10_write_1 : decode cX10_write 1 = .ok (.iconst 0, 1) := by decide +kernel
theorem dX10_write_2 : decode cX10_write 2 = .ok (.putfield 71, 3) := by decide +kernel
theorem dX10_write_5 : decode cX10_write 5 = .ok (.iload_n 1, 1) := by decide +kernel
theorem dX10_write_6 : decode cX10_write 6 = .ok (.i2l, 1) := by decide +kernel
theorem dX10_write_7 : decode cX10_write 7 = .ok (.lconst 0, 1) := by decide +kernel
theorem dX10_write_8 : decode cX10_write 8 = .ok (.ldc2_w 85, 3) := by decide +kernel
theorem dX10_write_11 : decode cX10_write 11 = .ok (.invokestatic 78, 3) := by decide +kernel
theorem dX10_write_14 : decode cX10_write 14 = .ok (.ifCond .ne 6, 3) := by decide +kernel
theorem dX10_write_17 : decode cX10_write 17 = .ok (.bipush (-2), 2) := by decide +kernel
theorem dX10_write_19 : decode cX10_write 19 = .ok (.ireturn, 1) := by decide +kernel
theorem dX10_write_20 : decode cX10_write 20 = .ok (.aload_n 0, 1) := by decide +kernel
theorem dX10_write_21 : decode cX10_write 21 = .ok (.getfield 87, 3) := by decide +kernel
theorem dX10_write_24 : decode cX10_write 24 = .ok (.bipush 60, 2) := by decide +kernel
theorem dX10_write_26 : decode cX10_write 26 = .ok (.if_icmp .ne 6, 3) := by decide +kernel
theorem dX10_write_29 : decode cX10_write 29 = .ok (.bipush (-4), 2) := by decide +kernel
theorem dX10_write_31 : decode cX10_write 31 = .ok (.ireturn, 1) := by decide +kernel
theorem dX10_write_32 : decode cX10_write 32 = .ok (.aload_n 0, 1) := by decide +kernel
theorem dX10_write_33 : decode cX10_write 33 = .ok (.getfield 7, 3) := by decide +kernel
theorem dX10_write_36 : decode cX10_write 36 = .ok (.aload_n 0, 1) := by decide +kernel
theorem dX10_write_37 : decode cX10_write 37 = .ok (.getfield 87, 3) := by decide +kernel
theorem dX10_write_40 : decode cX10_write 40 = .ok (.iload_n 1, 1) := by decide +kernel
theorem dX10_write_41 : decode cX10_write 41 = .ok (.iastore, 1) := by decide +kernel
theorem dX10_write_42 : decode cX10_write 42 = .ok (.aload_n 0, 1) := by decide +kernel
theorem dX10_write_43 : decode cX10_write 43 = .ok (.dup, 1) := by decide +kernel
theorem dX10_write_44 : decode cX10_write 44 = .ok (.getfield 87, 3) := by decide +kernel
theorem dX10_write_47 : decode cX10_write 47 = .ok (.iconst 1, 1) := by decide +kernel
theorem dX10_write_48 : decode cX10_write 48 = .ok (.iadd, 1) := by decide +kernel
theorem dX10_write_49 : decode cX10_write 49 = .ok (.putfield 87, 3) := by decide +kernel
theorem dX10_write_52 : decode cX10_write 52 = .ok (.aload_n 0, 1) := by decide +kernel
theorem dX10_write_53 : decode cX10_write 53 = .ok (.getfield 87, 3) := by decide +kernel
theorem dX10_write_56 : decode cX10_write 56 = .ok (.ireturn, 1) := by decide +kernel
theorem dX10_wipe_0 : decode cX10_wipe 0 = .ok (.aload_n 0, 1) := by decide +kernel
theorem dX10_wipe_1 : decode cX10_wipe 1 = .ok (.iconst 0, 1) := by decide +kernel
theorem dX10_wipe_2 : decode cX10_wipe 2 = .ok (.putfield 71, 3) := by decide +kernel
theorem dX10_wipe_5 : decode cX10_wipe 5 = .ok (.aload_n 0, 1) := by decide +kernel
theorem dX10_wipe_6 : decode cX10_wipe 6 = .ok (.getfield 87, 3) := by decide +kernel
theorem dX10_wipe_9 : decode cX10_wipe 9 = .ok (.istore_n 1, 1) := by decide +kernel
theorem dX10_wipe_10 : decode cX10_wipe 10 = .ok (.aload_n 0, 1) := by decide +kernel
theorem dX10_wipe_11 : decode cX10_wipe 11 = .ok (.iconst 0, 1) := by decide +kernel
theorem dX10_wipe_12 : decode cX10_wipe 12 = .ok (.putfield 87, 3) := by decide +kernel
theorem dX10_wipe_15 : decode cX10_wipe 15 = .ok (.iload_n 1, 1) := by decide +kernel
theorem dX10_wipe_16 : decode cX10_wipe 16 = .ok (.ireturn, 1) := by decide +kernel
theorem dX10_figure_0 : decode cX10_figure 0 = .ok (.aload_n 0, 1) := by decide +kernel
theorem dX10_figure_1 : decode cX10_figure 1 = .ok (.getfield 90, 3) := by decide +kernel
theorem dX10_figure_4 : decode cX10_figure 4 = .ok (.aload_n 0, 1) := by decide +kernel
theorem dX10_figure_5 : decode cX10_figure 5 = .ok (.getfield 87, 3) := by decide +kernel
theorem dX10_figure_8 : decode cX10_figure 8 = .ok (.if_icmp .eq 26, 3) := by decide +kernel
theorem dX10_figure_11 : decode cX10_figure 11 = .ok (.aload_n 0, 1) := by decide +kernel
theorem dX10_figure_12 : decode cX10_figure 12 = .ok (.getfield 7, 3) := by decide +kernel
theorem dX10_figure_15 : decode cX10_figure 15 = .ok (.aload_n 0, 1) := by decide +kernel
theorem dX10_figure_16 : decode cX10_figure 16 = .ok (.getfield 90, 3) := by decide +kernel
theorem dX10_figure_19 : decode cX10_figure 19 = .ok (.iaload, 1) := by decide +kernel
theorem dX10_figure_20 : decode cX10_figure 20 = .ok (.bipush 48, 2) := by decide +kernel
theorem dX10_figure_22 : decode cX10_figure 22 = .ok (.isub, 1) := by decide +kernel
theorem dX10_figure_23 : decode cX10_figure 23 = .ok (.i2l, 1) := by decide +kernel
theorem dX10_figure_24 : decode cX10_figure 24 = .ok (.iload_n 1, 1) := by decide +kernel
theorem dX10_figure_25 : decode cX10_figure 25 = .ok (.i2l, 1) := by decide +kernel
theorem dX10_figure_26 : decode cX10_figure 26 = .ok (.iload_n 2, 1) := by decide +kernel
theorem dX10_figure_27 : decode cX10_figure 27 = .ok (.i2l, 1) := by decide +kernel
theorem dX10_figure_28 : decode cX10_figure 28 = .ok (.invokestatic 78, 3) := by decide +kernel
theorem dX10_figure_31 : decode cX10_figure 31 = .ok (.ifCond .ne 6, 3) := by decide +kernel
theorem dX10_figure_34 : decode cX10_figure 34 = .ok (.bipush (-9), 2) := by decide +kernel
theorem dX10_figure_36 : decode cX10_figure 36 = .ok (.ireturn, 1) := by decide +kernel
theorem dX10_figure_37 : decode cX10_figure 37 = .ok (.aload_n 0, 1) := by decide +kernel
theorem dX10_figure_38 : decode cX10_figure 38 = .ok (.dup, 1) := by decide +kernel
theorem dX10_figure_39 : decode cX10_figure 39 = .ok (.getfield 90, 3) := by decide +kernel
theorem dX10_figure_42 : decode cX10_figure 42 = .ok (.iconst 1, 1) := by decide +kernel
theorem dX10_figure_43 : decode cX10_figure 43 = .ok (.iadd, 1) := by decide +kernel
theorem dX10_figure_44 : decode cX10_figure 44 = .ok (.putfield 90, 3) := by decide +kernel
theorem dX10_figure_47 : decode cX10_figure 47 = .ok (.aload_n 0, 1) := by decide +kernel
theorem dX10_figure_48 : decode cX10_figure 48 = .ok (.getfield 7, 3) := by decide +kernel
theorem dX10_figure_51 : decode cX10_figure 51 = .ok (.aload_n 0, 1) := by decide +kernel
theorem dX10_figure_52 : decode cX10_figure 52 = .ok (.getfield 90, 3) := by decide +kernel
theorem dX10_figure_55 : decode cX10_figure 55 = .ok (.iconst 1, 1) := by decide +kernel
theorem dX10_figure_56 : decode cX10_figure 56 = .ok (.isub, 1) := by decide +kernel
theorem dX10_figure_57 : decode cX10_figure 57 = .ok (.iaload, 1) := by decide +kernel
theorem dX10_figure_58 : decode cX10_figure 58 = .ok (.bipush 48, 2) := by decide +kernel
theorem dX10_figure_60 : decode cX10_figure 60 = .ok (.isub, 1) := by decide +kernel
theorem dX10_figure_61 : decode cX10_figure 61 = .ok (.ireturn, 1) := by decide +kernel
theorem dX10_readPlace_0 : decode cX10_readPlace 0 = .ok (.aload_n 0, 1) := by decide +kernel
theorem dX10_readPlace_1 : decode cX10_readPlace 1 = .ok (.getfield 90, 3) := by decide +kernel
theorem dX10_readPlace_4 : decode cX10_readPlace 4 = .ok (.aload_n 0, 1) := by decide +kernel
theorem dX10_readPlace_5 : decode cX10_readPlace 5 = .ok (.getfield 87, 3) := by decide +kernel
theorem dX10_readPlace_8 : decode cX10_readPlace 8 = .ok (.if_icmp .ne 8, 3) := by decide +kernel
theorem dX10_readPlace_11 : decode cX10_readPlace 11 = .ok (.bipush (-9), 2) := by decide +kernel
theorem dX10_readPlace_13 : decode cX10_readPlace 13 = .ok (.goto 15, 3) := by decide +kernel
theorem dX10_readPlace_16 : decode cX10_readPlace 16 = .ok (.aload_n 0, 1) := by decide +kernel
theorem dX10_readPlace_17 : decode cX10_readPlace 17 = .ok (.getfield 7, 3) := by decide +kernel
theorem dX10_readPlace_20 : decode cX10_readPlace 20 = .ok (.aload_n 0, 1) := by decide +kernel
theorem dX10_readPlace_21 : decode cX10_readPlace 21 = .ok (.getfield 90, 3) := by decide +kernel
theorem dX10_readPlace_24 : decode cX10_readPlace 24 = .ok (.iaload, 1) := by decide +kernel
theorem dX10_readPlace_25 : decode cX10_readPlace 25 = .ok (.bipush 48, 2) := by decide +kernel
theorem dX10_readPlace_27 : decode cX10_readPlace 27 = .ok (.isub, 1) := by decide +kernel
theorem dX10_readPlace_28 : decode cX10_readPlace 28 = .ok (.istore_n 1, 1) := by decide +kernel
theorem dX10_readPlace_29 : decode cX10_readPlace 29 = .ok (.iload_n 1, 1) := by decide +kernel
theorem dX10_readPlace_30 : decode cX10_readPlace 30 = .ok (.i2l, 1) := by decide +kernel
theorem dX10_readPlace_31 : decode cX10_readPlace 31 = .ok (.lconst 0, 1) := by decide +kernel
theorem dX10_readPlace_32 : decode cX10_readPlace 32 = .ok (.ldc2_w 93, 3) := by decide +kernel
theorem dX10_readPlace_35 : decode cX10_readPlace 35 = .ok (.invokestatic 78, 3) := by decide +kernel
theorem dX10_readPlace_38 : decode cX10_readPlace 38 = .ok (.istore_n 2, 1) := by decide +kernel
theorem dX10_readPlace_39 : decode cX10_readPlace 39 = .ok (.iconst 0, 1) := by decide +kernel
theorem dX10_readPlace_40 : decode cX10_readPlace 40 = .ok (.istore_n 3, 1) := by decide +kernel
theorem dX10_readPlace_41 : decode cX10_readPlace 41 = .ok (.iload_n 3, 1) := by decide +kernel
theorem dX10_readPlace_42 : decode cX10_readPlace 42 = .ok (.aload_n 0, 1) := by decide +kernel
theorem dX10_readPlace_43 : decode cX10_readPlace 43 = .ok (.getfield 95, 3) := by decide +kernel
theorem dX10_readPlace_46 : decode cX10_readPlace 46 = .ok (.if_icmp .ge 31, 3) := by decide +kernel
theorem dX10_readPlace_49 : decode cX10_readPlace 49 = .ok (.iload_n 2, 1) := by decide +kernel
theorem dX10_readPlace_50 : decode cX10_readPlace 50 = .ok (.ifCond .eq 19, 3) := by decide +kernel
theorem dX10_readPlace_53 : decode cX10_readPlace 53 = .ok (.aload_n 0, 1) := by decide +kernel
theorem dX10_readPlace_54 : decode cX10_readPlace 54 = .ok (.getfield 22, 3) := by decide +kernel
theorem dX10_readPlace_57 : decode cX10_readPlace 57 = .ok (.iconst 3, 1) := by decide +kernel
theorem dX10_readPlace_58 : decode cX10_readPlace 58 = .ok (.iload_n 3, 1) := by decide +kernel
theorem dX10_readPlace_59 : decode cX10_readPlace 59 = .ok (.imul, 1) := by decide +kernel
theorem dX10_readPlace_60 : decode cX10_readPlace 60 = .ok (.iaload, 1) := by decide +kernel
theorem dX10_readPlace_61 : decode cX10_readPlace 61 = .ok (.iload_n 1, 1) := by decide +kernel
theorem dX10_readPlace_62 : decode cX10_readPlace 62 = .ok (.if_icmp .eq 7, 3) := by decide +kernel
theorem dX10_readPlace_65 : decode cX10_readPlace 65 = .ok (.iconst 1, 1) := by decide +kernel
theorem dX10_readPlace_66 : decode cX10_readPlace 66 = .ok (.goto 4, 3) := by decide +kernel
theorem dX10_readPlace_69 : decode cX10_readPlace 69 = .ok (.iconst 0, 1) := by decide +kernel
theorem dX10_readPlace_70 : decode cX10_readPlace 70 = .ok (.istore_n 2, 1) := by decide +kernel
theorem dX10_readPlace_71 : decode cX10_readPlace 71 = .ok (.iinc 3 1, 3) := by decide +kernel
theorem dX10_readPlace_74 : decode cX10_readPlace 74 = .ok (.goto (-33), 3) := by decide +kernel
theorem dX10_readPlace_77 : decode cX10_readPlace 77 = .ok (.aload_n 0, 1) := by decide +kernel
theorem dX10_readPlace_78 : decode cX10_readPlace 78 = .ok (.dup, 1) := by decide +kernel
theorem dX10_readPlace_79 : decode cX10_readPlace 79 = .ok (.getfield 90, 3) := by decide +kernel
theorem dX10_readPlace_82 : decode cX10_readPlace 82 = .ok (.iload_n 2, 1) := by decide +kernel
theorem dX10_readPlace_83 : decode cX10_readPlace 83 = .ok (.ifCond .eq 7, 3) := by decide +kernel
theorem dX10_readPlace_86 : decode cX10_readPlace 86 = .ok (.iconst 1, 1) := by decide +kernel
theorem dX10_readPlace_87 : decode cX10_readPlace 87 = .ok (.goto 4, 3) := by decide +kernel
theorem dX10_readPlace_90 : decode cX10_readPlace 90 = .ok (.iconst 0, 1) := by decide +kernel
theorem dX10_readPlace_91 : decode cX10_readPlace 91 = .ok (.iadd, 1) := by decide +kernel
theorem dX10_readPlace_92 : decode cX10_readPlace 92 = .ok (.putfield 90, 3) := by decide +kernel
theorem dX10_readPlace_95 : decode cX10_readPlace 95 = .ok (.iload_n 2, 1) := by decide +kernel
theorem dX10_readPlace_96 : decode cX10_readPlace 96 = .ok (.ifCond .eq 7, 3) := by decide +kernel
theorem dX10_readPlace_99 : decode cX10_readPlace 99 = .ok (.iload_n 1, 1) := by decide +kernel
theorem dX10_readPlace_100 : decode cX10_readPlace 100 = .ok (.goto 5, 3) := by decide +kernel
theorem dX10_readPlace_103 : decode cX10_readPlace 103 = .ok (.bipush (-9), 2) := by decide +kernel
theorem dX10_readPlace_105 : decode cX10_readPlace 105 = .ok (.ireturn, 1) := by decide +kernel
theorem dX10_readOneHusk_0 : decode cX10_readOneHusk 0 = .ok (.aload_n 0, 1) := by decide +kernel
theorem dX10_readOneHusk_1 : decode cX10_readOneHusk 1 = .ok (.invokevirtual 98, 3) := by decide +kernel
theorem dX10_readOneHusk_4 : decode cX10_readOneHusk 4 = .ok (.istore_n 1, 1) := by decide +kernel
theorem dX10_readOneHusk_5 : decode cX10_readOneHusk 5 = .ok (.iload_n 1, 1) := by decide +kernel
theorem dX10_readOneHusk_6 : decode cX10_readOneHusk 6 = .ok (.bipush (-9), 2) := by decide +kernel
theorem dX10_readOneHusk_8 : decode cX10_readOneHusk 8 = .ok (.if_icmp .ne 8, 3) := by decide +kernel
theorem dX10_readOneHusk_11 : decode cX10_readOneHusk 11 = .ok (.bipush (-9), 2) := by decide +kernel
theorem dX10_readOneHusk_13 : decode cX10_readOneHusk 13 = .ok (.goto 10, 3) := by decide +kernel
theorem dX10_readOneHusk_16 : decode cX10_readOneHusk 16 = .ok (.aload_n 0, 1) := by decide +kernel
theorem dX10_readOneHusk_17 : decode cX10_readOneHusk 17 = .ok (.iconst 1, 1) := by decide +kernel
theorem dX10_readOneHusk_18 : decode cX10_readOneHusk 18 = .ok (.bipush 9, 2) := by decide +kernel
theorem dX10_readOneHusk_20 : decode cX10_readOneHusk 20 = .ok (.invokevirtual 102, 3) := by decide +kernel
theorem dX10_readOneHusk_23 : decode cX10_readOneHusk 23 = .ok (.istore_n 2, 1) := by decide +kernel
theorem dX10_readOneHusk_24 : decode cX10_readOneHusk 24 = .ok (.iload_n 2, 1) := by decide +kernel
theorem dX10_readOneHusk_25 : decode cX10_readOneHusk 25 = .ok (.bipush (-9), 2) := by decide +kernel
theorem dX10_readOneHusk_27 : decode cX10_readOneHusk 27 = .ok (.if_icmp .ne 8, 3) := by decide +kernel
theorem dX10_readOneHusk_30 : decode cX10_readOneHusk 30 = .ok (.bipush (-9), 2) := by decide +kernel
theorem dX10_readOneHusk_32 : decode cX10_readOneHusk 32 = .ok (.goto 9, 3) := by decide +kernel
theorem dX10_readOneHusk_35 : decode cX10_readOneHusk 35 = .ok (.aload_n 0, 1) := by decide +kernel
theorem dX10_readOneHusk_36 : decode cX10_readOneHusk 36 = .ok (.iconst 0, 1) := by decide +kernel
theorem dX10_readOneHusk_37 : decode cX10_readOneHusk 37 = .ok (.iconst 3, 1) := by decide +kernel
theorem dX10_readOneHusk_38 : decode cX10_readOneHusk 38 = .ok (.invokevirtual 102, 3) := by decide +kernel
theorem dX10_readOneHusk_41 : decode cX10_readOneHusk 41 = .ok (.istore_n 3, 1) := by decide +kernel
theorem dX10_readOneHusk_42 : decode cX10_readOneHusk 42 = .ok (.iload_n 3, 1) := by decide +kernel
theorem dX10_readOneHusk_43 : decode cX10_readOneHusk 43 = .ok (.bipush (-9), 2) := by decide +kernel
theorem dX10_readOneHusk_45 : decode cX10_readOneHusk 45 = .ok (.if_icmp .ne 5, 3) := by decide +kernel
theorem dX10_readOneHusk_48 : decode cX10_readOneHusk 48 = .ok (.iconst 0, 1) := by decide +kernel
theorem dX10_readOneHusk_49 : decode cX10_readOneHusk 49 = .ok (.ireturn, 1) := by decide +kernel
theorem dX10_readOneHusk_50 : decode cX10_readOneHusk 50 = .ok (.aload_n 0, 1) := by decide +kernel
theorem dX10_readOneHusk_51 : decode cX10_readOneHusk 51 = .ok (.getfield 22, 3) := by decide +kernel
theorem dX10_readOneHusk_54 : decode cX10_readOneHusk 54 = .ok (.iconst 3, 1) := by decide +kernel
theorem dX10_readOneHusk_55 : decode cX10_readOneHusk 55 = .ok (.aload_n 0, 1) := by decide +kernel
theorem dX10_readOneHusk_56 : decode cX10_readOneHusk 56 = .ok (.getfield 95, 3) := by decide +kernel
theorem dX10_readOneHusk_59 : decode cX10_readOneHusk 59 = .ok (.imul, 1) := by decide +kernel
theorem dX10_readOneHusk_60 : decode cX10_readOneHusk 60 = .ok (.iload_n 1, 1) := by decide +kernel
theorem dX10_readOneHusk_61 : decode cX10_readOneHusk 61 = .ok (.iastore, 1) := by decide +kernel
theorem dX10_readOneHusk_62 : decode cX10_readOneHusk 62 = .ok (.aload_n 0, 1) := by decide +kernel
theorem dX10_readOneHusk_63 : decode cX10_readOneHusk 63 = .ok (.getfield 22, 3) := by decide +kernel
theorem dX10_readOneHusk_66 : decode cX10_readOneHusk 66 = .ok (.iconst 3, 1) := by decide +kernel
theorem dX10_readOneHusk_67 : decode cX10_readOneHusk 67 = .ok (.aload_n 0, 1) := by decide +kernel
theorem dX10_readOneHusk_68 : decode cX10_readOneHusk 68 = .ok (.getfield 95, 3) := by decide +kernel
theorem dX10_readOneHusk_71 : decode cX10_readOneHusk 71 = .ok (.imul, 1) := by decide +kernel
theorem dX10_readOneHusk_72 : decode cX10_readOneHusk 72 = .ok (.iconst 1, 1) := by decide +kernel
theorem dX10_readOneHusk_73 : decode cX10_readOneHusk 73 = .ok (.iadd, 1) := by decide +kernel
theorem dX10_readOneHusk_74 : decode cX10_readOneHusk 74 = .ok (.iload_n 2, 1) := by decide +kernel
theorem dX10_readOneHusk_75 : decode cX10_readOneHusk 75 = .ok (.iastore, 1) := by decide +kernel
theorem dX10_readOneHusk_76 : decode cX10_readOneHusk 76 = .ok (.aload_n 0, 1) := by decide +kernel
theorem dX10_readOneHusk_77 : decode cX10_readOneHusk 77 = .ok (.getfield 22, 3) := by decide +kernel
theorem dX10_readOneHusk_80 : decode cX10_readOneHusk 80 = .ok (.iconst 3, 1) := by decide +kernel
theorem dX10_readOneHusk_81 : decode cX10_readOneHusk 81 = .ok (.aload_n 0, 1) := by decide +kernel
theorem dX10_readOneHusk_82 : decode cX10_readOneHusk 82 = .ok (.getfield 95, 3) := by decide +kernel
theorem dX10_readOneHusk_85 : decode cX10_readOneHusk 85 = .ok (.imul, 1) := by decide +kernel
theorem dX10_readOneHusk_86 : decode cX10_readOneHusk 86 = .ok (.iconst 2, 1) := by decide +kernel
theorem dX10_readOneHusk_87 : decode cX10_readOneHusk 87 = .ok (.iadd, 1) := by decide +kernel
theorem dX10_readOneHusk_88 : decode cX10_readOneHusk 88 = .ok (.iload_n 3, 1) := by decide +kernel
theorem dX10_readOneHusk_89 : decode cX10_readOneHusk 89 = .ok (.iastore, 1) := by decide +kernel
theorem dX10_readOneHusk_90 : decode cX10_readOneHusk 90 = .ok (.aload_n 0, 1) := by decide +kernel
theorem dX10_readOneHusk_91 : decode cX10_readOneHusk 91 = .ok (.dup, 1) := by decide +kernel
theorem dX10_readOneHusk_92 : decode cX10_readOneHusk 92 = .ok (.getfield 95, 3) := by decide +kernel
theorem dX10_readOneHusk_95 : decode cX10_readOneHusk 95 = .ok (.iconst 1, 1) := by decide +kernel
theorem dX10_readOneHusk_96 : decode cX10_readOneHusk 96 = .ok (.iadd, 1) := by decide +kernel
theorem dX10_readOneHusk_97 : decode cX10_readOneHusk 97 = .ok (.putfield 95, 3) := by decide +kernel
theorem dX10_readOneHusk_100 : decode cX10_readOneHusk 100 = .ok (.iconst 1, 1) := by decide +kernel
theorem dX10_readOneHusk_101 : decode cX10_readOneHusk 101 = .ok (.ireturn, 1) := by decide +kernel
theorem dX10_readOneThrower_0 : decode cX10_readOneThrower 0 = .ok (.aload_n 0, 1) := by decide +kernel
theorem dX10_readOneThrower_1 : decode cX10_readOneThrower 1 = .ok (.iconst 0, 1) := by decide +kernel
theorem dX10_readOneThrower_2 : decode cX10_readOneThrower 2 = .ok (.iconst 3, 1) := by decide +kernel
theorem dX10_readOneThrower_3 : decode cX10_readOneThrower 3 = .ok (.invokevirtual 102, 3) := by decide +kernel
theorem dX10_readOneThrower_6 : decode cX10_readOneThrower 6 = .ok (.istore_n 1, 1) := by decide +kernel
theorem dX10_readOneThrower_7 : decode cX10_readOneThrower 7 = .ok (.iload_n 1, 1) := by decide +kernel
theorem dX10_readOneThrower_8 : decode cX10_readOneThrower 8 = .ok (.bipush (-9), 2) := by decide +kernel
theorem dX10_readOneThrower_10 : decode cX10_readOneThrower 10 = .ok (.if_icmp .ne 8, 3) := by decide +kernel
theorem dX10_readOneThrower_13 : decode cX10_readOneThrower 13 = .ok (.bipush (-9), 2) := by decide +kernel
theorem dX10_readOneThrower_15 : decode cX10_readOneThrower 15 = .ok (.goto 10, 3) := by decide +kernel
theorem dX10_readOneThrower_18 : decode cX10_readOneThrower 18 = .ok (.aload_n 0, 1) := by decide +kernel
theorem dX10_readOneThrower_19 : decode cX10_readOneThrower 19 = .ok (.iconst 1, 1) := by decide +kernel
theorem dX10_readOneThrower_20 : decode cX10_readOneThrower 20 = .ok (.bipush 9, 2) := by decide +kernel
theorem dX10_readOneThrower_22 : decode cX10_readOneThrower 22 = .ok (.invokevirtual 102, 3) := by decide +kernel
theorem dX10_readOneThrower_25 : decode cX10_readOneThrower 25 = .ok (.istore_n 2, 1) := by decide +kernel
theorem dX10_readOneThrower_26 : decode cX10_readOneThrower 26 = .ok (.iload_n 2, 1) := by decide +kernel
theorem dX10_readOneThrower_27 : decode cX10_readOneThrower 27 = .ok (.bipush (-9), 2) := by decide +kernel
theorem dX10_readOneThrower_29 : decode cX10_readOneThrower 29 = .ok (.if_icmp .ne 8, 3) := by decide +kernel
theorem dX10_readOneThrower_32 : decode cX10_readOneThrower 32 = .ok (.bipush (-9), 2) := by decide +kernel
theorem dX10_readOneThrower_34 : decode cX10_readOneThrower 34 = .ok (.goto 9, 3) := by decide +kernel
theorem dX10_readOneThrower_37 : decode cX10_readOneThrower 37 = .ok (.aload_n 0, 1) := by decide +kernel
theorem dX10_readOneThrower_38 : decode cX10_readOneThrower 38 = .ok (.iconst 0, 1) := by decide +kernel
theorem dX10_readOneThrower_39 : decode cX10_readOneThrower 39 = .ok (.iconst 3, 1) := by decide +kernel
theorem dX10_readOneThrower_40 : decode cX10_readOneThrower 40 = .ok (.invokevirtual 102, 3) := by decide +kernel
theorem dX10_readOneThrower_43 : decode cX10_readOneThrower 43 = .ok (.istore_n 3, 1) := by decide +kernel
theorem dX10_readOneThrower_44 : decode cX10_readOneThrower 44 = .ok (.iload_n 3, 1) := by decide +kernel
theorem dX10_readOneThrower_45 : decode cX10_readOneThrower 45 = .ok (.bipush (-9), 2) := by decide +kernel
theorem dX10_readOneThrower_47 : decode cX10_readOneThrower 47 = .ok (.if_icmp .ne 5, 3) := by decide +kernel
theorem dX10_readOneThrower_50 : decode cX10_readOneThrower 50 = .ok (.iconst 0, 1) := by decide +kernel
theorem dX10_readOneThrower_51 : decode cX10_readOneThrower 51 = .ok (.ireturn, 1) := by decide +kernel
theorem dX10_readOneThrower_52 : decode cX10_readOneThrower 52 = .ok (.aload_n 0, 1) := by decide +kernel
theorem dX10_readOneThrower_53 : decode cX10_readOneThrower 53 = .ok (.getfield 25, 3) := by decide +kernel
theorem dX10_readOneThrower_56 : decode cX10_readOneThrower 56 = .ok (.iconst 3, 1) := by decide +kernel
theorem dX10_readOneThrower_57 : decode cX10_readOneThrower 57 = .ok (.aload_n 0, 1) := by decide +kernel
theorem dX10_readOneThrower_58 : decode cX10_readOneThrower 58 = .ok (.getfield 106, 3) := by decide +kernel
theorem dX10_readOneThrower_61 : decode cX10_readOneThrower 61 = .ok (.imul, 1) := by decide +kernel
theorem dX10_readOneThrower_62 : decode cX10_readOneThrower 62 = .ok (.iload_n 1, 1) := by decide +kernel
theorem dX10_readOneThrower_63 : decode cX10_readOneThrower 63 = .ok (.iastore, 1) := by decide +kernel
theorem dX10_readOneThrower_64 : decode cX10_readOneThrower 64 = .ok (.aload_n 0, 1) := by decide +kernel
theorem dX10_readOneThrower_65 : decode cX10_readOneThrower 65 = .ok (.getfield 25, 3) := by decide +kernel
theorem dX10_readOneThrower_68 : decode cX10_readOneThrower 68 = .ok (.iconst 3, 1) := by decide +kernel
theorem dX10_readOneThrower_69 : decode cX10_readOneThrower 69 = .ok (.aload_n 0, 1) := by decide +kernel
theorem dX10_readOneThrower_70 : decode cX10_readOneThrower 70 = .ok (.getfield 106, 3) := by decide +kernel
theorem dX10_readOneThrower_73 : decode cX10_readOneThrower 73 = .ok (.imul, 1) := by decide +kernel
theorem dX10_readOneThrower_74 : decode cX10_readOneThrower 74 = .ok (.iconst 1, 1) := by decide +kernel
theorem dX10_readOneThrower_75 : decode cX10_readOneThrower 75 = .ok (.iadd, 1) := by decide +kernel
theorem dX10_readOneThrower_76 : decode cX10_readOneThrower 76 = .ok (.iload_n 2, 1) := by decide +kernel
theorem dX10_readOneThrower_77 : decode cX10_readOneThrower 77 = .ok (.iastore, 1) := by decide +kernel
theorem dX10_readOneThrower_78 : decode cX10_readOneThrower 78 = .ok (.aload_n 0, 1) := by decide +kernel
theorem dX10_readOneThrower_79 : decode cX10_readOneThrower 79 = .ok (.getfield 25, 3) := by decide +kernel
theorem dX10_readOneThrower_82 : decode cX10_readOneThrower 82 = .ok (.iconst 3, 1) := by decide +kernel
theorem dX10_readOneThrower_83 : decode cX10_readOneThrower 83 = .ok (.aload_n 0, 1) := by decide +kernel
theorem dX10_readOneThrower_84 : decode cX10_readOneThrower 84 = .ok (.getfield 106, 3) := by decide +kernel
theorem dX10_readOneThrower_87 : decode cX10_readOneThrower 87 = .ok (.imul, 1) := by decide +kernel
theorem dX10_readOneThrower_88 : decode cX10_readOneThrower 88 = .ok (.iconst 2, 1) := by decide +kernel
theorem dX10_readOneThrower_89 : decode cX10_readOneThrower 89 = .ok (.iadd, 1) := by decide +kernel
theorem dX10_readOneThrower_90 : decode cX10_readOneThrower 90 = .ok (.iload_n 3, 1) := by decide +kernel
theorem dX10_readOneThrower_91 : decode cX10_readOneThrower 91 = .ok (.iastore, 1) := by decide +kernel
theorem dX10_readOneThrower_92 : decode cX10_readOneThrower 92 = .ok (.aload_n 0, 1) := by decide +kernel
theorem dX10_readOneThrower_93 : decode cX10_readOneThrower 93 = .ok (.dup, 1) := by decide +kernel
theorem dX10_readOneThrower_94 : decode cX10_readOneThrower 94 = .ok (.getfield 106, 3) := by decide +kernel
theorem dX10_readOneThrower_97 : decode cX10_readOneThrower 97 = .ok (.iconst 1, 1) := by decide +kernel
theorem dX10_readOneThrower_98 : decode cX10_readOneThrower 98 = .ok (.iadd, 1) := by decide +kernel
theorem dX10_readOneThrower_99 : decode cX10_readOneThrower 99 = .ok (.putfield 106, 3) := by decide +kernel
theorem dX10_readOneThrower_102 : decode cX10_readOneThrower 102 = .ok (.iconst 1, 1) := by decide +kernel
theorem dX10_readOneThrower_103 : decode cX10_readOneThrower 103 = .ok (.ireturn, 1) := by decide +kernel
theorem dX10_readOneLaw_0 : decode cX10_readOneLaw 0 = .ok (.aload_n 0, 1) := by decide +kernel
theorem dX10_readOneLaw_1 : decode cX10_readOneLaw 1 = .ok (.iconst 0, 1) := by decide +kernel
theorem dX10_readOneLaw_2 : decode cX10_readOneLaw 2 = .ok (.aload_n 0, 1) := by decide +kernel
theorem dX10_readOneLaw_3 : decode cX10_readOneLaw 3 = .ok (.getfield 95, 3) := by decide +kernel
theorem dX10_readOneLaw_6 : decode cX10_readOneLaw 6 = .ok (.iconst 1, 1) := by decide +kernel
theorem dX10_readOneLaw_7 : decode cX10_readOneLaw 7 = .ok (.isub, 1) := by decide +kernel
theorem dX10_readOneLaw_8 : decode cX10_readOneLaw 8 = .ok (.invokevirtual 102, 3) := by decide +kernel
theorem dX10_readOneLaw_11 : decode cX10_readOneLaw 11 = .ok (.istore_n 1, 1) := by decide +kernel
theorem dX10_readOneLaw_12 : decode cX10_readOneLaw 12 = .ok (.iload_n 1, 1) := by decide +kernel
theorem dX10_readOneLaw_13 : decode cX10_readOneLaw 13 = .ok (.bipush (-9), 2) := by decide +kernel
theorem dX10_readOneLaw_15 : decode cX10_readOneLaw 15 = .ok (.if_icmp .ne 5, 3) := by decide +kernel
theorem dX10_readOneLaw_18 : decode cX10_readOneLaw 18 = .ok (.iconst 0, 1) := by decide +kernel
theorem dX10_readOneLaw_19 : decode cX10_readOneLaw 19 = .ok (.ireturn, 1) := by decide +kernel
theorem dX10_readOneLaw_20 : decode cX10_readOneLaw 20 = .ok (.aload_n 0, 1) := by decide +kernel
theorem dX10_readOneLaw_21 : decode cX10_readOneLaw 21 = .ok (.iconst 0, 1) := by decide +kernel
theorem dX10_readOneLaw_22 : decode cX10_readOneLaw 22 = .ok (.aload_n 0, 1) := by decide +kernel
theorem dX10_readOneLaw_23 : decode cX10_readOneLaw 23 = .ok (.getfield 95, 3) := by decide +kernel
theorem dX10_readOneLaw_26 : decode cX10_readOneLaw 26 = .ok (.iconst 1, 1) := by decide +kernel
theorem dX10_readOneLaw_27 : decode cX10_readOneLaw 27 = .ok (.isub, 1) := by decide +kernel
theorem dX10_readOneLaw_28 : decode cX10_readOneLaw 28 = .ok (.invokevirtual 102, 3) := by decide +kernel
theorem dX10_readOneLaw_31 : decode cX10_readOneLaw 31 = .ok (.istore_n 2, 1) := by decide +kernel
theorem dX10_readOneLaw_32 : decode cX10_readOneLaw 32 = .ok (.iload_n 2, 1) := by decide +kernel
theorem dX10_readOneLaw_33 : decode cX10_readOneLaw 33 = .ok (.iload_n 1, 1) := by decide +kernel
theorem dX10_readOneLaw_34 : decode cX10_readOneLaw 34 = .ok (.if_icmp .ne 15, 3) := by decide +kernel
theorem dX10_readOneLaw_37 : decode cX10_readOneLaw 37 = .ok (.aload_n 0, 1) := by decide +kernel
theorem dX10_readOneLaw_38 : decode cX10_readOneLaw 38 = .ok (.dup, 1) := by decide +kernel
theorem dX10_readOneLaw_39 : decode cX10_readOneLaw 39 = .ok (.getfield 90, 3) := by decide +kernel
theorem dX10_readOneLaw_42 : decode cX10_readOneLaw 42 = .ok (.iconst 1, 1) := by decide +kernel
theorem dX10_readOneLaw_43 : decode cX10_readOneLaw 43 = .ok (.isub, 1) := by decide +kernel
theorem dX10_readOneLaw_44 : decode cX10_readOneLaw 44 = .ok (.putfield 90, 3) := by decide +kernel
theorem dX10_readOneLaw_47 : decode cX10_readOneLaw 47 = .ok (.iconst 0, 1) := by decide +kernel
theorem dX10_readOneLaw_48 : decode cX10_readOneLaw 48 = .ok (.ireturn, 1) := by decide +kernel
theorem dX10_readOneLaw_49 : decode cX10_readOneLaw 49 = .ok (.iload_n 2, 1) := by decide +kernel
theorem dX10_readOneLaw_50 : decode cX10_readOneLaw 50 = .ok (.bipush (-9), 2) := by decide +kernel
theorem dX10_readOneLaw_52 : decode cX10_readOneLaw 52 = .ok (.if_icmp .ne 8, 3) := by decide +kernel
theorem dX10_readOneLaw_55 : decode cX10_readOneLaw 55 = .ok (.bipush (-9), 2) := by decide +kernel
theorem dX10_readOneLaw_57 : decode cX10_readOneLaw 57 = .ok (.goto 9, 3) := by decide +kernel
theorem dX10_readOneLaw_60 : decode cX10_readOneLaw 60 = .ok (.aload_n 0, 1) := by decide +kernel
theorem dX10_readOneLaw_61 : decode cX10_readOneLaw 61 = .ok (.iconst 0, 1) := by decide +kernel
theorem dX10_readOneLaw_62 : decode cX10_readOneLaw 62 = .ok (.iconst 1, 1) := by decide +kernel
theorem dX10_readOneLaw_63 : decode cX10_readOneLaw 63 = .ok (.invokevirtual 102, 3) := by decide +kernel
theorem dX10_readOneLaw_66 : decode cX10_readOneLaw 66 = .ok (.istore_n 3, 1) := by decide +kernel
theorem dX10_readOneLaw_67 : decode cX10_readOneLaw 67 = .ok (.iload_n 3, 1) := by decide +kernel
theorem dX10_readOneLaw_68 : decode cX10_readOneLaw 68 = .ok (.bipush (-9), 2) := by decide +kernel
theorem dX10_readOneLaw_70 : decode cX10_readOneLaw 70 = .ok (.if_icmp .ne 5, 3) := by decide +kernel
theorem dX10_readOneLaw_73 : decode cX10_readOneLaw 73 = .ok (.iconst 0, 1) := by decide +kernel
theorem dX10_readOneLaw_74 : decode cX10_readOneLaw 74 = .ok (.ireturn, 1) := by decide +kernel
theorem dX10_readOneLaw_75 : decode cX10_readOneLaw 75 = .ok (.aload_n 0, 1) := by decide +kernel
theorem dX10_readOneLaw_76 : decode cX10_readOneLaw 76 = .ok (.getfield 28, 3) := by decide +kernel
theorem dX10_readOneLaw_79 : decode cX10_readOneLaw 79 = .ok (.iconst 3, 1) := by decide +kernel
theorem dX10_readOneLaw_80 : decode cX10_readOneLaw 80 = .ok (.aload_n 0, 1) := by decide +kernel
theorem dX10_readOneLaw_81 : decode cX10_readOneLaw 81 = .ok (.getfield 109, 3) := by decide +kernel
theorem dX10_readOneLaw_84 : decode cX10_readOneLaw 84 = .ok (.imul, 1) := by decide +kernel
theorem dX10_readOneLaw_85 : decode cX10_readOneLaw 85 = .ok (.iload_n 1, 1) := by decide +kernel
theorem dX10_readOneLaw_86 : decode cX10_readOneLaw 86 = .ok (.iastore, 1) := by decide +kernel
theorem dX10_readOneLaw_87 : decode cX10_readOneLaw 87 = .ok (.aload_n 0, 1) := by decide +kernel
theorem dX10_readOneLaw_88 : decode cX10_readOneLaw 88 = .ok (.getfield 28, 3) := by decide +kernel
theorem dX10_readOneLaw_91 : decode cX10_readOneLaw 91 = .ok (.iconst 3, 1) := by decide +kernel
theorem dX10_readOneLaw_92 : decode cX10_readOneLaw 92 = .ok (.aload_n 0, 1) := by decide +kernel
theorem dX10_readOneLaw_93 : decode cX10_readOneLaw 93 = .ok (.getfield 109, 3) := by decide +kernel
theorem dX10_readOneLaw_96 : decode cX10_readOneLaw 96 = .ok (.imul, 1) := by decide +kernel
theorem dX10_readOneLaw_97 : decode cX10_readOneLaw 97 = .ok (.iconst 1, 1) := by decide +kernel
theorem dX10_readOneLaw_98 : decode cX10_readOneLaw 98 = .ok (.iadd, 1) := by decide +kernel
theorem dX10_readOneLaw_99 : decode cX10_readOneLaw 99 = .ok (.iload_n 2, 1) := by decide +kernel
theorem dX10_readOneLaw_100 : decode cX10_readOneLaw 100 = .ok (.iastore, 1) := by decide +kernel
theorem dX10_readOneLaw_101 : decode cX10_readOneLaw 101 = .ok (.aload_n 0, 1) := by decide +kernel
theorem dX10_readOneLaw_102 : decode cX10_readOneLaw 102 = .ok (.getfield 28, 3) := by decide +kernel
theorem dX10_readOneLaw_105 : decode cX10_readOneLaw 105 = .ok (.iconst 3, 1) := by decide +kernel
theorem dX10_readOneLaw_106 : decode cX10_readOneLaw 106 = .ok (.aload_n 0, 1) := by decide +kernel
theorem dX10_readOneLaw_107 : decode cX10_readOneLaw 107 = .ok (.getfield 109, 3) := by decide +kernel
theorem dX10_readOneLaw_110 : decode cX10_readOneLaw 110 = .ok (.imul, 1) := by decide +kernel
theorem dX10_readOneLaw_111 : decode cX10_readOneLaw 111 = .ok (.iconst 2, 1) := by decide +kernel
theorem dX10_readOneLaw_112 : decode cX10_readOneLaw 112 = .ok (.iadd, 1) := by decide +kernel
theorem dX10_readOneLaw_113 : decode cX10_readOneLaw 113 = .ok (.iload_n 3, 1) := by decide +kernel
theorem dX10_readOneLaw_114 : decode cX10_readOneLaw 114 = .ok (.iastore, 1) := by decide +kernel
theorem dX10_readOneLaw_115 : decode cX10_readOneLaw 115 = .ok (.aload_n 0, 1) := by decide +kernel
theorem dX10_readOneLaw_116 : decode cX10_readOneLaw 116 = .ok (.dup, 1) := by decide +kernel
theorem dX10_readOneLaw_117 : decode cX10_readOneLaw 117 = .ok (.getfield 109, 3) := by decide +kernel
theorem dX10_readOneLaw_120 : decode cX10_readOneLaw 120 = .ok (.iconst 1, 1) := by decide +kernel
theorem dX10_readOneLaw_121 : decode cX10_readOneLaw 121 = .ok (.iadd, 1) := by decide +kernel
theorem dX10_readOneLaw_122 : decode cX10_readOneLaw 122 = .ok (.putfield 109, 3) := by decide +kernel
theorem dX10_readOneLaw_125 : decode cX10_readOneLaw 125 = .ok (.iconst 1, 1) := by decide +kernel
theorem dX10_readOneLaw_126 : decode cX10_readOneLaw 126 = .ok (.ireturn, 1) := by decide +kernel
theorem dX10_readPart_0 : decode cX10_readPart 0 = .ok (.aload_n 0, 1) := by decide +kernel
theorem dX10_readPart_1 : decode cX10_readPart 1 = .ok (.getfield 7, 3) := by decide +kernel
theorem dX10_readPart_4 : decode cX10_readPart 4 = .ok (.aload_n 0, 1) := by decide +kernel
theorem dX10_readPart_5 : decode cX10_readPart 5 = .ok (.getfield 90, 3) := by decide +kernel
theorem dX10_readPart_8 : decode cX10_readPart 8 = .ok (.iaload, 1) := by decide +kernel
theorem dX10_readPart_9 : decode cX10_readPart 9 = .ok (.istore_n 1, 1) := by decide +kernel
theorem dX10_readPart_10 : decode cX10_readPart 10 = .ok (.aload_n 0, 1) := by decide +kernel
theorem dX10_readPart_11 : decode cX10_readPart 11 = .ok (.dup, 1) := by decide +kernel
theorem dX10_readPart_12 : decode cX10_readPart 12 = .ok (.getfield 90, 3) := by decide +kernel
theorem dX10_readPart_15 : decode cX10_readPart 15 = .ok (.iconst 1, 1) := by decide +kernel
theorem dX10_readPart_16 : decode cX10_readPart 16 = .ok (.iadd, 1) := by decide +kernel
theorem dX10_readPart_17 : decode cX10_readPart 17 = .ok (.putfield 90, 3) := by decide +kernel
theorem dX10_readPart_20 : decode cX10_readPart 20 = .ok (.iload_n 1, 1) := by decide +kernel
theorem dX10_readPart_21 : decode cX10_readPart 21 = .ok (.bipush 72, 2) := by decide +kernel
theorem dX10_readPart_23 : decode cX10_readPart 23 = .ok (.if_icmp .ne 16, 3) := by decide +kernel
theorem dX10_readPart_26 : decode cX10_readPart 26 = .ok (.aload_n 0, 1) := by decide +kernel
theorem dX10_readPart_27 : decode cX10_readPart 27 = .ok (.getfield 95, 3) := by decide +kernel
theorem dX10_readPart_30 : decode cX10_readPart 30 = .ok (.iconst 5, 1) := by decide +kernel
theorem dX10_readPart_31 : decode cX10_readPart 31 = .ok (.if_icmp .ge 8, 3) := by decide +kernel
theorem dX10_readPart_34 : decode cX10_readPart 34 = .ok (.aload_n 0, 1) := by decide +kernel
theorem dX10_readPart_35 : decode cX10_readPart 35 = .ok (.invokevirtual 112, 3) := by decide +kernel
theorem dX10_readPart_38 : decode cX10_readPart 38 = .ok (.ireturn, 1) := by decide +kernel
theorem dX10_readPart_39 : decode cX10_readPart 39 = .ok (.iload_n 1, 1) := by decide +kernel
theorem dX10_readPart_40 : decode cX10_readPart 40 = .ok (.bipush 84, 2) := by decide +kernel
theorem dX10_readPart_42 : decode cX10_readPart 42 = .ok (.if_icmp .ne 16, 3) := by decide +kernel
theorem dX10_readPart_45 : decode cX10_readPart 45 = .ok (.aload_n 0, 1) := by decide +kernel
theorem dX10_readPart_46 : decode cX10_readPart 46 = .ok (.getfield 106, 3) := by decide +kernel
theorem dX10_readPart_49 : decode cX10_readPart 49 = .ok (.iconst 4, 1) := by decide +kernel
theorem dX10_readPart_50 : decode cX10_readPart 50 = .ok (.if_icmp .ge 8, 3) := by decide +kernel
theorem dX10_readPart_53 : decode cX10_readPart 53 = .ok (.aload_n 0, 1) := by decide +kernel
theorem dX10_readPart_54 : decode cX10_readPart 54 = .ok (.invokevirtual 116, 3) := by decide +kernel
theorem dX10_readPart_57 : decode cX10_readPart 57 = .ok (.ireturn, 1) := by decide +kernel
theorem dX10_readPart_58 : decode cX10_readPart 58 = .ok (.iload_n 1, 1) := by decide +kernel
theorem dX10_readPart_59 : decode cX10_readPart 59 = .ok (.bipush 76, 2) := by decide +kernel
theorem dX10_readPart_61 : decode cX10_readPart 61 = .ok (.if_icmp .ne 24, 3) := by decide +kernel
theorem dX10_readPart_64 : decode cX10_readPart 64 = .ok (.aload_n 0, 1) := by decide +kernel
theorem dX10_readPart_65 : decode cX10_readPart 65 = .ok (.getfield 109, 3) := by decide +kernel
theorem dX10_readPart_68 : decode cX10_readPart 68 = .ok (.iconst 4, 1) := by decide +kernel
theorem dX10_readPart_69 : decode cX10_readPart 69 = .ok (.if_icmp .ge 16, 3) := by decide +kernel
theorem dX10_readPart_72 : decode cX10_readPart 72 = .ok (.aload_n 0, 1) := by decide +kernel
theorem dX10_readPart_73 : decode cX10_readPart 73 = .ok (.getfield 95, 3) := by decide +kernel
theorem dX10_readPart_76 : decode cX10_readPart 76 = .ok (.iconst 1, 1) := by decide +kernel
theorem dX10_readPart_77 : decode cX10_readPart 77 = .ok (.if_icmp .le 8, 3) := by decide +kernel
theorem dX10_readPart_80 : decode cX10_readPart 80 = .ok (.aload_n 0, 1) := by decide +kernel
theorem dX10_readPart_81 : decode cX10_readPart 81 = .ok (.invokevirtual 119, 3) := by decide +kernel
theorem dX10_readPart_84 : decode cX10_readPart 84 = .ok (.ireturn, 1) := by decide +kernel
theorem dX10_readPart_85 : decode cX10_readPart 85 = .ok (.aload_n 0, 1) := by decide +kernel
theorem dX10_readPart_86 : decode cX10_readPart 86 = .ok (.dup, 1) := by decide +kernel
theorem dX10_readPart_87 : decode cX10_readPart 87 = .ok (.getfield 90, 3) := by decide +kernel
theorem dX10_readPart_90 : decode cX10_readPart 90 = .ok (.iconst 1, 1) := by decide +kernel
theorem dX10_readPart_91 : decode cX10_readPart 91 = .ok (.isub, 1) := by decide +kernel
theorem dX10_readPart_92 : decode cX10_readPart 92 = .ok (.putfield 90, 3) := by decide +kernel
theorem dX10_readPart_95 : decode cX10_readPart 95 = .ok (.iconst 0, 1) := by decide +kernel
theorem dX10_readPart_96 : decode cX10_readPart 96 = .ok (.ireturn, 1) := by decide +kernel
theorem dX10_readFair_0 : decode cX10_readFair 0 = .ok (.aload_n 0, 1) := by decide +kernel
theorem dX10_readFair_1 : decode cX10_readFair 1 = .ok (.iconst 0, 1) := by decide +kernel
theorem dX10_readFair_2 : decode cX10_readFair 2 = .ok (.putfield 90, 3) := by decide +kernel
theorem dX10_readFair_5 : decode cX10_readFair 5 = .ok (.aload_n 0, 1) := by decide +kernel
theorem dX10_readFair_6 : decode cX10_readFair 6 = .ok (.iconst 0, 1) := by decide +kernel
theorem dX10_readFair_7 : decode cX10_readFair 7 = .ok (.putfield 95, 3) := by decide +kernel
theorem dX10_readFair_10 : decode cX10_readFair 10 = .ok (.aload_n 0, 1) := by decide +kernel
theorem dX10_readFair_11 : decode cX10_readFair 11 = .ok (.iconst 0, 1) := by decide +kernel
theorem dX10_readFair_12 : decode cX10_readFair 12 = .ok (.putfield 106, 3) := by decide +kernel
theorem dX10_readFair_15 : decode cX10_readFair 15 = .ok (.aload_n 0, 1) := by decide +kernel
theorem dX10_readFair_16 : decode cX10_readFair 16 = .ok (.iconst 0, 1) := by decide +kernel
theorem dX10_readFair_17 : decode cX10_readFair 17 = .ok (.putfield 109, 3) := by decide +kernel
theorem dX10_readFair_20 : decode cX10_readFair 20 = .ok (.aload_n 0, 1) := by decide +kernel
theorem dX10_readFair_21 : decode cX10_readFair 21 = .ok (.getfield 87, 3) := by decide +kernel
theorem dX10_readFair_24 : decode cX10_readFair 24 = .ok (.ifCond .eq 14, 3) := by decide +kernel
theorem dX10_readFair_27 : decode cX10_readFair 27 = .ok (.aload_n 0, 1) := by decide +kernel
theorem dX10_readFair_28 : decode cX10_readFair 28 = .ok (.getfield 7, 3) := by decide +kernel
theorem dX10_readFair_31 : decode cX10_readFair 31 = .ok (.iconst 0, 1) := by decide +kernel
theorem dX10_readFair_32 : decode cX10_readFair 32 = .ok (.iaload, 1) := by decide +kernel
theorem dX10_readFair_33 : decode cX10_readFair 33 = .ok (.bipush 83, 2) := by decide +kernel
theorem dX10_readFair_35 : decode cX10_readFair 35 = .ok (.if_icmp .eq 5, 3) := by decide +kernel
theorem dX10_readFair_38 : decode cX10_readFair 38 = .ok (.iconst 0, 1) := by decide +kernel
theorem dX10_readFair_39 : decode cX10_readFair 39 = .ok (.ireturn, 1) := by decide +kernel
theorem dX10_readFair_40 : decode cX10_readFair 40 = .ok (.aload_n 0, 1) := by decide +kernel
theorem dX10_readFair_41 : decode cX10_readFair 41 = .ok (.iconst 1, 1) := by decide +kernel
theorem dX10_readFair_42 : decode cX10_readFair 42 = .ok (.putfield 90, 3) := by decide +kernel
theorem dX10_readFair_45 : decode cX10_readFair 45 = .ok (.aload_n 0, 1) := by decide +kernel
theorem dX10_readFair_46 : decode cX10_readFair 46 = .ok (.aload_n 0, 1) := by decide +kernel
theorem dX10_readFair_47 : decode cX10_readFair 47 = .ok (.iconst 0, 1) := by decide +kernel
theorem dX10_readFair_48 : decode cX10_readFair 48 = .ok (.iconst 2, 1) := by decide +kernel
theorem dX10_readFair_49 : decode cX10_readFair 49 = .ok (.invokevirtual 102, 3) := by decide +kernel
theorem dX10_readFair_52 : decode cX10_readFair 52 = .ok (.putfield 122, 3) := by decide +kernel
theorem dX10_readFair_55 : decode cX10_readFair 55 = .ok (.aload_n 0, 1) := by decide +kernel
theorem dX10_readFair_56 : decode cX10_readFair 56 = .ok (.aload_n 0, 1) := by decide +kernel
theorem dX10_readFair_57 : decode cX10_readFair 57 = .ok (.getfield 122, 3) := by decide +kernel
theorem dX10_readFair_60 : decode cX10_readFair 60 = .ok (.bipush (-9), 2) := by decide +kernel
theorem dX10_readFair_62 : decode cX10_readFair 62 = .ok (.if_icmp .ne 8, 3) := by decide +kernel
theorem dX10_readFair_65 : decode cX10_readFair 65 = .ok (.bipush (-9), 2) := by decide +kernel
theorem dX10_readFair_67 : decode cX10_readFair 67 = .ok (.goto 10, 3) := by decide +kernel
theorem dX10_readFair_70 : decode cX10_readFair 70 = .ok (.aload_n 0, 1) := by decide +kernel
theorem dX10_readFair_71 : decode cX10_readFair 71 = .ok (.iconst 0, 1) := by decide +kernel
theorem dX10_readFair_72 : decode cX10_readFair 72 = .ok (.bipush 9, 2) := by decide +kernel
theorem dX10_readFair_74 : decode cX10_readFair 74 = .ok (.invokevirtual 102, 3) := by decide +kernel
theorem dX10_readFair_77 : decode cX10_readFair 77 = .ok (.putfield 125, 3) := by decide +kernel
theorem dX10_readFair_80 : decode cX10_readFair 80 = .ok (.aload_n 0, 1) := by decide +kernel
theorem dX10_readFair_81 : decode cX10_readFair 81 = .ok (.getfield 125, 3) := by decide +kernel
theorem dX10_readFair_84 : decode cX10_readFair 84 = .ok (.bipush (-9), 2) := by decide +kernel
theorem dX10_readFair_86 : decode cX10_readFair 86 = .ok (.if_icmp .ne 8, 3) := by decide +kernel
theorem dX10_readFair_89 : decode cX10_readFair 89 = .ok (.aload_n 0, 1) := by decide +kernel
theorem dX10_readFair_90 : decode cX10_readFair 90 = .ok (.getfield 90, 3) := by decide +kernel
theorem dX10_readFair_93 : decode cX10_readFair 93 = .ok (.ireturn, 1) := by decide +kernel
theorem dX10_readFair_94 : decode cX10_readFair 94 = .ok (.aload_n 0, 1) := by decide +kernel
theorem dX10_readFair_95 : decode cX10_readFair 95 = .ok (.getfield 90, 3) := by decide +kernel
theorem dX10_readFair_98 : decode cX10_readFair 98 = .ok (.aload_n 0, 1) := by decide +kernel
theorem dX10_readFair_99 : decode cX10_readFair 99 = .ok (.getfield 87, 3) := by decide +kernel
theorem dX10_readFair_102 : decode cX10_readFair 102 = .ok (.if_icmp .ge 15, 3) := by decide +kernel
theorem dX10_readFair_105 : decode cX10_readFair 105 = .ok (.aload_n 0, 1) := by decide +kernel
theorem dX10_readFair_106 : decode cX10_readFair 106 = .ok (.invokevirtual 128, 3) := by decide +kernel
theorem dX10_readFair_109 : decode cX10_readFair 109 = .ok (.ifCond .ne (-15), 3) := by decide +kernel
theorem dX10_readFair_112 : decode cX10_readFair 112 = .ok (.aload_n 0, 1) := by decide +kernel
theorem dX10_readFair_113 : decode cX10_readFair 113 = .ok (.getfield 90, 3) := by decide +kernel
theorem dX10_readFair_116 : decode cX10_readFair 116 = .ok (.ireturn, 1) := by decide +kernel
theorem dX10_readFair_117 : decode cX10_readFair 117 = .ok (.bipush (-9), 2) := by decide +kernel
theorem dX10_readFair_119 : decode cX10_readFair 119 = .ok (.ireturn, 1) := by decide +kernel
theorem dX10_fault_0 : decode cX10_fault 0 = .ok (.aload_n 0, 1) := by decide +kernel
theorem dX10_fault_1 : decode cX10_fault 1 = .ok (.iconst 0, 1) := by decide +kernel
theorem dX10_fault_2 : decode cX10_fault 2 = .ok (.putfield 71, 3) := by decide +kernel
theorem dX10_fault_5 : decode cX10_fault 5 = .ok (.aload_n 0, 1) := by decide +kernel
theorem dX10_fault_6 : decode cX10_fault 6 = .ok (.invokevirtual 131, 3) := by decide +kernel
theorem dX10_fault_9 : decode cX10_fault 9 = .ok (.ireturn, 1) := by decide +kernel
theorem dX10_copyRow_0 : decode cX10_copyRow 0 = .ok (.iconst 0, 1) := by decide +kernel
theorem dX10_copyRow_1 : decode cX10_copyRow 1 = .ok (.istore_n 3, 1) := by decide +kernel
theorem dX10_copyRow_2 : decode cX10_copyRow 2 = .ok (.iload_n 3, 1) := by decide +kernel
theorem dX10_copyRow_3 : decode cX10_copyRow 3 = .ok (.iload_n 2, 1) := by decide +kernel
theorem dX10_copyRow_4 : decode cX10_copyRow 4 = .ok (.if_icmp .ge 15, 3) := by decide +kernel
theorem dX10_copyRow_7 : decode cX10_copyRow 7 = .ok (.aload_n 1, 1) := by decide +kernel
theorem dX10_copyRow_8 : decode cX10_copyRow 8 = .ok (.iload_n 3, 1) := by decide +kernel
theorem dX10_copyRow_9 : decode cX10_copyRow 9 = .ok (.aload_n 0, 1) := by decide +kernel
theorem dX10_copyRow_10 : decode cX10_copyRow 10 = .ok (.iload_n 3, 1) := by decide +kernel
theorem dX10_copyRow_11 : decode cX10_copyRow 11 = .ok (.iaload, 1) := by decide +kernel
theorem dX10_copyRow_12 : decode cX10_copyRow 12 = .ok (.iastore, 1) := by decide +kernel
theorem dX10_copyRow_13 : decode cX10_copyRow 13 = .ok (.iinc 3 1, 3) := by decide +kernel
theorem dX10_copyRow_16 : decode cX10_copyRow 16 = .ok (.goto (-14), 3) := by decide +kernel
theorem dX10_copyRow_19 : decode cX10_copyRow 19 = .ok (.return_, 1) := by decide +kernel
theorem dX10_fair_0 : decode cX10_fair 0 = .ok (.aload_n 0, 1) := by decide +kernel
theorem dX10_fair_1 : decode cX10_fair 1 = .ok (.iconst 0, 1) := by decide +kernel
theorem dX10_fair_2 : decode cX10_fair 2 = .ok (.putfield 71, 3) := by decide +kernel
theorem dX10_fair_5 : decode cX10_fair 5 = .ok (.aload_n 0, 1) := by decide +kernel
theorem dX10_fair_6 : decode cX10_fair 6 = .ok (.invokevirtual 131, 3) := by decide +kernel
theorem dX10_fair_9 : decode cX10_fair 9 = .ok (.bipush (-9), 2) := by decide +kernel
theorem dX10_fair_11 : decode cX10_fair 11 = .ok (.if_icmp .eq 6, 3) := by decide +kernel
theorem dX10_fair_14 : decode cX10_fair 14 = .ok (.bipush (-3), 2) := by decide +kernel
theorem dX10_fair_16 : decode cX10_fair 16 = .ok (.ireturn, 1) := by decide +kernel
theorem dX10_fair_17 : decode cX10_fair 17 = .ok (.aload_n 0, 1) := by decide +kernel
theorem dX10_fair_18 : decode cX10_fair 18 = .ok (.aload_n 0, 1) := by decide +kernel
theorem dX10_fair_19 : decode cX10_fair 19 = .ok (.getfield 95, 3) := by decide +kernel
theorem dX10_fair_22 : decode cX10_fair 22 = .ok (.putfield 75, 3) := by decide +kernel
theorem dX10_fair_25 : decode cX10_fair 25 = .ok (.aload_n 0, 1) := by decide +kernel
theorem dX10_fair_26 : decode cX10_fair 26 = .ok (.aload_n 0, 1) := by decide +kernel
theorem dX10_fair_27 : decode cX10_fair 27 = .ok (.getfield 106, 3) := by decide +kernel
theorem dX10_fair_30 : decode cX10_fair 30 = .ok (.putfield 82, 3) := by decide +kernel
theorem dX10_fair_33 : decode cX10_fair 33 = .ok (.aload_n 0, 1) := by decide +kernel
theorem dX10_fair_34 : decode cX10_fair 34 = .ok (.aload_n 0, 1) := by decide +kernel
theorem dX10_fair_35 : decode cX10_fair 35 = .ok (.getfield 109, 3) := by decide +kernel
theorem dX10_fair_38 : decode cX10_fair 38 = .ok (.putfield 134, 3) := by decide +kernel
theorem dX10_fair_41 : decode cX10_fair 41 = .ok (.aload_n 0, 1) := by decide +kernel
theorem dX10_fair_42 : decode cX10_fair 42 = .ok (.getfield 22, 3) := by decide +kernel
theorem dX10_fair_45 : decode cX10_fair 45 = .ok (.aload_n 0, 1) := by decide +kernel
theorem dX10_fair_46 : decode cX10_fair 46 = .ok (.getfield 13, 3) := by decide +kernel
theorem dX10_fair_49 : decode cX10_fair 49 = .ok (.bipush 15, 2) := by decide +kernel
theorem dX10_fair_51 : decode cX10_fair 51 = .ok (.invokestatic 137, 3) := by decide +kernel
theorem dX10_fair_54 : decode cX10_fair 54 = .ok (.aload_n 0, 1) := by decide +kernel
theorem dX10_fair_55 : decode cX10_fair 55 = .ok (.getfield 25, 3) := by decide +kernel
theorem dX10_fair_58 : decode cX10_fair 58 = .ok (.aload_n 0, 1) := by decide +kernel
theorem dX10_fair_59 : decode cX10_fair 59 = .ok (.getfield 16, 3) := by decide +kernel
theorem dX10_fair_62 : decode cX10_fair 62 = .ok (.bipush 12, 2) := by decide +kernel
theorem dX10_fair_64 : decode cX10_fair 64 = .ok (.invokestatic 137, 3) := by decide +kernel
theorem dX10_fair_67 : decode cX10_fair 67 = .ok (.aload_n 0, 1) := by decide +kernel
theorem dX10_fair_68 : decode cX10_fair 68 = .ok (.getfield 28, 3) := by decide +kernel
theorem dX10_fair_71 : decode cX10_fair 71 = .ok (.aload_n 0, 1) := by decide +kernel
theorem dX10_fair_72 : decode cX10_fair 72 = .ok (.getfield 19, 3) := by decide +kernel
theorem dX10_fair_75 : decode cX10_fair 75 = .ok (.bipush 12, 2) := by decide +kernel
theorem dX10_fair_77 : decode cX10_fair 77 = .ok (.invokestatic 137, 3) := by decide +kernel
theorem dX10_fair_80 : decode cX10_fair 80 = .ok (.iconst 0, 1) := by decide +kernel
theorem dX10_fair_81 : decode cX10_fair 81 = .ok (.istore_n 1, 1) := by decide +kernel
theorem dX10_fair_82 : decode cX10_fair 82 = .ok (.iload_n 1, 1) := by decide +kernel
theorem dX10_fair_83 : decode cX10_fair 83 = .ok (.bipush 15, 2) := by decide +kernel
theorem dX10_fair_85 : decode cX10_fair 85 = .ok (.if_icmp .ge 16, 3) := by decide +kernel
theorem dX10_fair_88 : decode cX10_fair 88 = .ok (.aload_n 0, 1) := by decide +kernel
theorem dX10_fair_89 : decode cX10_fair 89 = .ok (.getfield 31, 3) := by decide +kernel
theorem dX10_fair_92 : decode cX10_fair 92 = .ok (.iload_n 1, 1) := by decide +kernel
theorem dX10_fair_93 : decode cX10_fair 93 = .ok (.iconst 0, 1) := by decide +kernel
theorem dX10_fair_94 : decode cX10_fair 94 = .ok (.iastore, 1) := by decide +kernel
theorem dX10_fair_95 : decode cX10_fair 95 = .ok (.iinc 1 1, 3) := by decide +kernel
theorem dX10_fair_98 : decode cX10_fair 98 = .ok (.goto (-16), 3) := by decide +kernel
theorem dX10_fair_101 : decode cX10_fair 101 = .ok (.iconst 0, 1) := by decide +kernel
theorem dX10_fair_102 : decode cX10_fair 102 = .ok (.istore_n 1, 1) := by decide +kernel
theorem dX10_fair_103 : decode cX10_fair 103 = .ok (.iload_n 1, 1) := by decide +kernel
theorem dX10_fair_104 : decode cX10_fair 104 = .ok (.aload_n 0, 1) := by decide +kernel
theorem dX10_fair_105 : decode cX10_fair 105 = .ok (.getfield 75, 3) := by decide +kernel
theorem dX10_fair_108 : decode cX10_fair 108 = .ok (.if_icmp .ge 40, 3) := by decide +kernel
theorem dX10_fair_111 : decode cX10_fair 111 = .ok (.aload_n 0, 1) := by decide +kernel
theorem dX10_fair_112 : decode cX10_fair 112 = .ok (.getfield 31, 3) := by decide +kernel
theorem dX10_fair_115 : decode cX10_fair 115 = .ok (.bipush 11, 2) := by decide +kernel
theorem dX10_fair_117 : decode cX10_fair 117 = .ok (.dup2, 1) := by decide +kernel
theorem dX10_fair_118 : decode cX10_fair 118 = .ok (.iaload, 1) := by decide +kernel
theorem dX10_fair_119 : decode cX10_fair 119 = .ok (.aload_n 0, 1) := by decide +kernel
theorem dX10_fair_120 : decode cX10_fair 120 = .ok (.getfield 13, 3) := by decide +kernel
theorem dX10_fair_123 : decode cX10_fair 123 = .ok (.iconst 3, 1) := by decide +kernel
theorem dX10_fair_124 : decode cX10_fair 124 = .ok (.iload_n 1, 1) := by decide +kernel
theorem dX10_fair_125 : decode cX10_fair 125 = .ok (.imul, 1) := by decide +kernel
theorem dX10_fair_126 : decode cX10_fair 126 = .ok (.iconst 2, 1) := by decide +kernel
theorem dX10_fair_127 : decode cX10_fair 127 = .ok (.iadd, 1) := by decide +kernel
theorem dX10_fair_128 : decode cX10_fair 128 = .ok (.iaload, 1) := by decide +kernel
theorem dX10_fair_129 : decode cX10_fair 129 = .ok (.iconst 1, 1) := by decide +kernel
theorem dX10_fair_130 : decode cX10_fair 130 = .ok (.if_icmp .ne 9, 3) := by decide +kernel
theorem dX10_fair_133 : decode cX10_fair 133 = .ok (.iconst 1, 1) := by decide +kernel
theorem dX10_fair_134 : decode cX10_fair 134 = .ok (.iload_n 1, 1) := by decide +kernel
theorem dX10_fair_135 : decode cX10_fair 135 = .ok (.ishl, 1) := by decide +kernel
theorem dX10_fair_136 : decode cX10_fair 136 = .ok (.goto 4, 3) := by decide +kernel
theorem dX10_fair_139 : decode cX10_fair 139 = .ok (.iconst 0, 1) := by decide +kernel
theorem dX10_fair_140 : decode cX10_fair 140 = .ok (.ior, 1) := by decide +kernel
theorem dX10_fair_141 : decode cX10_fair 141 = .ok (.iastore, 1) := by decide +kernel
theorem dX10_fair_142 : decode cX10_fair 142 = .ok (.iinc 1 1, 3) := by decide +kernel
theorem dX10_fair_145 : decode cX10_fair 145 = .ok (.goto (-42), 3) := by decide +kernel
theorem dX10_fair_148 : decode cX10_fair 148 = .ok (.aload_n 0, 1) := by decide +kernel
theorem dX10_fair_149 : decode cX10_fair 149 = .ok (.getfield 31, 3) := by decide +kernel
theorem dX10_fair_152 : decode cX10_fair 152 = .ok (.bipush 13, 2) := by decide +kernel
theorem dX10_fair_154 : decode cX10_fair 154 = .ok (.aload_n 0, 1) := by decide +kernel
theorem dX10_fair_155 : decode cX10_fair 155 = .ok (.getfield 122, 3) := by decide +kernel
theorem dX10_fair_158 : decode cX10_fair 158 = .ok (.iastore, 1) := by decide +kernel
theorem dX10_fair_159 : decode cX10_fair 159 = .ok (.aload_n 0, 1) := by decide +kernel
theorem dX10_fair_160 : decode cX10_fair 160 = .ok (.getfield 31, 3) := by decide +kernel
theorem dX10_fair_163 : decode cX10_fair 163 = .ok (.bipush 14, 2) := by decide +kernel
theorem dX10_fair_165 : decode cX10_fair 165 = .ok (.aload_n 0, 1) := by decide +kernel
theorem dX10_fair_166 : decode cX10_fair 166 = .ok (.getfield 125, 3) := by decide +kernel
theorem dX10_fair_169 : decode cX10_fair 169 = .ok (.iastore, 1) := by decide +kernel
theorem dX10_fair_170 : decode cX10_fair 170 = .ok (.aload_n 0, 1) := by decide +kernel
theorem dX10_fair_171 : decode cX10_fair 171 = .ok (.iconst 0, 1) := by decide +kernel
theorem dX10_fair_172 : decode cX10_fair 172 = .ok (.putfield 141, 3) := by decide +kernel
theorem dX10_fair_175 : decode cX10_fair 175 = .ok (.aload_n 0, 1) := by decide +kernel
theorem dX10_fair_176 : decode cX10_fair 176 = .ok (.getfield 46, 3) := by decide +kernel
theorem dX10_fair_179 : decode cX10_fair 179 = .ok (.iconst 0, 1) := by decide +kernel
theorem dX10_fair_180 : decode cX10_fair 180 = .ok (.iconst 0, 1) := by decide +kernel
theorem dX10_fair_181 : decode cX10_fair 181 = .ok (.bastore, 1) := by decide +kernel
theorem dX10_fair_182 : decode cX10_fair 182 = .ok (.aload_n 0, 1) := by decide +kernel
theorem dX10_fair_183 : decode cX10_fair 183 = .ok (.getfield 46, 3) := by decide +kernel
theorem dX10_fair_186 : decode cX10_fair 186 = .ok (.iconst 1, 1) := by decide +kernel
theorem dX10_fair_187 : decode cX10_fair 187 = .ok (.iconst 0, 1) := by decide +kernel
theorem dX10_fair_188 : decode cX10_fair 188 = .ok (.bastore, 1) := by decide +kernel
theorem dX10_fair_189 : decode cX10_fair 189 = .ok (.bipush 100, 2) := by decide +kernel
theorem dX10_fair_191 : decode cX10_fair 191 = .ok (.aload_n 0, 1) := by decide +kernel
theorem dX10_fair_192 : decode cX10_fair 192 = .ok (.getfield 75, 3) := by decide +kernel
theorem dX10_fair_195 : decode cX10_fair 195 = .ok (.imul, 1) := by decide +kernel
theorem dX10_fair_196 : decode cX10_fair 196 = .ok (.bipush 10, 2) := by decide +kernel
theorem dX10_fair_198 : decode cX10_fair 198 = .ok (.aload_n 0, 1) := by decide +kernel
theorem dX10_fair_199 : decode cX10_fair 199 = .ok (.getfield 82, 3) := by decide +kernel
theorem dX10_fair_202 : decode cX10_fair 202 = .ok (.imul, 1) := by decide +kernel
theorem dX10_fair_203 : decode cX10_fair 203 = .ok (.iadd, 1) := by decide +kernel
theorem dX10_fair_204 : decode cX10_fair 204 = .ok (.aload_n 0, 1) := by decide +kernel
theorem dX10_fair_205 : decode cX10_fair 205 = .ok (.getfield 134, 3) := by decide +kernel
theorem dX10_fair_208 : decode cX10_fair 208 = .ok (.iadd, 1) := by decide +kernel
theorem dX10_fair_209 : decode cX10_fair 209 = .ok (.ireturn, 1) := by decide +kernel
theorem dX10_firm_0 : decode cX10_firm 0 = .ok (.aload_n 0, 1) := by decide +kernel
theorem dX10_firm_1 : decode cX10_firm 1 = .ok (.getfield 13, 3) := by decide +kernel
theorem dX10_firm_4 : decode cX10_firm 4 = .ok (.iconst 3, 1) := by decide +kernel
theorem dX10_firm_5 : decode cX10_firm 5 = .ok (.iload_n 2, 1) := by decide +kernel
theorem dX10_firm_6 : decode cX10_firm 6 = .ok (.imul, 1) := by decide +kernel
theorem dX10_firm_7 : decode cX10_firm 7 = .ok (.iconst 1, 1) := by decide +kernel
theorem dX10_firm_8 : decode cX10_firm 8 = .ok (.iadd, 1) := by decide +kernel
theorem dX10_firm_9 : decode cX10_firm 9 = .ok (.iaload, 1) := by decide +kernel
theorem dX10_firm_10 : decode cX10_firm 10 = .ok (.aload_n 1, 1) := by decide +kernel
theorem dX10_firm_11 : decode cX10_firm 11 = .ok (.bipush 11, 2) := by decide +kernel
theorem dX10_firm_13 : decode cX10_firm 13 = .ok (.iaload, 1) := by decide +kernel
theorem dX10_firm_14 : decode cX10_firm 14 = .ok (.iload_n 2, 1) := by decide +kernel
theorem dX10_firm_15 : decode cX10_firm 15 = .ok (.invokestatic 144, 3) := by decide +kernel
theorem dX10_firm_18 : decode cX10_firm 18 = .ok (.ifCond .eq 7, 3) := by decide +kernel
theorem dX10_firm_21 : decode cX10_firm 21 = .ok (.iconst 4, 1) := by decide +kernel
theorem dX10_firm_22 : decode cX10_firm 22 = .ok (.goto 4, 3) := by decide +kernel
theorem dX10_firm_25 : decode cX10_firm 25 = .ok (.iconst 0, 1) := by decide +kernel
theorem dX10_firm_26 : decode cX10_firm 26 = .ok (.iadd, 1) := by decide +kernel
theorem dX10_firm_27 : decode cX10_firm 27 = .ok (.istore_n 3, 1) := by decide +kernel
theorem dX10_firm_28 : decode cX10_firm 28 = .ok (.aload_n 1, 1) := by decide +kernel
theorem dX10_firm_29 : decode cX10_firm 29 = .ok (.bipush 10, 2) := by decide +kernel
theorem dX10_firm_31 : decode cX10_firm 31 = .ok (.iaload, 1) := by decide +kernel
theorem dX10_firm_32 : decode cX10_firm 32 = .ok (.iload_n 2, 1) := by decide +kernel
theorem dX10_firm_33 : decode cX10_firm 33 = .ok (.invokestatic 144, 3) := by decide +kernel
theorem dX10_firm_36 : decode cX10_firm 36 = .ok (.ifCond .eq 16, 3) := by decide +kernel
theorem dX10_firm_39 : decode cX10_firm 39 = .ok (.iload_n 3, 1) := by decide +kernel
theorem dX10_firm_40 : decode cX10_firm 40 = .ok (.iconst 2, 1) := by decide +kernel
theorem dX10_firm_41 : decode cX10_firm 41 = .ok (.if_icmp .ge 7, 3) := by decide +kernel
theorem dX10_firm_44 : decode cX10_firm 44 = .ok (.iconst 1, 1) := by decide +kernel
theorem dX10_firm_45 : decode cX10_firm 45 = .ok (.goto 6, 3) := by decide +kernel
theorem dX10_firm_48 : decode cX10_firm 48 = .ok (.iload_n 3, 1) := by decide +kernel
theorem dX10_firm_49 : decode cX10_firm 49 = .ok (.iconst 2, 1) := by decide +kernel
theorem dX10_firm_50 : decode cX10_firm 50 = .ok (.idiv, 1) := by decide +kernel
theorem dX10_firm_51 : decode cX10_firm 51 = .ok (.istore_n 3, 1) := by decide +kernel
theorem dX10_firm_52 : decode cX10_firm 52 = .ok (.aload_n 0, 1) := by decide +kernel
theorem dX10_firm_53 : decode cX10_firm 53 = .ok (.getfield 13, 3) := by decide +kernel
theorem dX10_firm_56 : decode cX10_firm 56 = .ok (.iconst 3, 1) := by decide +kernel
theorem dX10_firm_57 : decode cX10_firm 57 = .ok (.iload_n 2, 1) := by decide +kernel
theorem dX10_firm_58 : decode cX10_firm 58 = .ok (.imul, 1) := by decide +kernel
theorem dX10_firm_59 : decode cX10_firm 59 = .ok (.iconst 2, 1) := by decide +kernel
theorem dX10_firm_60 : decode cX10_firm 60 = .ok (.iadd, 1) := by decide +kernel
theorem dX10_firm_61 : decode cX10_firm 61 = .ok (.iaload, 1) := by decide +kernel
theorem dX10_firm_62 : decode cX10_firm 62 = .ok (.iconst 2, 1) := by decide +kernel
theorem dX10_firm_63 : decode cX10_firm 63 = .ok (.if_icmp .ne 26, 3) := by decide +kernel
theorem dX10_firm_66 : decode cX10_firm 66 = .ok (.iload_n 3, 1) := by decide +kernel
theorem dX10_firm_67 : decode cX10_firm 67 = .ok (.aload_n 1, 1) := by decide +kernel
theorem dX10_firm_68 : decode cX10_firm 68 = .ok (.iconst 5, 1) := by decide +kernel
theorem dX10_firm_69 : decode cX10_firm 69 = .ok (.iload_n 2, 1) := by decide +kernel
theorem dX10_firm_70 : decode cX10_firm 70 = .ok (.iadd, 1) := by decide +kernel
theorem dX10_firm_71 : decode cX10_firm 71 = .ok (.iaload, 1) := by decide +kernel
theorem dX10_firm_72 : decode cX10_firm 72 = .ok (.isub, 1) := by decide +kernel
theorem dX10_firm_73 : decode cX10_firm 73 = .ok (.iconst 1, 1) := by decide +kernel
theorem dX10_firm_74 : decode cX10_firm 74 = .ok (.if_icmp .ge 7, 3) := by decide +kernel
theorem dX10_firm_77 : decode cX10_firm 77 = .ok (.iconst 1, 1) := by decide +kernel
theorem dX10_firm_78 : decode cX10_firm 78 = .ok (.goto 10, 3) := by decide +kernel
theorem dX10_firm_81 : decode cX10_firm 81 = .ok (.iload_n 3, 1) := by decide +kernel
theorem dX10_firm_82 : decode cX10_firm 82 = .ok (.aload_n 1, 1) := by decide +kernel
theorem dX10_firm_83 : decode cX10_firm 83 = .ok (.iconst 5, 1) := by decide +kernel
theorem dX10_firm_84 : decode cX10_firm 84 = .ok (.iload_n 2, 1) := by decide +kernel
theorem dX10_firm_85 : decode cX10_firm 85 = .ok (.iadd, 1) := by decide +kernel
theorem dX10_firm_86 : decode cX10_firm 86 = .ok (.iaload, 1) := by decide +kernel
theorem dX10_firm_87 : decode cX10_firm 87 = .ok (.isub, 1) := by decide +kernel
theorem dX10_firm_88 : decode cX10_firm 88 = .ok (.istore_n 3, 1) := by decide +kernel
theorem dX10_firm_89 : decode cX10_firm 89 = .ok (.iload_n 3, 1) := by decide +kernel
theorem dX10_firm_90 : decode cX10_firm 90 = .ok (.ireturn, 1) := by decide +kernel
theorem dX10_blows_0 : decode cX10_blows 0 = .ok (.aload_n 0, 1) := by decide +kernel
theorem dX10_blows_1 : decode cX10_blows 1 = .ok (.getfield 16, 3) := by decide +kernel
theorem dX10_blows_4 : decode cX10_blows 4 = .ok (.iconst 3, 1) := by decide +kernel
theorem dX10_blows_5 : decode cX10_blows 5 = .ok (.iload_n 2, 1) := by decide +kernel
theorem dX10_blows_6 : decode cX10_blows 6 = .ok (.imul, 1) := by decide +kernel
theorem dX10_blows_7 : decode cX10_blows 7 = .ok (.iconst 2, 1) := by decide +kernel
theorem dX10_blows_8 : decode cX10_blows 8 = .ok (.iadd, 1) := by decide +kernel
theorem dX10_blows_9 : decode cX10_blows 9 = .ok (.iaload, 1) := by decide +kernel
theorem dX10_blows_10 : decode cX10_blows 10 = .ok (.iconst 1, 1) := by decide +kernel
theorem dX10_blows_11 : decode cX10_blows 11 = .ok (.if_icmp .ne 7, 3) := by decide +kernel
theorem dX10_blows_14 : decode cX10_blows 14 = .ok (.iconst 0, 1) := by decide +kernel
theorem dX10_blows_15 : decode cX10_blows 15 = .ok (.goto 9, 3) := by decide +kernel
theorem dX10_blows_18 : decode cX10_blows 18 = .ok (.aload_n 1, 1) := by decide +kernel
theorem dX10_blows_19 : decode cX10_blows 19 = .ok (.bipush 13, 2) := by decide +kernel
theorem dX10_blows_21 : decode cX10_blows 21 = .ok (.iaload, 1) := by decide +kernel
theorem dX10_blows_22 : decode cX10_blows 22 = .ok (.iconst 1, 1) := by decide +kernel
theorem dX10_blows_23 : decode cX10_blows 23 = .ok (.isub, 1) := by decide +kernel
theorem dX10_blows_24 : decode cX10_blows 24 = .ok (.ireturn, 1) := by decide +kernel
theorem dX10_force_0 : decode cX10_force 0 = .ok (.aload_n 0, 1) := by decide +kernel
theorem dX10_force_1 : decode cX10_force 1 = .ok (.getfield 16, 3) := by decide +kernel
theorem dX10_force_4 : decode cX10_force 4 = .ok (.iconst 3, 1) := by decide +kernel
theorem dX10_force_5 : decode cX10_force 5 = .ok (.iload_n 1, 1) := by decide +kernel
theorem dX10_force_6 : decode cX10_force 6 = .ok (.imul, 1) := by decide +kernel
theorem dX10_force_7 : decode cX10_force 7 = .ok (.iconst 1, 1) := by decide +kernel
theorem dX10_force_8 : decode cX10_force 8 = .ok (.iadd, 1) := by decide +kernel
theorem dX10_force_9 : decode cX10_force 9 = .ok (.iaload, 1) := by decide +kernel
theorem dX10_force_10 : decode cX10_force 10 = .ok (.aload_n 0, 1) := by decide +kernel
theorem dX10_force_11 : decode cX10_force 11 = .ok (.getfield 16, 3) := by decide +kernel
theorem dX10_force_14 : decode cX10_force 14 = .ok (.iconst 3, 1) := by decide +kernel
theorem dX10_force_15 : decode cX10_force 15 = .ok (.iload_n 1, 1) := by decide +kernel
theorem dX10_force_16 : decode cX10_force 16 = .ok (.imul, 1) := by decide +kernel
theorem dX10_force_17 : decode cX10_force 17 = .ok (.iconst 2, 1) := by decide +kernel
theorem dX10_force_18 : decode cX10_force 18 = .ok (.iadd, 1) := by decide +kernel
theorem dX10_force_19 : decode cX10_force 19 = .ok (.iaload, 1) := by decide +kernel
theorem dX10_force_20 : decode cX10_force 20 = .ok (.iconst 3, 1) := by decide +kernel
theorem dX10_force_21 : decode cX10_force 21 = .ok (.if_icmp .ne 7, 3) := by decide +kernel
theorem dX10_force_24 : decode cX10_force 24 = .ok (.iconst 2, 1) := by decide +kernel
theorem dX10_force_25 : decode cX10_force 25 = .ok (.goto 4, 3) := by decide +kernel
theorem dX10_force_28 : decode cX10_force 28 = .ok (.iconst 0, 1) := by decide +kernel
theorem dX10_force_29 : decode cX10_force 29 = .ok (.iadd, 1) := by decide +kernel
theorem dX10_force_30 : decode cX10_force 30 = .ok (.ireturn, 1) := by decide +kernel
theorem dX10_landing_0 : decode cX10_landing 0 = .ok (.aload_n 0, 1) := by decide +kernel
theorem dX10_landing_1 : decode cX10_landing 1 = .ok (.getfield 16, 3) := by decide +kernel
theorem dX10_landing_4 : decode cX10_landing 4 = .ok (.iconst 3, 1) := by decide +kernel
theorem dX10_landing_5 : decode cX10_landing 5 = .ok (.iload_n 2, 1) := by decide +kernel
theorem dX10_landing_6 : decode cX10_landing 6 = .ok (.imul, 1) := by decide +kernel
theorem dX10_landing_7 : decode cX10_landing 7 = .ok (.iaload, 1) := by decide +kernel
theorem dX10_landing_8 : decode cX10_landing 8 = .ok (.aload_n 0, 1) := by decide +kernel
theorem dX10_landing_9 : decode cX10_landing 9 = .ok (.getfield 16, 3) := by decide +kernel
theorem dX10_landing_12 : decode cX10_landing 12 = .ok (.iconst 3, 1) := by decide +kernel
theorem dX10_landing_13 : decode cX10_landing 13 = .ok (.iload_n 2, 1) := by decide +kernel
theorem dX10_landing_14 : decode cX10_landing 14 = .ok (.imul, 1) := by decide +kernel
theorem dX10_landing_15 : decode cX10_landing 15 = .ok (.iconst 2, 1) := by decide +kernel
theorem dX10_landing_16 : decode cX10_landing 16 = .ok (.iadd, 1) := by decide +kernel
theorem dX10_landing_17 : decode cX10_landing 17 = .ok (.iaload, 1) := by decide +kernel
theorem dX10_landing_18 : decode cX10_landing 18 = .ok (.iconst 3, 1) := by decide +kernel
theorem dX10_landing_19 : decode cX10_landing 19 = .ok (.if_icmp .ne 7, 3) := by decide +kernel
theorem dX10_landing_22 : decode cX10_landing 22 = .ok (.iconst 1, 1) := by decide +kernel
theorem dX10_landing_23 : decode cX10_landing 23 = .ok (.goto 4, 3) := by decide +kernel
theorem dX10_landing_26 : decode cX10_landing 26 = .ok (.iconst 0, 1) := by decide +kernel
theorem dX10_landing_27 : decode cX10_landing 27 = .ok (.iadd, 1) := by decide +kernel
theorem dX10_landing_28 : decode cX10_landing 28 = .ok (.istore 5, 2) := by decide +kernel
theorem dX10_landing_30 : decode cX10_landing 30 = .ok (.iload 4, 2) := by decide +kernel
theorem dX10_landing_32 : decode cX10_landing 32 = .ok (.ifCond .ne 7, 3) := by decide +kernel
theorem dX10_landing_35 : decode cX10_landing 35 = .ok (.iconst 0, 1) := by decide +kernel
theorem dX10_landing_36 : decode cX10_landing 36 = .ok (.goto 17, 3) := by decide +kernel
theorem dX10_landing_39 : decode cX10_landing 39 = .ok (.iload 4, 2) := by decide +kernel
theorem dX10_landing_41 : decode cX10_landing 41 = .ok (.iconst 1, 1) := by decide +kernel
theorem dX10_landing_42 : decode cX10_landing 42 = .ok (.if_icmp .ne 8, 3) := by decide +kernel
theorem dX10_landing_45 : decode cX10_landing 45 = .ok (.iload 5, 2) := by decide +kernel
theorem dX10_landing_47 : decode cX10_landing 47 = .ok (.goto 6, 3) := by decide +kernel
theorem dX10_landing_50 : decode cX10_landing 50 = .ok (.iload 5, 2) := by decide +kernel
theorem dX10_landing_52 : decode cX10_landing 52 = .ok (.ineg, 1) := by decide +kernel
theorem dX10_landing_53 : decode cX10_landing 53 = .ok (.istore 6, 2) := by decide +kernel
theorem dX10_landing_55 : decode cX10_landing 55 = .ok (.iload_n 3, 1) := by decide +kernel
theorem dX10_landing_56 : decode cX10_landing 56 = .ok (.aload_n 0, 1) := by decide +kernel
theorem dX10_landing_57 : decode cX10_landing 57 = .ok (.getfield 16, 3) := by decide +kernel
theorem dX10_landing_60 : decode cX10_landing 60 = .ok (.iconst 3, 1) := by decide +kernel
theorem dX10_landing_61 : decode cX10_landing 61 = .ok (.iload_n 2, 1) := by decide +kernel
theorem dX10_landing_62 : decode cX10_landing 62 = .ok (.imul, 1) := by decide +kernel
theorem dX10_landing_63 : decode cX10_landing 63 = .ok (.iconst 2, 1) := by decide +kernel
theorem dX10_landing_64 : decode cX10_landing 64 = .ok (.iadd, 1) := by decide +kernel
theorem dX10_landing_65 : decode cX10_landing 65 = .ok (.iaload, 1) := by decide +kernel
theorem dX10_landing_66 : decode cX10_landing 66 = .ok (.iconst 2, 1) := by decide +kernel
theorem dX10_landing_67 : decode cX10_landing 67 = .ok (.if_icmp .ne 9, 3) := by decide +kernel
theorem dX10_landing_70 : decode cX10_landing 70 = .ok (.iload 6, 2) := by decide +kernel
theorem dX10_landing_72 : decode cX10_landing 72 = .ok (.ineg, 1) := by decide +kernel
theorem dX10_landing_73 : decode cX10_landing 73 = .ok (.goto 5, 3) := by decide +kernel
theorem dX10_landing_76 : decode cX10_landing 76 = .ok (.iload 6, 2) := by decide +kernel
theorem dX10_landing_78 : decode cX10_landing 78 = .ok (.iadd, 1) := by decide +kernel
theorem dX10_landing_79 : decode cX10_landing 79 = .ok (.aload_n 0, 1) := by decide +kernel
theorem dX10_landing_80 : decode cX10_landing 80 = .ok (.aload_n 1, 1) := by decide +kernel
theorem dX10_landing_81 : decode cX10_landing 81 = .ok (.iload_n 2, 1) := by decide +kernel
theorem dX10_landing_82 : decode cX10_landing 82 = .ok (.invokevirtual 148, 3) := by decide +kernel
theorem dX10_landing_85 : decode cX10_landing 85 = .ok (.iadd, 1) := by decide +kernel
theorem dX10_landing_86 : decode cX10_landing 86 = .ok (.istore 7, 2) := by decide +kernel
theorem dX10_landing_88 : decode cX10_landing 88 = .ok (.iload 7, 2) := by decide +kernel
theorem dX10_landing_90 : decode cX10_landing 90 = .ok (.i2l, 1) := by decide +kernel
theorem dX10_landing_91 : decode cX10_landing 91 = .ok (.lconst 0, 1) := by decide +kernel
theorem dX10_landing_92 : decode cX10_landing 92 = .ok (.ldc2_w 93, 3) := by decide +kernel
theorem dX10_landing_95 : decode cX10_landing 95 = .ok (.invokestatic 78, 3) := by decide +kernel
theorem dX10_landing_98 : decode cX10_landing 98 = .ok (.ifCond .eq 8, 3) := by decide +kernel
theorem dX10_landing_101 : decode cX10_landing 101 = .ok (.iload 7, 2) := by decide +kernel
theorem dX10_landing_103 : decode cX10_landing 103 = .ok (.goto 5, 3) := by decide +kernel
theorem dX10_landing_106 : decode cX10_landing 106 = .ok (.bipush 8, 2) := by decide +kernel
theorem dX10_landing_108 : decode cX10_landing 108 = .ok (.ireturn, 1) := by decide +kernel
theorem dX10_huskAt_0 : decode cX10_huskAt 0 = .ok (.bipush (-9), 2) := by decide +kernel
theorem dX10_huskAt_2 : decode cX10_huskAt 2 = .ok (.istore_n 2, 1) := by decide +kernel
theorem dX10_huskAt_3 : decode cX10_huskAt 3 = .ok (.iconst 0, 1) := by decide +kernel
theorem dX10_huskAt_4 : decode cX10_huskAt 4 = .ok (.istore_n 3, 1) := by decide +kernel
theorem dX10_huskAt_5 : decode cX10_huskAt 5 = .ok (.iload_n 3, 1) := by decide +kernel
theorem dX10_huskAt_6 : decode cX10_huskAt 6 = .ok (.aload_n 0, 1) := by decide +kernel
theorem dX10_huskAt_7 : decode cX10_huskAt 7 = .ok (.getfield 75, 3) := by decide +kernel
theorem dX10_huskAt_10 : decode cX10_huskAt 10 = .ok (.if_icmp .ge 27, 3) := by decide +kernel
theorem dX10_huskAt_13 : decode cX10_huskAt 13 = .ok (.aload_n 0, 1) := by decide +kernel
theorem dX10_huskAt_14 : decode cX10_huskAt 14 = .ok (.getfield 13, 3) := by decide +kernel
theorem dX10_huskAt_17 : decode cX10_huskAt 17 = .ok (.iconst 3, 1) := by decide +kernel
theorem dX10_huskAt_18 : decode cX10_huskAt 18 = .ok (.iload_n 3, 1) := by decide +kernel
theorem dX10_huskAt_19 : decode cX10_huskAt 19 = .ok (.imul, 1) := by decide +kernel
theorem dX10_huskAt_20 : decode cX10_huskAt 20 = .ok (.iaload, 1) := by decide +kernel
theorem dX10_huskAt_21 : decode cX10_huskAt 21 = .ok (.iload_n 1, 1) := by decide +kernel
theorem dX10_huskAt_22 : decode cX10_huskAt 22 = .ok (.if_icmp .ne 7, 3) := by decide +kernel
theorem dX10_huskAt_25 : decode cX10_huskAt 25 = .ok (.iload_n 3, 1) := by decide +kernel
theorem dX10_huskAt_26 : decode cX10_huskAt 26 = .ok (.goto 4, 3) := by decide +kernel
theorem dX10_huskAt_29 : decode cX10_huskAt 29 = .ok (.iload_n 2, 1) := by decide +kernel
theorem dX10_huskAt_30 : decode cX10_huskAt 30 = .ok (.istore_n 2, 1) := by decide +kernel
theorem dX10_huskAt_31 : decode cX10_huskAt 31 = .ok (.iinc 3 1, 3) := by decide +kernel
theorem dX10_huskAt_34 : decode cX10_huskAt 34 = .ok (.goto (-29), 3) := by decide +kernel
theorem dX10_huskAt_37 : decode cX10_huskAt 37 = .ok (.iload_n 2, 1) := by decide +kernel
theorem dX10_huskAt_38 : decode cX10_huskAt 38 = .ok (.ireturn, 1) := by decide +kernel
theorem dX10_stand_0 : decode cX10_stand 0 = .ok (.aload_n 0, 1) := by decide +kernel
theorem dX10_stand_1 : decode cX10_stand 1 = .ok (.bipush 12, 2) := by decide +kernel
theorem dX10_stand_3 : decode cX10_stand 3 = .ok (.dup2, 1) := by decide +kernel
theorem dX10_stand_4 : decode cX10_stand 4 = .ok (.iaload, 1) := by decide +kernel
theorem dX10_stand_5 : decode cX10_stand 5 = .ok (.iconst 1, 1) := by decide +kernel
theorem dX10_stand_6 : decode cX10_stand 6 = .ok (.iload_n 1, 1) := by decide +kernel
theorem dX10_stand_7 : decode cX10_stand 7 = .ok (.ishl, 1) := by decide +kernel
theorem dX10_stand_8 : decode cX10_stand 8 = .ok (.iconst (-1), 1) := by decide +kernel
theorem dX10_stand_9 : decode cX10_stand 9 = .ok (.ixor, 1) := by decide +kernel
theorem dX10_stand_10 : decode cX10_stand 10 = .ok (.iand, 1) := by decide +kernel
theorem dX10_stand_11 : decode cX10_stand 11 = .ok (.iastore, 1) := by decide +kernel
theorem dX10_stand_12 : decode cX10_stand 12 = .ok (.aload_n 0, 1) := by decide +kernel
theorem dX10_stand_13 : decode cX10_stand 13 = .ok (.iconst 0, 1) := by decide +kernel
theorem dX10_stand_14 : decode cX10_stand 14 = .ok (.iload_n 1, 1) := by decide +kernel
theorem dX10_stand_15 : decode cX10_stand 15 = .ok (.iadd, 1) := by decide +kernel
theorem dX10_stand_16 : decode cX10_stand 16 = .ok (.iconst 0, 1) := by decide +kernel
theorem dX10_stand_17 : decode cX10_stand 17 = .ok (.iastore, 1) := by decide +kernel
theorem dX10_stand_18 : decode cX10_stand 18 = .ok (.return_, 1) := by decide +kernel
theorem dX10_fall_0 : decode cX10_fall 0 = .ok (.aload_n 1, 1) := by decide +kernel
theorem dX10_fall_1 : decode cX10_fall 1 = .ok (.bipush 12, 2) := by decide +kernel
theorem dX10_fall_3 : decode cX10_fall 3 = .ok (.dup2, 1) := by decide +kernel
theorem dX10_fall_4 : decode cX10_fall 4 = .ok (.iaload, 1) := by decide +kernel
theorem dX10_fall_5 : decode cX10_fall 5 = .ok (.iconst 1, 1) := by decide +kernel
theorem dX10_fall_6 : decode cX10_fall 6 = .ok (.iload_n 2, 1) := by decide +kernel
theorem dX10_fall_7 : decode cX10_fall 7 = .ok (.ishl, 1) := by decide +kernel
theorem dX10_fall_8 : decode cX10_fall 8 = .ok (.ior, 1) := by decide +kernel
theorem dX10_fall_9 : decode cX10_fall 9 = .ok (.iastore, 1) := by decide +kernel
theorem dX10_fall_10 : decode cX10_fall 10 = .ok (.aload_n 0, 1) := by decide +kernel
theorem dX10_fall_11 : decode cX10_fall 11 = .ok (.dup, 1) := by decide +kernel
theorem dX10_fall_12 : decode cX10_fall 12 = .ok (.getfield 152, 3) := by decide +kernel
theorem dX10_fall_15 : decode cX10_fall 15 = .ok (.iconst 1, 1) := by decide +kernel
theorem dX10_fall_16 : decode cX10_fall 16 = .ok (.iload_n 2, 1) := by decide +kernel
theorem dX10_fall_17 : decode cX10_fall 17 = .ok (.ishl, 1) := by decide +kernel
theorem dX10_fall_18 : decode cX10_fall 18 = .ok (.ior, 1) := by decide +kernel
theorem dX10_fall_19 : decode cX10_fall 19 = .ok (.putfield 152, 3) := by decide +kernel
theorem dX10_fall_22 : decode cX10_fall 22 = .ok (.aload_n 0, 1) := by decide +kernel
theorem dX10_fall_23 : decode cX10_fall 23 = .ok (.getfield 59, 3) := by decide +kernel
theorem dX10_fall_26 : decode cX10_fall 26 = .ok (.iconst 0, 1) := by decide +kernel
theorem dX10_fall_27 : decode cX10_fall 27 = .ok (.iload_n 2, 1) := by decide +kernel
theorem dX10_fall_28 : decode cX10_fall 28 = .ok (.iastore, 1) := by decide +kernel
theorem dX10_fall_29 : decode cX10_fall 29 = .ok (.aload_n 0, 1) := by decide +kernel
theorem dX10_fall_30 : decode cX10_fall 30 = .ok (.getfield 62, 3) := by decide +kernel
theorem dX10_fall_33 : decode cX10_fall 33 = .ok (.iconst 0, 1) := by decide +kernel
theorem dX10_fall_34 : decode cX10_fall 34 = .ok (.iconst 0, 1) := by decide +kernel
theorem dX10_fall_35 : decode cX10_fall 35 = .ok (.iastore, 1) := by decide +kernel
theorem dX10_fall_36 : decode cX10_fall 36 = .ok (.iconst 0, 1) := by decide +kernel
theorem dX10_fall_37 : decode cX10_fall 37 = .ok (.istore_n 3, 1) := by decide +kernel
theorem dX10_fall_38 : decode cX10_fall 38 = .ok (.iload_n 3, 1) := by decide +kernel
theorem dX10_fall_39 : decode cX10_fall 39 = .ok (.ifCond .lt 200, 3) := by decide +kernel
theorem dX10_fall_42 : decode cX10_fall 42 = .ok (.aload_n 0, 1) := by decide +kernel
theorem dX10_fall_43 : decode cX10_fall 43 = .ok (.getfield 62, 3) := by decide +kernel
theorem dX10_fall_46 : decode cX10_fall 46 = .ok (.iload_n 3, 1) := by decide +kernel
theorem dX10_fall_47 : decode cX10_fall 47 = .ok (.iaload, 1) := by decide +kernel
theorem dX10_fall_48 : decode cX10_fall 48 = .ok (.istore 4, 2) := by decide +kernel
theorem dX10_fall_50 : decode cX10_fall 50 = .ok (.iload 4, 2) := by decide +kernel
theorem dX10_fall_52 : decode cX10_fall 52 = .ok (.aload_n 0, 1) := by decide +kernel
theorem dX10_fall_53 : decode cX10_fall 53 = .ok (.getfield 134, 3) := by decide +kernel
theorem dX10_fall_56 : decode cX10_fall 56 = .ok (.if_icmp .ne 9, 3) := by decide +kernel
theorem dX10_fall_59 : decode cX10_fall 59 = .ok (.iinc 3 (-1), 3) := by decide +kernel
theorem dX10_fall_62 : decode cX10_fall 62 = .ok (.goto 174, 3) := by decide +kernel
theorem dX10_fall_65 : decode cX10_fall 65 = .ok (.aload_n 0, 1) := by decide +kernel
theorem dX10_fall_66 : decode cX10_fall 66 = .ok (.getfield 62, 3) := by decide +kernel
theorem dX10_fall_69 : decode cX10_fall 69 = .ok (.iload_n 3, 1) := by decide +kernel
theorem dX10_fall_70 : decode cX10_fall 70 = .ok (.dup2, 1) := by decide +kernel
theorem dX10_fall_71 : decode cX10_fall 71 = .ok (.iaload, 1) := by decide +kernel
theorem dX10_fall_72 : decode cX10_fall 72 = .ok (.iconst 1, 1) := by decide +kernel
theorem dX10_fall_73 : decode cX10_fall 73 = .ok (.iadd, 1) := by decide +kernel
theorem dX10_fall_74 : decode cX10_fall 74 = .ok (.iastore, 1) := by decide +kernel
theorem dX10_fall_75 : decode cX10_fall 75 = .ok (.aload_n 0, 1) := by decide +kernel
theorem dX10_fall_76 : decode cX10_fall 76 = .ok (.getfield 19, 3) := by decide +kernel
theorem dX10_fall_79 : decode cX10_fall 79 = .ok (.iconst 3, 1) := by decide +kernel
theorem dX10_fall_80 : decode cX10_fall 80 = .ok (.iload 4, 2) := by decide +kernel
theorem dX10_fall_82 : decode cX10_fall 82 = .ok (.imul, 1) := by decide +kernel
theorem dX10_fall_83 : decode cX10_fall 83 = .ok (.iconst 1, 1) := by decide +kernel
theorem dX10_fall_84 : decode cX10_fall 84 = .ok (.iadd, 1) := by decide +kernel
theorem dX10_fall_85 : decode cX10_fall 85 = .ok (.iaload, 1) := by decide +kernel
theorem dX10_fall_86 : decode cX10_fall 86 = .ok (.istore 5, 2) := by decide +kernel
theorem dX10_fall_88 : decode cX10_fall 88 = .ok (.aload_n 0, 1) := by decide +kernel
theorem dX10_fall_89 : decode cX10_fall 89 = .ok (.getfield 19, 3) := by decide +kernel
theorem dX10_fall_92 : decode cX10_fall 92 = .ok (.iconst 3, 1) := by decide +kernel
theorem dX10_fall_93 : decode cX10_fall 93 = .ok (.iload 4, 2) := by decide +kernel
theorem dX10_fall_95 : decode cX10_fall 95 = .ok (.imul, 1) := by decide +kernel
theorem dX10_fall_96 : decode cX10_fall 96 = .ok (.iaload, 1) := by decide +kernel
theorem dX10_fall_97 : decode cX10_fall 97 = .ok (.aload_n 0, 1) := by decide +kernel
theorem dX10_fall_98 : decode cX10_fall 98 = .ok (.getfield 59, 3) := by decide +kernel
theorem dX10_fall_101 : decode cX10_fall 101 = .ok (.iload_n 3, 1) := by decide +kernel
theorem dX10_fall_102 : decode cX10_fall 102 = .ok (.iaload, 1) := by decide +kernel
theorem dX10_fall_103 : decode cX10_fall 103 = .ok (.if_icmp .ne 7, 3) := by decide +kernel
theorem dX10_fall_106 : decode cX10_fall 106 = .ok (.iconst 1, 1) := by decide +kernel
theorem dX10_fall_107 : decode cX10_fall 107 = .ok (.goto 4, 3) := by decide +kernel
theorem dX10_fall_110 : decode cX10_fall 110 = .ok (.iconst 0, 1) := by decide +kernel
theorem dX10_fall_111 : decode cX10_fall 111 = .ok (.istore 6, 2) := by decide +kernel
theorem dX10_fall_113 : decode cX10_fall 113 = .ok (.iload 6, 2) := by decide +kernel
theorem dX10_fall_115 : decode cX10_fall 115 = .ok (.ifCond .eq 36, 3) := by decide +kernel
theorem dX10_fall_118 : decode cX10_fall 118 = .ok (.aload_n 0, 1) := by decide +kernel
theorem dX10_fall_119 : decode cX10_fall 119 = .ok (.getfield 19, 3) := by decide +kernel
theorem dX10_fall_122 : decode cX10_fall 122 = .ok (.iconst 3, 1) := by decide +kernel
theorem dX10_fall_123 : decode cX10_fall 123 = .ok (.iload 4, 2) := by decide +kernel
theorem dX10_fall_125 : decode cX10_fall 125 = .ok (.imul, 1) := by decide +kernel
theorem dX10_fall_126 : decode cX10_fall 126 = .ok (.iconst 2, 1) := by decide +kernel
theorem dX10_fall_127 : decode cX10_fall 127 = .ok (.iadd, 1) := by decide +kernel
theorem dX10_fall_128 : decode cX10_fall 128 = .ok (.iaload, 1) := by decide +kernel
theorem dX10_fall_129 : decode cX10_fall 129 = .ok (.iconst 1, 1) := by decide +kernel
theorem dX10_fall_130 : decode cX10_fall 130 = .ok (.if_icmp .ne 21, 3) := by decide +kernel
theorem dX10_fall_133 : decode cX10_fall 133 = .ok (.aload_n 1, 1) := by decide +kernel
theorem dX10_fall_134 : decode cX10_fall 134 = .ok (.bipush 12, 2) := by decide +kernel
theorem dX10_fall_136 : decode cX10_fall 136 = .ok (.iaload, 1) := by decide +kernel
theorem dX10_fall_137 : decode cX10_fall 137 = .ok (.iload 5, 2) := by decide +kernel
theorem dX10_fall_139 : decode cX10_fall 139 = .ok (.invokestatic 144, 3) := by decide +kernel
theorem dX10_fall_142 : decode cX10_fall 142 = .ok (.ifCond .eq 9, 3) := by decide +kernel
theorem dX10_fall_145 : decode cX10_fall 145 = .ok (.aload_n 1, 1) := by decide +kernel
theorem dX10_fall_146 : decode cX10_fall 146 = .ok (.iload 5, 2) := by decide +kernel
theorem dX10_fall_148 : decode cX10_fall 148 = .ok (.invokestatic 155, 3) := by decide +kernel
theorem dX10_fall_151 : decode cX10_fall 151 = .ok (.iload 6, 2) := by decide +kernel
theorem dX10_fall_153 : decode cX10_fall 153 = .ok (.ifCond .eq 83, 3) := by decide +kernel
theorem dX10_fall_156 : decode cX10_fall 156 = .ok (.aload_n 0, 1) := by decide +kernel
theorem dX10_fall_157 : decode cX10_fall 157 = .ok (.getfield 19, 3) := by decide +kernel
theorem dX10_fall_160 : decode cX10_fall 160 = .ok (.iconst 3, 1) := by decide +kernel
theorem dX10_fall_161 : decode cX10_fall 161 = .ok (.iload 4, 2) := by decide +kernel
theorem dX10_fall_163 : decode cX10_fall 163 = .ok (.imul, 1) := by decide +kernel
theorem dX10_fall_164 : decode cX10_fall 164 = .ok (.iconst 2, 1) := by decide +kernel
theorem dX10_fall_165 : decode cX10_fall 165 = .ok (.iadd, 1) := by decide +kernel
theorem dX10_fall_166 : decode cX10_fall 166 = .ok (.iaload, 1) := by decide +kernel
theorem dX10_fall_167 : decode cX10_fall 167 = .ok (.ifCond .ne 69, 3) := by decide +kernel
theorem dX10_fall_170 : decode cX10_fall 170 = .ok (.aload_n 1, 1) := by decide +kernel
theorem dX10_fall_171 : decode cX10_fall 171 = .ok (.bipush 12, 2) := by decide +kernel
theorem dX10_fall_173 : decode cX10_fall 173 = .ok (.iaload, 1) := by decide +kernel
theorem dX10_fall_174 : decode cX10_fall 174 = .ok (.iload 5, 2) := by decide +kernel
theorem dX10_fall_176 : decode cX10_fall 176 = .ok (.invokestatic 144, 3) := by decide +kernel
theorem dX10_fall_179 : decode cX10_fall 179 = .ok (.ifCond .ne 57, 3) := by decide +kernel
theorem dX10_fall_182 : decode cX10_fall 182 = .ok (.aload_n 0, 1) := by decide +kernel
theorem dX10_fall_183 : decode cX10_fall 183 = .ok (.getfield 152, 3) := by decide +kernel
theorem dX10_fall_186 : decode cX10_fall 186 = .ok (.iload 5, 2) := by decide +kernel
theorem dX10_fall_188 : decode cX10_fall 188 = .ok (.invokestatic 144, 3) := by decide +kernel
theorem dX10_fall_191 : decode cX10_fall 191 = .ok (.ifCond .ne 45, 3) := by decide +kernel
theorem dX10_fall_194 : decode cX10_fall 194 = .ok (.aload_n 1, 1) := by decide +kernel
theorem dX10_fall_195 : decode cX10_fall 195 = .ok (.bipush 12, 2) := by decide +kernel
theorem dX10_fall_197 : decode cX10_fall 197 = .ok (.dup2, 1) := by decide +kernel
theorem dX10_fall_198 : decode cX10_fall 198 = .ok (.iaload, 1) := by decide +kernel
theorem dX10_fall_199 : decode cX10_fall 199 = .ok (.iconst 1, 1) := by decide +kernel
theorem dX10_fall_200 : decode cX10_fall 200 = .ok (.iload 5, 2) := by decide +kernel
theorem dX10_fall_202 : decode cX10_fall 202 = .ok (.ishl, 1) := by decide +kernel
theorem dX10_fall_203 : decode cX10_fall 203 = .ok (.ior, 1) := by decide +kernel
theorem dX10_fall_204 : decode cX10_fall 204 = .ok (.iastore, 1) := by decide +kernel
theorem dX10_fall_205 : decode cX10_fall 205 = .ok (.aload_n 0, 1) := by decide +kernel
theorem dX10_fall_206 : decode cX10_fall 206 = .ok (.dup, 1) := by decide +kernel
theorem dX10_fall_207 : decode cX10_fall 207 = .ok (.getfield 152, 3) := by decide +kernel
theorem dX10_fall_210 : decode cX10_fall 210 = .ok (.iconst 1, 1) := by decide +kernel
theorem dX10_fall_211 : decode cX10_fall 211 = .ok (.iload 5, 2) := by decide +kernel
theorem dX10_fall_213 : decode cX10_fall 213 = .ok (.ishl, 1) := by decide +kernel
theorem dX10_fall_214 : decode cX10_fall 214 = .ok (.ior, 1) := by decide +kernel
theorem dX10_fall_215 : decode cX10_fall 215 = .ok (.putfield 152, 3) := by decide +kernel
theorem dX10_fall_218 : decode cX10_fall 218 = .ok (.iinc 3 1, 3) := by decide +kernel
theorem dX10_fall_221 : decode cX10_fall 221 = .ok (.aload_n 0, 1) := by decide +kernel
theorem dX10_fall_222 : decode cX10_fall 222 = .ok (.getfield 59, 3) := by decide +kernel
theorem dX10_fall_225 : decode cX10_fall 225 = .ok (.iload_n 3, 1) := by decide +kernel
theorem dX10_fall_226 : decode cX10_fall 226 = .ok (.iload 5, 2) := by decide +kernel
theorem dX10_fall_228 : decode cX10_fall 228 = .ok (.iastore, 1) := by decide +kernel
theorem dX10_fall_229 : decode cX10_fall 229 = .ok (.aload_n 0, 1) := by decide +kernel
theorem dX10_fall_230 : decode cX10_fall 230 = .ok (.getfield 62, 3) := by decide +kernel
theorem dX10_fall_233 : decode cX10_fall 233 = .ok (.iload_n 3, 1) := by decide +kernel
theorem dX10_fall_234 : decode cX10_fall 234 = .ok (.iconst 0, 1) := by decide +kernel
theorem dX10_fall_235 : decode cX10_fall 235 = .ok (.iastore, 1) := by decide +kernel
theorem dX10_fall_236 : decode cX10_fall 236 = .ok (.goto (-198), 3) := by decide +kernel
theorem dX10_fall_239 : decode cX10_fall 239 = .ok (.return_, 1) := by decide +kernel
theorem dX10_goThrow_0 : decode cX10_goThrow 0 = .ok (.aload_n 0, 1) := by decide +kernel
theorem dX10_goThrow_1 : decode cX10_goThrow 1 = .ok (.iconst 0, 1) := by decide +kernel
theorem dX10_goThrow_2 : decode cX10_goThrow 2 = .ok (.putfield 152, 3) := by decide +kernel
theorem dX10_goThrow_5 : decode cX10_goThrow 5 = .ok (.aload_n 0, 1) := by decide +kernel
theorem dX10_goThrow_6 : decode cX10_goThrow 6 = .ok (.aload_n 1, 1) := by decide +kernel
theorem dX10_goThrow_7 : decode cX10_goThrow 7 = .ok (.iload_n 2, 1) := by decide +kernel
theorem dX10_goThrow_8 : decode cX10_goThrow 8 = .ok (.iload_n 3, 1) := by decide +kernel
theorem dX10_goThrow_9 : decode cX10_goThrow 9 = .ok (.iload 4, 2) := by decide +kernel
theorem dX10_goThrow_11 : decode cX10_goThrow 11 = .ok (.invokevirtual 159, 3) := by decide +kernel
theorem dX10_goThrow_14 : decode cX10_goThrow 14 = .ok (.istore 5, 2) := by decide +kernel
theorem dX10_goThrow_16 : decode cX10_goThrow 16 = .ok (.iload 5, 2) := by decide +kernel
theorem dX10_goThrow_18 : decode cX10_goThrow 18 = .ok (.bipush 8, 2) := by decide +kernel
theorem dX10_goThrow_20 : decode cX10_goThrow 20 = .ok (.if_icmp .ne 8, 3) := by decide +kernel
theorem dX10_goThrow_23 : decode cX10_goThrow 23 = .ok (.bipush (-9), 2) := by decide +kernel
theorem dX10_goThrow_25 : decode cX10_goThrow 25 = .ok (.goto 9, 3) := by decide +kernel
theorem dX10_goThrow_28 : decode cX10_goThrow 28 = .ok (.aload_n 0, 1) := by decide +kernel
theorem dX10_goThrow_29 : decode cX10_goThrow 29 = .ok (.iload 5, 2) := by decide +kernel
theorem dX10_goThrow_31 : decode cX10_goThrow 31 = .ok (.invokevirtual 163, 3) := by decide +kernel
theorem dX10_goThrow_34 : decode cX10_goThrow 34 = .ok (.istore 6, 2) := by decide +kernel
theorem dX10_goThrow_36 : decode cX10_goThrow 36 = .ok (.iload 6, 2) := by decide +kernel
theorem dX10_goThrow_38 : decode cX10_goThrow 38 = .ok (.bipush (-9), 2) := by decide +kernel
theorem dX10_goThrow_40 : decode cX10_goThrow 40 = .ok (.if_icmp .eq 15, 3) := by decide +kernel
theorem dX10_goThrow_43 : decode cX10_goThrow 43 = .ok (.aload_n 1, 1) := by decide +kernel
theorem dX10_goThrow_44 : decode cX10_goThrow 44 = .ok (.bipush 12, 2) := by decide +kernel
theorem dX10_goThrow_46 : decode cX10_goThrow 46 = .ok (.iaload, 1) := by decide +kernel
theorem dX10_goThrow_47 : decode cX10_goThrow 47 = .ok (.iload 6, 2) := by decide +kernel
theorem dX10_goThrow_49 : decode cX10_goThrow 49 = .ok (.invokestatic 144, 3) := by decide +kernel
theorem dX10_goThrow_52 : decode cX10_goThrow 52 = .ok (.ifCond .eq 4, 3) := by decide +kernel
theorem dX10_goThrow_55 : decode cX10_goThrow 55 = .ok (.return_, 1) := by decide +kernel
theorem dX10_goThrow_56 : decode cX10_goThrow 56 = .ok (.aload_n 1, 1) := by decide +kernel
theorem dX10_goThrow_57 : decode cX10_goThrow 57 = .ok (.iconst 0, 1) := by decide +kernel
theorem dX10_goThrow_58 : decode cX10_goThrow 58 = .ok (.iload 6, 2) := by decide +kernel
theorem dX10_goThrow_60 : decode cX10_goThrow 60 = .ok (.iadd, 1) := by decide +kernel
theorem dX10_goThrow_61 : decode cX10_goThrow 61 = .ok (.dup2, 1) := by decide +kernel
theorem dX10_goThrow_62 : decode cX10_goThrow 62 = .ok (.iaload, 1) := by decide +kernel
theorem dX10_goThrow_63 : decode cX10_goThrow 63 = .ok (.aload_n 0, 1) := by decide +kernel
theorem dX10_goThrow_64 : decode cX10_goThrow 64 = .ok (.iload_n 2, 1) := by decide +kernel
theorem dX10_goThrow_65 : decode cX10_goThrow 65 = .ok (.invokevirtual 167, 3) := by decide +kernel
theorem dX10_goThrow_68 : decode cX10_goThrow 68 = .ok (.iadd, 1) := by decide +kernel
theorem dX10_goThrow_69 : decode cX10_goThrow 69 = .ok (.iastore, 1) := by decide +kernel
theorem dX10_goThrow_70 : decode cX10_goThrow 70 = .ok (.aload_n 1, 1) := by decide +kernel
theorem dX10_goThrow_71 : decode cX10_goThrow 71 = .ok (.iconst 5, 1) := by decide +kernel
theorem dX10_goThrow_72 : decode cX10_goThrow 72 = .ok (.iload 6, 2) := by decide +kernel
theorem dX10_goThrow_74 : decode cX10_goThrow 74 = .ok (.iadd, 1) := by decide +kernel
theorem dX10_goThrow_75 : decode cX10_goThrow 75 = .ok (.dup2, 1) := by decide +kernel
theorem dX10_goThrow_76 : decode cX10_goThrow 76 = .ok (.iaload, 1) := by decide +kernel
theorem dX10_goThrow_77 : decode cX10_goThrow 77 = .ok (.iconst 1, 1) := by decide +kernel
theorem dX10_goThrow_78 : decode cX10_goThrow 78 = .ok (.iadd, 1) := by decide +kernel
theorem dX10_goThrow_79 : decode cX10_goThrow 79 = .ok (.iastore, 1) := by decide +kernel
theorem dX10_goThrow_80 : decode cX10_goThrow 80 = .ok (.aload_n 1, 1) := by decide +kernel
theorem dX10_goThrow_81 : decode cX10_goThrow 81 = .ok (.iconst 0, 1) := by decide +kernel
theorem dX10_goThrow_82 : decode cX10_goThrow 82 = .ok (.iload 6, 2) := by decide +kernel
theorem dX10_goThrow_84 : decode cX10_goThrow 84 = .ok (.iadd, 1) := by decide +kernel
theorem dX10_goThrow_85 : decode cX10_goThrow 85 = .ok (.iaload, 1) := by decide +kernel
theorem dX10_goThrow_86 : decode cX10_goThrow 86 = .ok (.aload_n 0, 1) := by decide +kernel
theorem dX10_goThrow_87 : decode cX10_goThrow 87 = .ok (.aload_n 1, 1) := by decide +kernel
theorem dX10_goThrow_88 : decode cX10_goThrow 88 = .ok (.iload 6, 2) := by decide +kernel
theorem dX10_goThrow_90 : decode cX10_goThrow 90 = .ok (.invokevirtual 170, 3) := by decide +kernel
theorem dX10_goThrow_93 : decode cX10_goThrow 93 = .ok (.if_icmp .lt 58, 3) := by decide +kernel
theorem dX10_goThrow_96 : decode cX10_goThrow 96 = .ok (.aload_n 0, 1) := by decide +kernel
theorem dX10_goThrow_97 : decode cX10_goThrow 97 = .ok (.getfield 13, 3) := by decide +kernel
theorem dX10_goThrow_100 : decode cX10_goThrow 100 = .ok (.iconst 3, 1) := by decide +kernel
theorem dX10_goThrow_101 : decode cX10_goThrow 101 = .ok (.iload 6, 2) := by decide +kernel
theorem dX10_goThrow_103 : decode cX10_goThrow 103 = .ok (.imul, 1) := by decide +kernel
theorem dX10_goThrow_104 : decode cX10_goThrow 104 = .ok (.iconst 2, 1) := by decide +kernel
theorem dX10_goThrow_105 : decode cX10_goThrow 105 = .ok (.iadd, 1) := by decide +kernel
theorem dX10_goThrow_106 : decode cX10_goThrow 106 = .ok (.iaload, 1) := by decide +kernel
theorem dX10_goThrow_107 : decode cX10_goThrow 107 = .ok (.iconst 3, 1) := by decide +kernel
theorem dX10_goThrow_108 : decode cX10_goThrow 108 = .ok (.if_icmp .ne 36, 3) := by decide +kernel
theorem dX10_goThrow_111 : decode cX10_goThrow 111 = .ok (.aload_n 1, 1) := by decide +kernel
theorem dX10_goThrow_112 : decode cX10_goThrow 112 = .ok (.bipush 10, 2) := by decide +kernel
theorem dX10_goThrow_114 : decode cX10_goThrow 114 = .ok (.iaload, 1) := by decide +kernel
theorem dX10_goThrow_115 : decode cX10_goThrow 115 = .ok (.iload 6, 2) := by decide +kernel
theorem dX10_goThrow_117 : decode cX10_goThrow 117 = .ok (.invokestatic 144, 3) := by decide +kernel
theorem dX10_goThrow_120 : decode cX10_goThrow 120 = .ok (.ifCond .ne 24, 3) := by decide +kernel
theorem dX10_goThrow_123 : decode cX10_goThrow 123 = .ok (.aload_n 1, 1) := by decide +kernel
theorem dX10_goThrow_124 : decode cX10_goThrow 124 = .ok (.bipush 10, 2) := by decide +kernel
theorem dX10_goThrow_126 : decode cX10_goThrow 126 = .ok (.dup2, 1) := by decide +kernel
theorem dX10_goThrow_127 : decode cX10_goThrow 127 = .ok (.iaload, 1) := by decide +kernel
theorem dX10_goThrow_128 : decode cX10_goThrow 128 = .ok (.iconst 1, 1) := by decide +kernel
theorem dX10_goThrow_129 : decode cX10_goThrow 129 = .ok (.iload 6, 2) := by decide +kernel
theorem dX10_goThrow_131 : decode cX10_goThrow 131 = .ok (.ishl, 1) := by decide +kernel
theorem dX10_goThrow_132 : decode cX10_goThrow 132 = .ok (.ior, 1) := by decide +kernel
theorem dX10_goThrow_133 : decode cX10_goThrow 133 = .ok (.iastore, 1) := by decide +kernel
theorem dX10_goThrow_134 : decode cX10_goThrow 134 = .ok (.aload_n 1, 1) := by decide +kernel
theorem dX10_goThrow_135 : decode cX10_goThrow 135 = .ok (.iconst 0, 1) := by decide +kernel
theorem dX10_goThrow_136 : decode cX10_goThrow 136 = .ok (.iload 6, 2) := by decide +kernel
theorem dX10_goThrow_138 : decode cX10_goThrow 138 = .ok (.iadd, 1) := by decide +kernel
theorem dX10_goThrow_139 : decode cX10_goThrow 139 = .ok (.iconst 0, 1) := by decide +kernel
theorem dX10_goThrow_140 : decode cX10_goThrow 140 = .ok (.iastore, 1) := by decide +kernel
theorem dX10_goThrow_141 : decode cX10_goThrow 141 = .ok (.goto 10, 3) := by decide +kernel
theorem dX10_goThrow_144 : decode cX10_goThrow 144 = .ok (.aload_n 0, 1) := by decide +kernel
theorem dX10_goThrow_145 : decode cX10_goThrow 145 = .ok (.aload_n 1, 1) := by decide +kernel
theorem dX10_goThrow_146 : decode cX10_goThrow 146 = .ok (.iload 6, 2) := by decide +kernel
theorem dX10_goThrow_148 : decode cX10_goThrow 148 = .ok (.invokevirtual 173, 3) := by decide +kernel
theorem dX10_goThrow_151 : decode cX10_goThrow 151 = .ok (.return_, 1) := by decide +kernel
theorem dX10_placeAt_0 : decode cX10_placeAt 0 = .ok (.aload_n 0, 1) := by decide +kernel
theorem dX10_placeAt_1 : decode cX10_placeAt 1 = .ok (.getfield 13, 3) := by decide +kernel
theorem dX10_placeAt_4 : decode cX10_placeAt 4 = .ok (.iconst 3, 1) := by decide +kernel
theorem dX10_placeAt_5 : decode cX10_placeAt 5 = .ok (.iload_n 3, 1) := by decide +kernel
theorem dX10_placeAt_6 : decode cX10_placeAt 6 = .ok (.imul, 1) := by decide +kernel
theorem dX10_placeAt_7 : decode cX10_placeAt 7 = .ok (.iaload, 1) := by decide +kernel
theorem dX10_placeAt_8 : decode cX10_placeAt 8 = .ok (.aload_n 0, 1) := by decide +kernel
theorem dX10_placeAt_9 : decode cX10_placeAt 9 = .ok (.aload_n 1, 1) := by decide +kernel
theorem dX10_placeAt_10 : decode cX10_placeAt 10 = .ok (.iload_n 2, 1) := by decide +kernel
theorem dX10_placeAt_11 : decode cX10_placeAt 11 = .ok (.invokevirtual 148, 3) := by decide +kernel
theorem dX10_placeAt_14 : decode cX10_placeAt 14 = .ok (.isub, 1) := by decide +kernel
theorem dX10_placeAt_15 : decode cX10_placeAt 15 = .ok (.istore 4, 2) := by decide +kernel
theorem dX10_placeAt_17 : decode cX10_placeAt 17 = .ok (.aload_n 1, 1) := by decide +kernel
theorem dX10_placeAt_18 : decode cX10_placeAt 18 = .ok (.bipush 12, 2) := by decide +kernel
theorem dX10_placeAt_20 : decode cX10_placeAt 20 = .ok (.iaload, 1) := by decide +kernel
theorem dX10_placeAt_21 : decode cX10_placeAt 21 = .ok (.iload_n 3, 1) := by decide +kernel
theorem dX10_placeAt_22 : decode cX10_placeAt 22 = .ok (.invokestatic 144, 3) := by decide +kernel
theorem dX10_placeAt_25 : decode cX10_placeAt 25 = .ok (.ifCond .ne 21, 3) := by decide +kernel
theorem dX10_placeAt_28 : decode cX10_placeAt 28 = .ok (.iload 4, 2) := by decide +kernel
theorem dX10_placeAt_30 : decode cX10_placeAt 30 = .ok (.i2l, 1) := by decide +kernel
theorem dX10_placeAt_31 : decode cX10_placeAt 31 = .ok (.lconst 0, 1) := by decide +kernel
theorem dX10_placeAt_32 : decode cX10_placeAt 32 = .ok (.ldc2_w 93, 3) := by decide +kernel
theorem dX10_placeAt_35 : decode cX10_placeAt 35 = .ok (.invokestatic 78, 3) := by decide +kernel
theorem dX10_placeAt_38 : decode cX10_placeAt 38 = .ok (.ifCond .eq 8, 3) := by decide +kernel
theorem dX10_placeAt_41 : decode cX10_placeAt 41 = .ok (.iload 4, 2) := by decide +kernel
theorem dX10_placeAt_43 : decode cX10_placeAt 43 = .ok (.goto 5, 3) := by decide +kernel
theorem dX10_placeAt_46 : decode cX10_placeAt 46 = .ok (.bipush (-9), 2) := by decide +kernel
theorem dX10_placeAt_48 : decode cX10_placeAt 48 = .ok (.ireturn, 1) := by decide +kernel
theorem dX10_about_0 : decode cX10_about 0 = .ok (.aload_n 0, 1) := by decide +kernel
theorem dX10_about_1 : decode cX10_about 1 = .ok (.iconst 0, 1) := by decide +kernel
theorem dX10_about_2 : decode cX10_about 2 = .ok (.putfield 71, 3) := by decide +kernel
theorem dX10_about_5 : decode cX10_about 5 = .ok (.iload_n 1, 1) := by decide +kernel
theorem dX10_about_6 : decode cX10_about 6 = .ok (.tableswitch 104 0 8 #[50, 55, 60, 65, 73, 81, 89, 94, 99], 50) := by decide +kernel
theorem dX10_about_56 : decode cX10_about 56 = .ok (.aload_n 0, 1) := by decide +kernel
theorem dX10_about_57 : decode cX10_about 57 = .ok (.getfield 75, 3) := by decide +kernel
theorem dX10_about_60 : decode cX10_about 60 = .ok (.ireturn, 1) := by decide +kernel
theorem dX10_about_61 : decode cX10_about 61 = .ok (.aload_n 0, 1) := by decide +kernel
theorem dX10_about_62 : decode cX10_about 62 = .ok (.getfield 82, 3) := by decide +kernel
theorem dX10_about_65 : decode cX10_about 65 = .ok (.ireturn, 1) := by decide +kernel
theorem dX10_about_66 : decode cX10_about 66 = .ok (.aload_n 0, 1) := by decide +kernel
theorem dX10_about_67 : decode cX10_about 67 = .ok (.getfield 134, 3) := by decide +kernel
theorem dX10_about_70 : decode cX10_about 70 = .ok (.ireturn, 1) := by decide +kernel
theorem dX10_about_71 : decode cX10_about 71 = .ok (.aload_n 0, 1) := by decide +kernel
theorem dX10_about_72 : decode cX10_about 72 = .ok (.getfield 31, 3) := by decide +kernel
theorem dX10_about_75 : decode cX10_about 75 = .ok (.bipush 13, 2) := by decide +kernel
theorem dX10_about_77 : decode cX10_about 77 = .ok (.iaload, 1) := by decide +kernel
theorem dX10_about_78 : decode cX10_about 78 = .ok (.ireturn, 1) := by decide +kernel
theorem dX10_about_79 : decode cX10_about 79 = .ok (.aload_n 0, 1) := by decide +kernel
theorem dX10_about_80 : decode cX10_about 80 = .ok (.getfield 31, 3) := by decide +kernel
theorem dX10_about_83 : decode cX10_about 83 = .ok (.bipush 14, 2) := by decide +kernel
theorem dX10_about_85 : decode cX10_about 85 = .ok (.iaload, 1) := by decide +kernel
theorem dX10_about_86 : decode cX10_about 86 = .ok (.ireturn, 1) := by decide +kernel
theorem dX10_about_87 : decode cX10_about 87 = .ok (.aload_n 0, 1) := by decide +kernel
theorem dX10_about_88 : decode cX10_about 88 = .ok (.getfield 31, 3) := by decide +kernel
theorem dX10_about_91 : decode cX10_about 91 = .ok (.bipush 12, 2) := by decide +kernel
theorem dX10_about_93 : decode cX10_about 93 = .ok (.iaload, 1) := by decide +kernel
theorem dX10_about_94 : decode cX10_about 94 = .ok (.ireturn, 1) := by decide +kernel
theorem dX10_about_95 : decode cX10_about 95 = .ok (.aload_n 0, 1) := by decide +kernel
theorem dX10_about_96 : decode cX10_about 96 = .ok (.getfield 141, 3) := by decide +kernel
theorem dX10_about_99 : decode cX10_about 99 = .ok (.ireturn, 1) := by decide +kernel
theorem dX10_about_100 : decode cX10_about 100 = .ok (.aload_n 0, 1) := by decide +kernel
theorem dX10_about_101 : decode cX10_about 101 = .ok (.getfield 176, 3) := by decide +kernel
theorem dX10_about_104 : decode cX10_about 104 = .ok (.ireturn, 1) := by decide +kernel
theorem dX10_about_105 : decode cX10_about 105 = .ok (.aload_n 0, 1) := by decide +kernel
theorem dX10_about_106 : decode cX10_about 106 = .ok (.getfield 87, 3) := by decide +kernel
theorem dX10_about_109 : decode cX10_about 109 = .ok (.ireturn, 1) := by decide +kernel
theorem dX10_about_110 : decode cX10_about 110 = .ok (.bipush (-2), 2) := by decide +kernel
theorem dX10_about_112 : decode cX10_about 112 = .ok (.ireturn, 1) := by decide +kernel
theorem dX10_husk_0 : decode cX10_husk 0 = .ok (.aload_n 0, 1) := by decide +kernel
theorem dX10_husk_1 : decode cX10_husk 1 = .ok (.iconst 0, 1) := by decide +kernel
theorem dX10_husk_2 : decode cX10_husk 2 = .ok (.putfield 71, 3) := by decide +kernel
theorem dX10_husk_5 : decode cX10_husk 5 = .ok (.aload_n 0, 1) := by decide +kernel
theorem dX10_husk_6 : decode cX10_husk 6 = .ok (.iload_n 1, 1) := by decide +kernel
theorem dX10_husk_7 : decode cX10_husk 7 = .ok (.invokevirtual 179, 3) := by decide +kernel
theorem dX10_husk_10 : decode cX10_husk 10 = .ok (.ifCond .eq 5, 3) := by decide +kernel
theorem dX10_husk_13 : decode cX10_husk 13 = .ok (.iconst (-1), 1) := by decide +kernel
theorem dX10_husk_14 : decode cX10_husk 14 = .ok (.ireturn, 1) := by decide +kernel
theorem dX10_husk_15 : decode cX10_husk 15 = .ok (.iload_n 2, 1) := by decide +kernel
theorem dX10_husk_16 : decode cX10_husk 16 = .ok (.tableswitch 127 0 8 #[52, 52, 52, 63, 73, 82, 91, 103, 115], 52) := by decide +kernel
theorem dX10_husk_68 : decode cX10_husk 68 = .ok (.aload_n 0, 1) := by decide +kernel
theorem dX10_husk_69 : decode cX10_husk 69 = .ok (.getfield 13, 3) := by decide +kernel
theorem dX10_husk_72 : decode cX10_husk 72 = .ok (.iconst 3, 1) := by decide +kernel
theorem dX10_husk_73 : decode cX10_husk 73 = .ok (.iload_n 1, 1) := by decide +kernel
theorem dX10_husk_74 : decode cX10_husk 74 = .ok (.imul, 1) := by decide +kernel
theorem dX10_husk_75 : decode cX10_husk 75 = .ok (.iload_n 2, 1) := by decide +kernel
theorem dX10_husk_76 : decode cX10_husk 76 = .ok (.iadd, 1) := by decide +kernel
theorem dX10_husk_77 : decode cX10_husk 77 = .ok (.iaload, 1) := by decide +kernel
theorem dX10_husk_78 : decode cX10_husk 78 = .ok (.ireturn, 1) := by decide +kernel
theorem dX10_husk_79 : decode cX10_husk 79 = .ok (.aload_n 0, 1) := by decide +kernel
theorem dX10_husk_80 : decode cX10_husk 80 = .ok (.aload_n 0, 1) := by decide +kernel
theorem dX10_husk_81 : decode cX10_husk 81 = .ok (.getfield 31, 3) := by decide +kernel
theorem dX10_husk_84 : decode cX10_husk 84 = .ok (.iload_n 1, 1) := by decide +kernel
theorem dX10_husk_85 : decode cX10_husk 85 = .ok (.invokevirtual 170, 3) := by decide +kernel
theorem dX10_husk_88 : decode cX10_husk 88 = .ok (.ireturn, 1) := by decide +kernel
theorem dX10_husk_89 : decode cX10_husk 89 = .ok (.aload_n 0, 1) := by decide +kernel
theorem dX10_husk_90 : decode cX10_husk 90 = .ok (.getfield 31, 3) := by decide +kernel
theorem dX10_husk_93 : decode cX10_husk 93 = .ok (.iconst 0, 1) := by decide +kernel
theorem dX10_husk_94 : decode cX10_husk 94 = .ok (.iload_n 1, 1) := by decide +kernel
theorem dX10_husk_95 : decode cX10_husk 95 = .ok (.iadd, 1) := by decide +kernel
theorem dX10_husk_96 : decode cX10_husk 96 = .ok (.iaload, 1) := by decide +kernel
theorem dX10_husk_97 : decode cX10_husk 97 = .ok (.ireturn, 1) := by decide +kernel
theorem dX10_husk_98 : decode cX10_husk 98 = .ok (.aload_n 0, 1) := by decide +kernel
theorem dX10_husk_99 : decode cX10_husk 99 = .ok (.getfield 31, 3) := by decide +kernel
theorem dX10_husk_102 : decode cX10_husk 102 = .ok (.iconst 5, 1) := by decide +kernel
theorem dX10_husk_103 : decode cX10_husk 103 = .ok (.iload_n 1, 1) := by decide +kernel
theorem dX10_husk_104 : decode cX10_husk 104 = .ok (.iadd, 1) := by decide +kernel
theorem dX10_husk_105 : decode cX10_husk 105 = .ok (.iaload, 1) := by decide +kernel
theorem dX10_husk_106 : decode cX10_husk 106 = .ok (.ireturn, 1) := by decide +kernel
theorem dX10_husk_107 : decode cX10_husk 107 = .ok (.aload_n 0, 1) := by decide +kernel
theorem dX10_husk_108 : decode cX10_husk 108 = .ok (.getfield 31, 3) := by decide +kernel
theorem dX10_husk_111 : decode cX10_husk 111 = .ok (.bipush 10, 2) := by decide +kernel
theorem dX10_husk_113 : decode cX10_husk 113 = .ok (.iaload, 1) := by decide +kernel
theorem dX10_husk_114 : decode cX10_husk 114 = .ok (.iload_n 1, 1) := by decide +kernel
theorem dX10_husk_115 : decode cX10_husk 115 = .ok (.ishr, 1) := by decide +kernel
theorem dX10_husk_116 : decode cX10_husk 116 = .ok (.iconst 1, 1) := by decide +kernel
theorem dX10_husk_117 : decode cX10_husk 117 = .ok (.iand, 1) := by decide +kernel
theorem dX10_husk_118 : decode cX10_husk 118 = .ok (.ireturn, 1) := by decide +kernel
theorem dX10_husk_119 : decode cX10_husk 119 = .ok (.aload_n 0, 1) := by decide +kernel
theorem dX10_husk_120 : decode cX10_husk 120 = .ok (.getfield 31, 3) := by decide +kernel
theorem dX10_husk_123 : decode cX10_husk 123 = .ok (.bipush 11, 2) := by decide +kernel
theorem dX10_husk_125 : decode cX10_husk 125 = .ok (.iaload, 1) := by decide +kernel
theorem dX10_husk_126 : decode cX10_husk 126 = .ok (.iload_n 1, 1) := by decide +kernel
theorem dX10_husk_127 : decode cX10_husk 127 = .ok (.ishr, 1) := by decide +kernel
theorem dX10_husk_128 : decode cX10_husk 128 = .ok (.iconst 1, 1) := by decide +kernel
theorem dX10_husk_129 : decode cX10_husk 129 = .ok (.iand, 1) := by decide +kernel
theorem dX10_husk_130 : decode cX10_husk 130 = .ok (.ireturn, 1) := by decide +kernel
theorem dX10_husk_131 : decode cX10_husk 131 = .ok (.aload_n 0, 1) := by decide +kernel
theorem dX10_husk_132 : decode cX10_husk 132 = .ok (.getfield 31, 3) := by decide +kernel
theorem dX10_husk_135 : decode cX10_husk 135 = .ok (.bipush 12, 2) := by decide +kernel
theorem dX10_husk_137 : decode cX10_husk 137 = .ok (.iaload, 1) := by decide +kernel
theorem dX10_husk_138 : decode cX10_husk 138 = .ok (.iload_n 1, 1) := by decide +kernel
theorem dX10_husk_139 : decode cX10_husk 139 = .ok (.ishr, 1) := by decide +kernel
theorem dX10_husk_140 : decode cX10_husk 140 = .ok (.iconst 1, 1) := by decide +kernel
theorem dX10_husk_141 : decode cX10_husk 141 = .ok (.iand, 1) := by decide +kernel
theorem dX10_husk_142 : decode cX10_husk 142 = .ok (.ireturn, 1) := by decide +kernel
theorem dX10_husk_143 : decode cX10_husk 143 = .ok (.bipush (-2), 2) := by decide +kernel
theorem dX10_husk_145 : decode cX10_husk 145 = .ok (.ireturn, 1) := by decide +kernel
theorem dX10_thrower_0 : decode cX10_thrower 0 = .ok (.aload_n 0, 1) := by decide +kernel
theorem dX10_thrower_1 : decode cX10_thrower 1 = .ok (.iconst 0, 1) := by decide +kernel
theorem dX10_thrower_2 : decode cX10_thrower 2 = .ok (.putfield 71, 3) := by decide +kernel
theorem dX10_thrower_5 : decode cX10_thrower 5 = .ok (.aload_n 0, 1) := by decide +kernel
theorem dX10_thrower_6 : decode cX10_thrower 6 = .ok (.iload_n 1, 1) := by decide +kernel
theorem dX10_thrower_7 : decode cX10_thrower 7 = .ok (.invokevirtual 183, 3) := by decide +kernel
theorem dX10_thrower_10 : decode cX10_thrower 10 = .ok (.ifCond .eq 5, 3) := by decide +kernel
theorem dX10_thrower_13 : decode cX10_thrower 13 = .ok (.iconst (-1), 1) := by decide +kernel
theorem dX10_thrower_14 : decode cX10_thrower 14 = .ok (.ireturn, 1) := by decide +kernel
theorem dX10_thrower_15 : decode cX10_thrower 15 = .ok (.iload_n 2, 1) := by decide +kernel
theorem dX10_thrower_16 : decode cX10_thrower 16 = .ok (.i2l, 1) := by decide +kernel
theorem dX10_thrower_17 : decode cX10_thrower 17 = .ok (.lconst 0, 1) := by decide +kernel
theorem dX10_thrower_18 : decode cX10_thrower 18 = .ok (.ldc2_w 186, 3) := by decide +kernel
theorem dX10_thrower_21 : decode cX10_thrower 21 = .ok (.invokestatic 78, 3) := by decide +kernel
theorem dX10_thrower_24 : decode cX10_thrower 24 = .ok (.ifCond .eq 16, 3) := by decide +kernel
theorem dX10_thrower_27 : decode cX10_thrower 27 = .ok (.aload_n 0, 1) := by decide +kernel
theorem dX10_thrower_28 : decode cX10_thrower 28 = .ok (.getfield 16, 3) := by decide +kernel
theorem dX10_thrower_31 : decode cX10_thrower 31 = .ok (.iconst 3, 1) := by decide +kernel
theorem dX10_thrower_32 : decode cX10_thrower 32 = .ok (.iload_n 1, 1) := by decide +kernel
theorem dX10_thrower_33 : decode cX10_thrower 33 = .ok (.imul, 1) := by decide +kernel
theorem dX10_thrower_34 : decode cX10_thrower 34 = .ok (.iload_n 2, 1) := by decide +kernel
theorem dX10_thrower_35 : decode cX10_thrower 35 = .ok (.iadd, 1) := by decide +kernel
theorem dX10_thrower_36 : decode cX10_thrower 36 = .ok (.iaload, 1) := by decide +kernel
theorem dX10_thrower_37 : decode cX10_thrower 37 = .ok (.goto 18, 3) := by decide +kernel
theorem dX10_thrower_40 : decode cX10_thrower 40 = .ok (.iload_n 2, 1) := by decide +kernel
theorem dX10_thrower_41 : decode cX10_thrower 41 = .ok (.iconst 3, 1) := by decide +kernel
theorem dX10_thrower_42 : decode cX10_thrower 42 = .ok (.if_icmp .ne 11, 3) := by decide +kernel
theorem dX10_thrower_45 : decode cX10_thrower 45 = .ok (.aload_n 0, 1) := by decide +kernel
theorem dX10_thrower_46 : decode cX10_thrower 46 = .ok (.iload_n 1, 1) := by decide +kernel
theorem dX10_thrower_47 : decode cX10_thrower 47 = .ok (.invokevirtual 167, 3) := by decide +kernel
theorem dX10_thrower_50 : decode cX10_thrower 50 = .ok (.goto 5, 3) := by decide +kernel
theorem dX10_thrower_53 : decode cX10_thrower 53 = .ok (.bipush (-2), 2) := by decide +kernel
theorem dX10_thrower_55 : decode cX10_thrower 55 = .ok (.ireturn, 1) := by decide +kernel
theorem dX10_noThrow_0 : decode cX10_noThrow 0 = .ok (.aload_n 0, 1) := by decide +kernel
theorem dX10_noThrow_1 : decode cX10_noThrow 1 = .ok (.iload_n 1, 1) := by decide +kernel
theorem dX10_noThrow_2 : decode cX10_noThrow 2 = .ok (.invokevirtual 183, 3) := by decide +kernel
theorem dX10_noThrow_5 : decode cX10_noThrow 5 = .ok (.ifCond .eq 5, 3) := by decide +kernel
theorem dX10_noThrow_8 : decode cX10_noThrow 8 = .ok (.iconst (-1), 1) := by decide +kernel
theorem dX10_noThrow_9 : decode cX10_noThrow 9 = .ok (.ireturn, 1) := by decide +kernel
theorem dX10_noThrow_10 : decode cX10_noThrow 10 = .ok (.iload_n 2, 1) := by decide +kernel
theorem dX10_noThrow_11 : decode cX10_noThrow 11 = .ok (.i2l, 1) := by decide +kernel
theorem dX10_noThrow_12 : decode cX10_noThrow 12 = .ok (.lconst 0, 1) := by decide +kernel
theorem dX10_noThrow_13 : decode cX10_noThrow 13 = .ok (.ldc2_w 93, 3) := by decide +kernel
theorem dX10_noThrow_16 : decode cX10_noThrow 16 = .ok (.invokestatic 78, 3) := by decide +kernel
theorem dX10_noThrow_19 : decode cX10_noThrow 19 = .ok (.ifCond .eq 19, 3) := by decide +kernel
theorem dX10_noThrow_22 : decode cX10_noThrow 22 = .ok (.iload_n 3, 1) := by decide +kernel
theorem dX10_noThrow_23 : decode cX10_noThrow 23 = .ok (.i2l, 1) := by decide +kernel
theorem dX10_noThrow_24 : decode cX10_noThrow 24 = .ok (.lconst 0, 1) := by decide +kernel
theorem dX10_noThrow_25 : decode cX10_noThrow 25 = .ok (.ldc2_w 186, 3) := by decide +kernel
theorem dX10_noThrow_28 : decode cX10_noThrow 28 = .ok (.invokestatic 78, 3) := by decide +kernel
theorem dX10_noThrow_31 : decode cX10_noThrow 31 = .ok (.ifCond .eq 7, 3) := by decide +kernel
theorem dX10_noThrow_34 : decode cX10_noThrow 34 = .ok (.iconst 0, 1) := by decide +kernel
theorem dX10_noThrow_35 : decode cX10_noThrow 35 = .ok (.goto 5, 3) := by decide +kernel
theorem dX10_noThrow_38 : decode cX10_noThrow 38 = .ok (.bipush (-2), 2) := by decide +kernel
theorem dX10_noThrow_40 : decode cX10_noThrow 40 = .ok (.ireturn, 1) := by decide +kernel
theorem dX10_lands_0 : decode cX10_lands 0 = .ok (.aload_n 0, 1) := by decide +kernel
theorem dX10_lands_1 : decode cX10_lands 1 = .ok (.iconst 0, 1) := by decide +kernel
theorem dX10_lands_2 : decode cX10_lands 2 = .ok (.putfield 71, 3) := by decide +kernel
theorem dX10_lands_5 : decode cX10_lands 5 = .ok (.aload_n 0, 1) := by decide +kernel
theorem dX10_lands_6 : decode cX10_lands 6 = .ok (.iload_n 1, 1) := by decide +kernel
theorem dX10_lands_7 : decode cX10_lands 7 = .ok (.iload_n 2, 1) := by decide +kernel
theorem dX10_lands_8 : decode cX10_lands 8 = .ok (.iload_n 3, 1) := by decide +kernel
theorem dX10_lands_9 : decode cX10_lands 9 = .ok (.invokevirtual 188, 3) := by decide +kernel
theorem dX10_lands_12 : decode cX10_lands 12 = .ok (.istore 4, 2) := by decide +kernel
theorem dX10_lands_14 : decode cX10_lands 14 = .ok (.iload 4, 2) := by decide +kernel
theorem dX10_lands_16 : decode cX10_lands 16 = .ok (.ifCond .eq 8, 3) := by decide +kernel
theorem dX10_lands_19 : decode cX10_lands 19 = .ok (.iload 4, 2) := by decide +kernel
theorem dX10_lands_21 : decode cX10_lands 21 = .ok (.goto 14, 3) := by decide +kernel
theorem dX10_lands_24 : decode cX10_lands 24 = .ok (.aload_n 0, 1) := by decide +kernel
theorem dX10_lands_25 : decode cX10_lands 25 = .ok (.aload_n 0, 1) := by decide +kernel
theorem dX10_lands_26 : decode cX10_lands 26 = .ok (.getfield 31, 3) := by decide +kernel
theorem dX10_lands_29 : decode cX10_lands 29 = .ok (.iload_n 1, 1) := by decide +kernel
theorem dX10_lands_30 : decode cX10_lands 30 = .ok (.iload_n 2, 1) := by decide +kernel
theorem dX10_lands_31 : decode cX10_lands 31 = .ok (.iload_n 3, 1) := by decide +kernel
theorem dX10_lands_32 : decode cX10_lands 32 = .ok (.invokevirtual 159, 3) := by decide +kernel
theorem dX10_lands_35 : decode cX10_lands 35 = .ok (.ireturn, 1) := by decide +kernel
theorem dX10_note_0 : decode cX10_note 0 = .ok (.aload_n 0, 1) := by decide +kernel
theorem dX10_note_1 : decode cX10_note 1 = .ok (.getfield 141, 3) := by decide +kernel
theorem dX10_note_4 : decode cX10_note 4 = .ok (.bipush 14, 2) := by decide +kernel
theorem dX10_note_6 : decode cX10_note 6 = .ok (.if_icmp .ne 43, 3) := by decide +kernel
theorem dX10_note_9 : decode cX10_note 9 = .ok (.iconst 0, 1) := by decide +kernel
theorem dX10_note_10 : decode cX10_note 10 = .ok (.istore_n 1, 1) := by decide +kernel
theorem dX10_note_11 : decode cX10_note 11 = .ok (.iload_n 1, 1) := by decide +kernel
theorem dX10_note_12 : decode cX10_note 12 = .ok (.sipush 195, 3) := by decide +kernel
theorem dX10_note_15 : decode cX10_note 15 = .ok (.if_icmp .ge 24, 3) := by decide +kernel
theorem dX10_note_18 : decode cX10_note 18 = .ok (.aload_n 0, 1) := by decide +kernel
theorem dX10_note_19 : decode cX10_note 19 = .ok (.getfield 40, 3) := by decide +kernel
theorem dX10_note_22 : decode cX10_note 22 = .ok (.iload_n 1, 1) := by decide +kernel
theorem dX10_note_23 : decode cX10_note 23 = .ok (.aload_n 0, 1) := by decide +kernel
theorem dX10_note_24 : decode cX10_note 24 = .ok (.getfield 40, 3) := by decide +kernel
theorem dX10_note_27 : decode cX10_note 27 = .ok (.iload_n 1, 1) := by decide +kernel
theorem dX10_note_28 : decode cX10_note 28 = .ok (.bipush 15, 2) := by decide +kernel
theorem dX10_note_30 : decode cX10_note 30 = .ok (.iadd, 1) := by decide +kernel
theorem dX10_note_31 : decode cX10_note 31 = .ok (.iaload, 1) := by decide +kernel
theorem dX10_note_32 : decode cX10_note 32 = .ok (.iastore, 1) := by decide +kernel
theorem dX10_note_33 : decode cX10_note 33 = .ok (.iinc 1 1, 3) := by decide +kernel
theorem dX10_note_36 : decode cX10_note 36 = .ok (.goto (-25), 3) := by decide +kernel
theorem dX10_note_39 : decode cX10_note 39 = .ok (.aload_n 0, 1) := by decide +kernel
theorem dX10_note_40 : decode cX10_note 40 = .ok (.dup, 1) := by decide +kernel
theorem dX10_note_41 : decode cX10_note 41 = .ok (.getfield 141, 3) := by decide +kernel
theorem dX10_note_44 : decode cX10_note 44 = .ok (.iconst 1, 1) := by decide +kernel
theorem dX10_note_45 : decode cX10_note 45 = .ok (.isub, 1) := by decide +kernel
theorem dX10_note_46 : decode cX10_note 46 = .ok (.putfield 141, 3) := by decide +kernel
theorem dX10_note_49 : decode cX10_note 49 = .ok (.iconst 0, 1) := by decide +kernel
theorem dX10_note_50 : decode cX10_note 50 = .ok (.istore_n 1, 1) := by decide +kernel
theorem dX10_note_51 : decode cX10_note 51 = .ok (.iload_n 1, 1) := by decide +kernel
theorem dX10_note_52 : decode cX10_note 52 = .ok (.bipush 15, 2) := by decide +kernel
theorem dX10_note_54 : decode cX10_note 54 = .ok (.if_icmp .ge 29, 3) := by decide +kernel
theorem dX10_note_57 : decode cX10_note 57 = .ok (.aload_n 0, 1) := by decide +kernel
theorem dX10_note_58 : decode cX10_note 58 = .ok (.getfield 40, 3) := by decide +kernel
theorem dX10_note_61 : decode cX10_note 61 = .ok (.bipush 15, 2) := by decide +kernel
theorem dX10_note_63 : decode cX10_note 63 = .ok (.aload_n 0, 1) := by decide +kernel
theorem dX10_note_64 : decode cX10_note 64 = .ok (.getfield 141, 3) := by decide +kernel
theorem dX10_note_67 : decode cX10_note 67 = .ok (.imul, 1) := by decide +kernel
theorem dX10_note_68 : decode cX10_note 68 = .ok (.iload_n 1, 1) := by decide +kernel
theorem dX10_note_69 : decode cX10_note 69 = .ok (.iadd, 1) := by decide +kernel
theorem dX10_note_70 : decode cX10_note 70 = .ok (.aload_n 0, 1) := by decide +kernel
theorem dX10_note_71 : decode cX10_note 71 = .ok (.getfield 31, 3) := by decide +kernel
theorem dX10_note_74 : decode cX10_note 74 = .ok (.iload_n 1, 1) := by decide +kernel
theorem dX10_note_75 : decode cX10_note 75 = .ok (.iaload, 1) := by decide +kernel
theorem dX10_note_76 : decode cX10_note 76 = .ok (.iastore, 1) := by decide +kernel
theorem dX10_note_77 : decode cX10_note 77 = .ok (.iinc 1 1, 3) := by decide +kernel
theorem dX10_note_80 : decode cX10_note 80 = .ok (.goto (-29), 3) := by decide +kernel
theorem dX10_note_83 : decode cX10_note 83 = .ok (.aload_n 0, 1) := by decide +kernel
theorem dX10_note_84 : decode cX10_note 84 = .ok (.dup, 1) := by decide +kernel
theorem dX10_note_85 : decode cX10_note 85 = .ok (.getfield 141, 3) := by decide +kernel
theorem dX10_note_88 : decode cX10_note 88 = .ok (.iconst 1, 1) := by decide +kernel
theorem dX10_note_89 : decode cX10_note 89 = .ok (.iadd, 1) := by decide +kernel
theorem dX10_note_90 : decode cX10_note 90 = .ok (.putfield 141, 3) := by decide +kernel
theorem dX10_note_93 : decode cX10_note 93 = .ok (.return_, 1) := by decide +kernel
theorem dX10_toss_0 : decode cX10_toss 0 = .ok (.aload_n 0, 1) := by decide +kernel
theorem dX10_toss_1 : decode cX10_toss 1 = .ok (.iconst 0, 1) := by decide +kernel
theorem dX10_toss_2 : decode cX10_toss 2 = .ok (.putfield 71, 3) := by decide +kernel
theorem dX10_toss_5 : decode cX10_toss 5 = .ok (.aload_n 0, 1) := by decide +kernel
theorem dX10_toss_6 : decode cX10_toss 6 = .ok (.iload_n 1, 1) := by decide +kernel
theorem dX10_toss_7 : decode cX10_toss 7 = .ok (.iload_n 2, 1) := by decide +kernel
theorem dX10_toss_8 : decode cX10_toss 8 = .ok (.iload_n 3, 1) := by decide +kernel
theorem dX10_toss_9 : decode cX10_toss 9 = .ok (.invokevirtual 188, 3) := by decide +kernel
theorem dX10_toss_12 : decode cX10_toss 12 = .ok (.istore 4, 2) := by decide +kernel
theorem dX10_toss_14 : decode cX10_toss 14 = .ok (.iload 4, 2) := by decide +kernel
theorem dX10_toss_16 : decode cX10_toss 16 = .ok (.ifCond .eq 6, 3) := by decide +kernel
theorem dX10_toss_19 : decode cX10_toss 19 = .ok (.iload 4, 2) := by decide +kernel
theorem dX10_toss_21 : decode cX10_toss 21 = .ok (.ireturn, 1) := by decide +kernel
theorem dX10_toss_22 : decode cX10_toss 22 = .ok (.aload_n 0, 1) := by decide +kernel
theorem dX10_toss_23 : decode cX10_toss 23 = .ok (.getfield 31, 3) := by decide +kernel
theorem dX10_toss_26 : decode cX10_toss 26 = .ok (.bipush 14, 2) := by decide +kernel
theorem dX10_toss_28 : decode cX10_toss 28 = .ok (.iaload, 1) := by decide +kernel
theorem dX10_toss_29 : decode cX10_toss 29 = .ok (.ifCond .ne 6, 3) := by decide +kernel
theorem dX10_toss_32 : decode cX10_toss 32 = .ok (.bipush (-3), 2) := by decide +kernel
theorem dX10_toss_34 : decode cX10_toss 34 = .ok (.ireturn, 1) := by decide +kernel
theorem dX10_toss_35 : decode cX10_toss 35 = .ok (.aload_n 0, 1) := by decide +kernel
theorem dX10_toss_36 : decode cX10_toss 36 = .ok (.invokevirtual 192, 3) := by decide +kernel
theorem dX10_toss_39 : decode cX10_toss 39 = .ok (.aload_n 0, 1) := by decide +kernel
theorem dX10_toss_40 : decode cX10_toss 40 = .ok (.getfield 31, 3) := by decide +kernel
theorem dX10_toss_43 : decode cX10_toss 43 = .ok (.bipush 14, 2) := by decide +kernel
theorem dX10_toss_45 : decode cX10_toss 45 = .ok (.dup2, 1) := by decide +kernel
theorem dX10_toss_46 : decode cX10_toss 46 = .ok (.iaload, 1) := by decide +kernel
theorem dX10_toss_47 : decode cX10_toss 47 = .ok (.iconst 1, 1) := by decide +kernel
theorem dX10_toss_48 : decode cX10_toss 48 = .ok (.isub, 1) := by decide +kernel
theorem dX10_toss_49 : decode cX10_toss 49 = .ok (.iastore, 1) := by decide +kernel
theorem dX10_toss_50 : decode cX10_toss 50 = .ok (.aload_n 0, 1) := by decide +kernel
theorem dX10_toss_51 : decode cX10_toss 51 = .ok (.aload_n 0, 1) := by decide +kernel
theorem dX10_toss_52 : decode cX10_toss 52 = .ok (.getfield 31, 3) := by decide +kernel
theorem dX10_toss_55 : decode cX10_toss 55 = .ok (.iload_n 1, 1) := by decide +kernel
theorem dX10_toss_56 : decode cX10_toss 56 = .ok (.iload_n 2, 1) := by decide +kernel
theorem dX10_toss_57 : decode cX10_toss 57 = .ok (.iload_n 3, 1) := by decide +kernel
theorem dX10_toss_58 : decode cX10_toss 58 = .ok (.invokevirtual 195, 3) := by decide +kernel
theorem dX10_toss_61 : decode cX10_toss 61 = .ok (.aload_n 0, 1) := by decide +kernel
theorem dX10_toss_62 : decode cX10_toss 62 = .ok (.getfield 152, 3) := by decide +kernel
theorem dX10_toss_65 : decode cX10_toss 65 = .ok (.ireturn, 1) := by decide +kernel
theorem dX10_set_0 : decode cX10_set 0 = .ok (.aload_n 0, 1) := by decide +kernel
theorem dX10_set_1 : decode cX10_set 1 = .ok (.iconst 0, 1) := by decide +kernel
theorem dX10_set_2 : decode cX10_set 2 = .ok (.putfield 71, 3) := by decide +kernel
theorem dX10_set_5 : decode cX10_set 5 = .ok (.aload_n 0, 1) := by decide +kernel
theorem dX10_set_6 : decode cX10_set 6 = .ok (.iload_n 1, 1) := by decide +kernel
theorem dX10_set_7 : decode cX10_set 7 = .ok (.invokevirtual 179, 3) := by decide +kernel
theorem dX10_set_10 : decode cX10_set 10 = .ok (.ifCond .eq 5, 3) := by decide +kernel
theorem dX10_set_13 : decode cX10_set 13 = .ok (.iconst (-1), 1) := by decide +kernel
theorem dX10_set_14 : decode cX10_set 14 = .ok (.ireturn, 1) := by decide +kernel
theorem dX10_set_15 : decode cX10_set 15 = .ok (.aload_n 0, 1) := by decide +kernel
theorem dX10_set_16 : decode cX10_set 16 = .ok (.getfield 31, 3) := by decide +kernel
theorem dX10_set_19 : decode cX10_set 19 = .ok (.bipush 12, 2) := by decide +kernel
theorem dX10_set_21 : decode cX10_set 21 = .ok (.iaload, 1) := by decide +kernel
theorem dX10_set_22 : decode cX10_set 22 = .ok (.iload_n 1, 1) := by decide +kernel
theorem dX10_set_23 : decode cX10_set 23 = .ok (.invokestatic 144, 3) := by decide +kernel
theorem dX10_set_26 : decode cX10_set 26 = .ok (.ifCond .ne 6, 3) := by decide +kernel
theorem dX10_set_29 : decode cX10_set 29 = .ok (.bipush (-3), 2) := by decide +kernel
theorem dX10_set_31 : decode cX10_set 31 = .ok (.ireturn, 1) := by decide +kernel
theorem dX10_set_32 : decode cX10_set 32 = .ok (.aload_n 0, 1) := by decide +kernel
theorem dX10_set_33 : decode cX10_set 33 = .ok (.invokevirtual 192, 3) := by decide +kernel
theorem dX10_set_36 : decode cX10_set 36 = .ok (.aload_n 0, 1) := by decide +kernel
theorem dX10_set_37 : decode cX10_set 37 = .ok (.getfield 31, 3) := by decide +kernel
theorem dX10_set_40 : decode cX10_set 40 = .ok (.iload_n 1, 1) := by decide +kernel
theorem dX10_set_41 : decode cX10_set 41 = .ok (.invokestatic 155, 3) := by decide +kernel
theorem dX10_set_44 : decode cX10_set 44 = .ok (.aload_n 0, 1) := by decide +kernel
theorem dX10_set_45 : decode cX10_set 45 = .ok (.aload_n 0, 1) := by decide +kernel
theorem dX10_set_46 : decode cX10_set 46 = .ok (.getfield 31, 3) := by decide +kernel
theorem dX10_set_49 : decode cX10_set 49 = .ok (.iload_n 1, 1) := by decide +kernel
theorem dX10_set_50 : decode cX10_set 50 = .ok (.invokevirtual 170, 3) := by decide +kernel
theorem dX10_set_53 : decode cX10_set 53 = .ok (.ireturn, 1) := by decide +kernel
theorem dX10_nail_0 : decode cX10_nail 0 = .ok (.aload_n 0, 1) := by decide +kernel
theorem dX10_nail_1 : decode cX10_nail 1 = .ok (.iconst 0, 1) := by decide +kernel
theorem dX10_nail_2 : decode cX10_nail 2 = .ok (.putfield 71, 3) := by decide +kernel
theorem dX10_nail_5 : decode cX10_nail 5 = .ok (.aload_n 0, 1) := by decide +kernel
theorem dX10_nail_6 : decode cX10_nail 6 = .ok (.iload_n 1, 1) := by decide +kernel
theorem dX10_nail_7 : decode cX10_nail 7 = .ok (.invokevirtual 179, 3) := by decide +kernel
theorem dX10_nail_10 : decode cX10_nail 10 = .ok (.ifCond .eq 5, 3) := by decide +kernel
theorem dX10_nail_13 : decode cX10_nail 13 = .ok (.iconst (-1), 1) := by decide +kernel
theorem dX10_nail_14 : decode cX10_nail 14 = .ok (.ireturn, 1) := by decide +kernel
theorem dX10_nail_15 : decode cX10_nail 15 = .ok (.aload_n 0, 1) := by decide +kernel
theorem dX10_nail_16 : decode cX10_nail 16 = .ok (.getfield 31, 3) := by decide +kernel
theorem dX10_nail_19 : decode cX10_nail 19 = .ok (.bipush 12, 2) := by decide +kernel
theorem dX10_nail_21 : decode cX10_nail 21 = .ok (.iaload, 1) := by decide +kernel
theorem dX10_nail_22 : decode cX10_nail 22 = .ok (.iload_n 1, 1) := by decide +kernel
theorem dX10_nail_23 : decode cX10_nail 23 = .ok (.invokestatic 144, 3) := by decide +kernel
theorem dX10_nail_26 : decode cX10_nail 26 = .ok (.ifCond .eq 6, 3) := by decide +kernel
theorem dX10_nail_29 : decode cX10_nail 29 = .ok (.bipush (-3), 2) := by decide +kernel
theorem dX10_nail_31 : decode cX10_nail 31 = .ok (.ireturn, 1) := by decide +kernel
theorem dX10_nail_32 : decode cX10_nail 32 = .ok (.aload_n 0, 1) := by decide +kernel
theorem dX10_nail_33 : decode cX10_nail 33 = .ok (.invokevirtual 192, 3) := by decide +kernel
theorem dX10_nail_36 : decode cX10_nail 36 = .ok (.aload_n 0, 1) := by decide +kernel
theorem dX10_nail_37 : decode cX10_nail 37 = .ok (.getfield 31, 3) := by decide +kernel
theorem dX10_nail_40 : decode cX10_nail 40 = .ok (.bipush 11, 2) := by decide +kernel
theorem dX10_nail_42 : decode cX10_nail 42 = .ok (.dup2, 1) := by decide +kernel
theorem dX10_nail_43 : decode cX10_nail 43 = .ok (.iaload, 1) := by decide +kernel
theorem dX10_nail_44 : decode cX10_nail 44 = .ok (.iconst 1, 1) := by decide +kernel
theorem dX10_nail_45 : decode cX10_nail 45 = .ok (.iload_n 1, 1) := by decide +kernel
theorem dX10_nail_46 : decode cX10_nail 46 = .ok (.ishl, 1) := by decide +kernel
theorem dX10_nail_47 : decode cX10_nail 47 = .ok (.ixor, 1) := by decide +kernel
theorem dX10_nail_48 : decode cX10_nail 48 = .ok (.iastore, 1) := by decide +kernel
theorem dX10_nail_49 : decode cX10_nail 49 = .ok (.aload_n 0, 1) := by decide +kernel
theorem dX10_nail_50 : decode cX10_nail 50 = .ok (.aload_n 0, 1) := by decide +kernel
theorem dX10_nail_51 : decode cX10_nail 51 = .ok (.getfield 31, 3) := by decide +kernel
theorem dX10_nail_54 : decode cX10_nail 54 = .ok (.iload_n 1, 1) := by decide +kernel
theorem dX10_nail_55 : decode cX10_nail 55 = .ok (.invokevirtual 170, 3) := by decide +kernel
theorem dX10_nail_58 : decode cX10_nail 58 = .ok (.ireturn, 1) := by decide +kernel
theorem dX10_paidMore_0 : decode cX10_paidMore 0 = .ok (.iload_n 0, 1) := by decide +kernel
theorem dX10_paidMore_1 : decode cX10_paidMore 1 = .ok (.iconst 3, 1) := by decide +kernel
theorem dX10_paidMore_2 : decode cX10_paidMore 2 = .ok (.iadd, 1) := by decide +kernel
theorem dX10_paidMore_3 : decode cX10_paidMore 3 = .ok (.bipush 9, 2) := by decide +kernel
theorem dX10_paidMore_5 : decode cX10_paidMore 5 = .ok (.if_icmp .le 8, 3) := by decide +kernel
theorem dX10_paidMore_8 : decode cX10_paidMore 8 = .ok (.bipush 9, 2) := by decide +kernel
theorem dX10_paidMore_10 : decode cX10_paidMore 10 = .ok (.goto 6, 3) := by decide +kernel
theorem dX10_paidMore_13 : decode cX10_paidMore 13 = .ok (.iload_n 0, 1) := by decide +kernel
theorem dX10_paidMore_14 : decode cX10_paidMore 14 = .ok (.iconst 3, 1) := by decide +kernel
theorem dX10_paidMore_15 : decode cX10_paidMore 15 = .ok (.iadd, 1) := by decide +kernel
theorem dX10_paidMore_16 : decode cX10_paidMore 16 = .ok (.ireturn, 1) := by decide +kernel
theorem dX10_pay_0 : decode cX10_pay 0 = .ok (.aload_n 0, 1) := by decide +kernel
theorem dX10_pay_1 : decode cX10_pay 1 = .ok (.iconst 0, 1) := by decide +kernel
theorem dX10_pay_2 : decode cX10_pay 2 = .ok (.putfield 71, 3) := by decide +kernel
theorem dX10_pay_5 : decode cX10_pay 5 = .ok (.aload_n 0, 1) := by decide +kernel
theorem dX10_pay_6 : decode cX10_pay 6 = .ok (.getfield 31, 3) := by decide +kernel
theorem dX10_pay_9 : decode cX10_pay 9 = .ok (.bipush 14, 2) := by decide +kernel
theorem dX10_pay_11 : decode cX10_pay 11 = .ok (.iaload, 1) := by decide +kernel
theorem dX10_pay_12 : decode cX10_pay 12 = .ok (.bipush 9, 2) := by decide +kernel
theorem dX10_pay_14 : decode cX10_pay 14 = .ok (.if_icmp .ne 6, 3) := by decide +kernel
theorem dX10_pay_17 : decode cX10_pay 17 = .ok (.bipush (-3), 2) := by decide +kernel
theorem dX10_pay_19 : decode cX10_pay 19 = .ok (.ireturn, 1) := by decide +kernel
theorem dX10_pay_20 : decode cX10_pay 20 = .ok (.aload_n 0, 1) := by decide +kernel
theorem dX10_pay_21 : decode cX10_pay 21 = .ok (.invokevirtual 192, 3) := by decide +kernel
theorem dX10_pay_24 : decode cX10_pay 24 = .ok (.aload_n 0, 1) := by decide +kernel
theorem dX10_pay_25 : decode cX10_pay 25 = .ok (.getfield 31, 3) := by decide +kernel
theorem dX10_pay_28 : decode cX10_pay 28 = .ok (.bipush 14, 2) := by decide +kernel
theorem dX10_pay_30 : decode cX10_pay 30 = .ok (.aload_n 0, 1) := by decide +kernel
theorem dX10_pay_31 : decode cX10_pay 31 = .ok (.getfield 31, 3) := by decide +kernel
theorem dX10_pay_34 : decode cX10_pay 34 = .ok (.bipush 14, 2) := by decide +kernel
theorem dX10_pay_36 : decode cX10_pay 36 = .ok (.iaload, 1) := by decide +kernel
theorem dX10_pay_37 : decode cX10_pay 37 = .ok (.invokestatic 199, 3) := by decide +kernel
theorem dX10_pay_40 : decode cX10_pay 40 = .ok (.iastore, 1) := by decide +kernel
theorem dX10_pay_41 : decode cX10_pay 41 = .ok (.aload_n 0, 1) := by decide +kernel
theorem dX10_pay_42 : decode cX10_pay 42 = .ok (.getfield 31, 3) := by decide +kernel
theorem dX10_pay_45 : decode cX10_pay 45 = .ok (.bipush 14, 2) := by decide +kernel
theorem dX10_pay_47 : decode cX10_pay 47 = .ok (.iaload, 1) := by decide +kernel
theorem dX10_pay_48 : decode cX10_pay 48 = .ok (.ireturn, 1) := by decide +kernel
theorem dX10_blow_0 : decode cX10_blow 0 = .ok (.aload_n 0, 1) := by decide +kernel
theorem dX10_blow_1 : decode cX10_blow 1 = .ok (.iconst 0, 1) := by decide +kernel
theorem dX10_blow_2 : decode cX10_blow 2 = .ok (.putfield 71, 3) := by decide +kernel
theorem dX10_blow_5 : decode cX10_blow 5 = .ok (.iload_n 1, 1) := by decide +kernel
theorem dX10_blow_6 : decode cX10_blow 6 = .ok (.i2l, 1) := by decide +kernel
theorem dX10_blow_7 : decode cX10_blow 7 = .ok (.lconst 0, 1) := by decide +kernel
theorem dX10_blow_8 : decode cX10_blow 8 = .ok (.ldc2_w 186, 3) := by decide +kernel
theorem dX10_blow_11 : decode cX10_blow 11 = .ok (.invokestatic 78, 3) := by decide +kernel
theorem dX10_blow_14 : decode cX10_blow 14 = .ok (.ifCond .ne 6, 3) := by decide +kernel
theorem dX10_blow_17 : decode cX10_blow 17 = .ok (.bipush (-2), 2) := by decide +kernel
theorem dX10_blow_19 : decode cX10_blow 19 = .ok (.ireturn, 1) := by decide +kernel
theorem dX10_blow_20 : decode cX10_blow 20 = .ok (.aload_n 0, 1) := by decide +kernel
theorem dX10_blow_21 : decode cX10_blow 21 = .ok (.getfield 31, 3) := by decide +kernel
theorem dX10_blow_24 : decode cX10_blow 24 = .ok (.bipush 13, 2) := by decide +kernel
theorem dX10_blow_26 : decode cX10_blow 26 = .ok (.iaload, 1) := by decide +kernel
theorem dX10_blow_27 : decode cX10_blow 27 = .ok (.istore_n 2, 1) := by decide +kernel
theorem dX10_blow_28 : decode cX10_blow 28 = .ok (.iload_n 2, 1) := by decide +kernel
theorem dX10_blow_29 : decode cX10_blow 29 = .ok (.iload_n 1, 1) := by decide +kernel
theorem dX10_blow_30 : decode cX10_blow 30 = .ok (.if_icmp .ne 6, 3) := by decide +kernel
theorem dX10_blow_33 : decode cX10_blow 33 = .ok (.bipush (-3), 2) := by decide +kernel
theorem dX10_blow_35 : decode cX10_blow 35 = .ok (.ireturn, 1) := by decide +kernel
theorem dX10_blow_36 : decode cX10_blow 36 = .ok (.aload_n 0, 1) := by decide +kernel
theorem dX10_blow_37 : decode cX10_blow 37 = .ok (.invokevirtual 192, 3) := by decide +kernel
theorem dX10_blow_40 : decode cX10_blow 40 = .ok (.aload_n 0, 1) := by decide +kernel
theorem dX10_blow_41 : decode cX10_blow 41 = .ok (.getfield 31, 3) := by decide +kernel
theorem dX10_blow_44 : decode cX10_blow 44 = .ok (.bipush 13, 2) := by decide +kernel
theorem dX10_blow_46 : decode cX10_blow 46 = .ok (.iload_n 1, 1) := by decide +kernel
theorem dX10_blow_47 : decode cX10_blow 47 = .ok (.iastore, 1) := by decide +kernel
theorem dX10_blow_48 : decode cX10_blow 48 = .ok (.iload_n 2, 1) := by decide +kernel
theorem dX10_blow_49 : decode cX10_blow 49 = .ok (.ireturn, 1) := by decide +kernel
theorem dX10_undo_0 : decode cX10_undo 0 = .ok (.aload_n 0, 1) := by decide +kernel
end
section
theorem dX10_undo_1 : decode cX10_undo 1 = .ok (.iconst 0, 1) := by decide +kernel
theorem dX10_undo_2 : decode cX10_undo 2 = .ok (.putfield 71, 3) := by decide +kernel
theorem dX10_undo_5 : decode cX10_undo 5 = .ok (.aload_n 0, 1) := by decide +kernel
theorem dX10_undo_6 : decode cX10_undo 6 = .ok (.getfield 141, 3) := by decide +kernel
theorem dX10_undo_9 : decode cX10_undo 9 = .ok (.ifCond .ne 6, 3) := by decide +kernel
theorem dX10_undo_12 : decode cX10_undo 12 = .ok (.bipush (-3), 2) := by decide +kernel
theorem dX10_undo_14 : decode cX10_undo 14 = .ok (.ireturn, 1) := by decide +kernel
theorem dX10_undo_15 : decode cX10_undo 15 = .ok (.aload_n 0, 1) := by decide +kernel
theorem dX10_undo_16 : decode cX10_undo 16 = .ok (.dup, 1) := by decide +kernel
theorem dX10_undo_17 : decode cX10_undo 17 = .ok (.getfield 141, 3) := by decide +kernel
theorem dX10_undo_20 : decode cX10_undo 20 = .ok (.iconst 1, 1) := by decide +kernel
theorem dX10_undo_21 : decode cX10_undo 21 = .ok (.isub, 1) := by decide +kernel
theorem dX10_undo_22 : decode cX10_undo 22 = .ok (.putfield 141, 3) := by decide +kernel
theorem dX10_undo_25 : decode cX10_undo 25 = .ok (.iconst 0, 1) := by decide +kernel
theorem dX10_undo_26 : decode cX10_undo 26 = .ok (.istore_n 1, 1) := by decide +kernel
theorem dX10_undo_27 : decode cX10_undo 27 = .ok (.iload_n 1, 1) := by decide +kernel
theorem dX10_undo_28 : decode cX10_undo 28 = .ok (.bipush 15, 2) := by decide +kernel
theorem dX10_undo_30 : decode cX10_undo 30 = .ok (.if_icmp .ge 29, 3) := by decide +kernel
theorem dX10_undo_33 : decode cX10_undo 33 = .ok (.aload_n 0, 1) := by decide +kernel
theorem dX10_undo_34 : decode cX10_undo 34 = .ok (.getfield 31, 3) := by decide +kernel
theorem dX10_undo_37 : decode cX10_undo 37 = .ok (.iload_n 1, 1) := by decide +kernel
theorem dX10_undo_38 : decode cX10_undo 38 = .ok (.aload_n 0, 1) := by decide +kernel
theorem dX10_undo_39 : decode cX10_undo 39 = .ok (.getfield 40, 3) := by decide +kernel
theorem dX10_undo_42 : decode cX10_undo 42 = .ok (.bipush 15, 2) := by decide +kernel
theorem dX10_undo_44 : decode cX10_undo 44 = .ok (.aload_n 0, 1) := by decide +kernel
theorem dX10_undo_45 : decode cX10_undo 45 = .ok (.getfield 141, 3) := by decide +kernel
theorem dX10_undo_48 : decode cX10_undo 48 = .ok (.imul, 1) := by decide +kernel
theorem dX10_undo_49 : decode cX10_undo 49 = .ok (.iload_n 1, 1) := by decide +kernel
theorem dX10_undo_50 : decode cX10_undo 50 = .ok (.iadd, 1) := by decide +kernel
theorem dX10_undo_51 : decode cX10_undo 51 = .ok (.iaload, 1) := by decide +kernel
theorem dX10_undo_52 : decode cX10_undo 52 = .ok (.iastore, 1) := by decide +kernel
theorem dX10_undo_53 : decode cX10_undo 53 = .ok (.iinc 1 1, 3) := by decide +kernel
theorem dX10_undo_56 : decode cX10_undo 56 = .ok (.goto (-29), 3) := by decide +kernel
theorem dX10_undo_59 : decode cX10_undo 59 = .ok (.aload_n 0, 1) := by decide +kernel
theorem dX10_undo_60 : decode cX10_undo 60 = .ok (.getfield 141, 3) := by decide +kernel
theorem dX10_undo_63 : decode cX10_undo 63 = .ok (.ireturn, 1) := by decide +kernel
theorem dX10_felled_0 : decode cX10_felled 0 = .ok (.aload_n 0, 1) := by decide +kernel
theorem dX10_felled_1 : decode cX10_felled 1 = .ok (.iconst 0, 1) := by decide +kernel
theorem dX10_felled_2 : decode cX10_felled 2 = .ok (.putfield 71, 3) := by decide +kernel
theorem dX10_felled_5 : decode cX10_felled 5 = .ok (.aload_n 0, 1) := by decide +kernel
theorem dX10_felled_6 : decode cX10_felled 6 = .ok (.iload_n 1, 1) := by decide +kernel
theorem dX10_felled_7 : decode cX10_felled 7 = .ok (.iload_n 2, 1) := by decide +kernel
theorem dX10_felled_8 : decode cX10_felled 8 = .ok (.iload_n 3, 1) := by decide +kernel
theorem dX10_felled_9 : decode cX10_felled 9 = .ok (.invokevirtual 188, 3) := by decide +kernel
theorem dX10_felled_12 : decode cX10_felled 12 = .ok (.istore 4, 2) := by decide +kernel
theorem dX10_felled_14 : decode cX10_felled 14 = .ok (.iload 4, 2) := by decide +kernel
theorem dX10_felled_16 : decode cX10_felled 16 = .ok (.ifCond .eq 6, 3) := by decide +kernel
theorem dX10_felled_19 : decode cX10_felled 19 = .ok (.iload 4, 2) := by decide +kernel
theorem dX10_felled_21 : decode cX10_felled 21 = .ok (.ireturn, 1) := by decide +kernel
theorem dX10_felled_22 : decode cX10_felled 22 = .ok (.aload_n 0, 1) := by decide +kernel
theorem dX10_felled_23 : decode cX10_felled 23 = .ok (.getfield 31, 3) := by decide +kernel
theorem dX10_felled_26 : decode cX10_felled 26 = .ok (.aload_n 0, 1) := by decide +kernel
theorem dX10_felled_27 : decode cX10_felled 27 = .ok (.getfield 34, 3) := by decide +kernel
theorem dX10_felled_30 : decode cX10_felled 30 = .ok (.bipush 15, 2) := by decide +kernel
theorem dX10_felled_32 : decode cX10_felled 32 = .ok (.invokestatic 137, 3) := by decide +kernel
theorem dX10_felled_35 : decode cX10_felled 35 = .ok (.aload_n 0, 1) := by decide +kernel
theorem dX10_felled_36 : decode cX10_felled 36 = .ok (.aload_n 0, 1) := by decide +kernel
theorem dX10_felled_37 : decode cX10_felled 37 = .ok (.getfield 34, 3) := by decide +kernel
theorem dX10_felled_40 : decode cX10_felled 40 = .ok (.iload_n 1, 1) := by decide +kernel
theorem dX10_felled_41 : decode cX10_felled 41 = .ok (.iload_n 2, 1) := by decide +kernel
theorem dX10_felled_42 : decode cX10_felled 42 = .ok (.iload_n 3, 1) := by decide +kernel
theorem dX10_felled_43 : decode cX10_felled 43 = .ok (.invokevirtual 195, 3) := by decide +kernel
theorem dX10_felled_46 : decode cX10_felled 46 = .ok (.aload_n 0, 1) := by decide +kernel
theorem dX10_felled_47 : decode cX10_felled 47 = .ok (.getfield 34, 3) := by decide +kernel
theorem dX10_felled_50 : decode cX10_felled 50 = .ok (.bipush 12, 2) := by decide +kernel
theorem dX10_felled_52 : decode cX10_felled 52 = .ok (.iaload, 1) := by decide +kernel
theorem dX10_felled_53 : decode cX10_felled 53 = .ok (.ireturn, 1) := by decide +kernel
theorem dX10_power_0 : decode cX10_power 0 = .ok (.iconst 1, 1) := by decide +kernel
theorem dX10_power_1 : decode cX10_power 1 = .ok (.istore_n 2, 1) := by decide +kernel
theorem dX10_power_2 : decode cX10_power 2 = .ok (.iconst 0, 1) := by decide +kernel
theorem dX10_power_3 : decode cX10_power 3 = .ok (.istore_n 3, 1) := by decide +kernel
theorem dX10_power_4 : decode cX10_power 4 = .ok (.iload_n 3, 1) := by decide +kernel
theorem dX10_power_5 : decode cX10_power 5 = .ok (.iload_n 1, 1) := by decide +kernel
theorem dX10_power_6 : decode cX10_power 6 = .ok (.if_icmp .ge 13, 3) := by decide +kernel
theorem dX10_power_9 : decode cX10_power 9 = .ok (.iload_n 2, 1) := by decide +kernel
theorem dX10_power_10 : decode cX10_power 10 = .ok (.iload_n 0, 1) := by decide +kernel
theorem dX10_power_11 : decode cX10_power 11 = .ok (.imul, 1) := by decide +kernel
theorem dX10_power_12 : decode cX10_power 12 = .ok (.istore_n 2, 1) := by decide +kernel
theorem dX10_power_13 : decode cX10_power 13 = .ok (.iinc 3 1, 3) := by decide +kernel
theorem dX10_power_16 : decode cX10_power 16 = .ok (.goto (-12), 3) := by decide +kernel
theorem dX10_power_19 : decode cX10_power 19 = .ok (.iload_n 2, 1) := by decide +kernel
theorem dX10_power_20 : decode cX10_power 20 = .ok (.ireturn, 1) := by decide +kernel
theorem dX10_throwsAt_0 : decode cX10_throwsAt 0 = .ok (.aload_n 0, 1) := by decide +kernel
theorem dX10_throwsAt_1 : decode cX10_throwsAt 1 = .ok (.aload_n 0, 1) := by decide +kernel
theorem dX10_throwsAt_2 : decode cX10_throwsAt 2 = .ok (.getfield 34, 3) := by decide +kernel
theorem dX10_throwsAt_5 : decode cX10_throwsAt 5 = .ok (.iload_n 1, 1) := by decide +kernel
theorem dX10_throwsAt_6 : decode cX10_throwsAt 6 = .ok (.iload_n 2, 1) := by decide +kernel
theorem dX10_throwsAt_7 : decode cX10_throwsAt 7 = .ok (.invokevirtual 202, 3) := by decide +kernel
theorem dX10_throwsAt_10 : decode cX10_throwsAt 10 = .ok (.istore_n 3, 1) := by decide +kernel
theorem dX10_throwsAt_11 : decode cX10_throwsAt 11 = .ok (.iload_n 3, 1) := by decide +kernel
theorem dX10_throwsAt_12 : decode cX10_throwsAt 12 = .ok (.bipush (-9), 2) := by decide +kernel
theorem dX10_throwsAt_14 : decode cX10_throwsAt 14 = .ok (.if_icmp .ne 5, 3) := by decide +kernel
theorem dX10_throwsAt_17 : decode cX10_throwsAt 17 = .ok (.iconst 0, 1) := by decide +kernel
theorem dX10_throwsAt_18 : decode cX10_throwsAt 18 = .ok (.ireturn, 1) := by decide +kernel
theorem dX10_throwsAt_19 : decode cX10_throwsAt 19 = .ok (.aload_n 0, 1) := by decide +kernel
theorem dX10_throwsAt_20 : decode cX10_throwsAt 20 = .ok (.aload_n 0, 1) := by decide +kernel
theorem dX10_throwsAt_21 : decode cX10_throwsAt 21 = .ok (.getfield 34, 3) := by decide +kernel
theorem dX10_throwsAt_24 : decode cX10_throwsAt 24 = .ok (.iload_n 1, 1) := by decide +kernel
theorem dX10_throwsAt_25 : decode cX10_throwsAt 25 = .ok (.iload_n 3, 1) := by decide +kernel
theorem dX10_throwsAt_26 : decode cX10_throwsAt 26 = .ok (.iconst 0, 1) := by decide +kernel
theorem dX10_throwsAt_27 : decode cX10_throwsAt 27 = .ok (.invokevirtual 195, 3) := by decide +kernel
theorem dX10_throwsAt_30 : decode cX10_throwsAt 30 = .ok (.iconst 1, 1) := by decide +kernel
theorem dX10_throwsAt_31 : decode cX10_throwsAt 31 = .ok (.ireturn, 1) := by decide +kernel
theorem dX10_findFewest_0 : decode cX10_findFewest 0 = .ok (.aload_n 0, 1) := by decide +kernel
theorem dX10_findFewest_1 : decode cX10_findFewest 1 = .ok (.getfield 31, 3) := by decide +kernel
theorem dX10_findFewest_4 : decode cX10_findFewest 4 = .ok (.bipush 12, 2) := by decide +kernel
theorem dX10_findFewest_6 : decode cX10_findFewest 6 = .ok (.iaload, 1) := by decide +kernel
theorem dX10_findFewest_7 : decode cX10_findFewest 7 = .ok (.iload_n 1, 1) := by decide +kernel
theorem dX10_findFewest_8 : decode cX10_findFewest 8 = .ok (.invokestatic 144, 3) := by decide +kernel
theorem dX10_findFewest_11 : decode cX10_findFewest 11 = .ok (.istore_n 2, 1) := by decide +kernel
theorem dX10_findFewest_12 : decode cX10_findFewest 12 = .ok (.aload_n 0, 1) := by decide +kernel
theorem dX10_findFewest_13 : decode cX10_findFewest 13 = .ok (.iload_n 2, 1) := by decide +kernel
theorem dX10_findFewest_14 : decode cX10_findFewest 14 = .ok (.ifCond .eq 7, 3) := by decide +kernel
theorem dX10_findFewest_17 : decode cX10_findFewest 17 = .ok (.iconst 0, 1) := by decide +kernel
theorem dX10_findFewest_18 : decode cX10_findFewest 18 = .ok (.goto 5, 3) := by decide +kernel
theorem dX10_findFewest_21 : decode cX10_findFewest 21 = .ok (.bipush (-9), 2) := by decide +kernel
theorem dX10_findFewest_23 : decode cX10_findFewest 23 = .ok (.putfield 206, 3) := by decide +kernel
theorem dX10_findFewest_26 : decode cX10_findFewest 26 = .ok (.aload_n 0, 1) := by decide +kernel
theorem dX10_findFewest_27 : decode cX10_findFewest 27 = .ok (.iload_n 2, 1) := by decide +kernel
theorem dX10_findFewest_28 : decode cX10_findFewest 28 = .ok (.ifCond .eq 7, 3) := by decide +kernel
theorem dX10_findFewest_31 : decode cX10_findFewest 31 = .ok (.iconst 0, 1) := by decide +kernel
theorem dX10_findFewest_32 : decode cX10_findFewest 32 = .ok (.goto 5, 3) := by decide +kernel
theorem dX10_findFewest_35 : decode cX10_findFewest 35 = .ok (.bipush (-9), 2) := by decide +kernel
theorem dX10_findFewest_37 : decode cX10_findFewest 37 = .ok (.putfield 209, 3) := by decide +kernel
theorem dX10_findFewest_40 : decode cX10_findFewest 40 = .ok (.aload_n 0, 1) := by decide +kernel
theorem dX10_findFewest_41 : decode cX10_findFewest 41 = .ok (.getfield 82, 3) := by decide +kernel
theorem dX10_findFewest_44 : decode cX10_findFewest 44 = .ok (.aload_n 0, 1) := by decide +kernel
theorem dX10_findFewest_45 : decode cX10_findFewest 45 = .ok (.getfield 75, 3) := by decide +kernel
theorem dX10_findFewest_48 : decode cX10_findFewest 48 = .ok (.imul, 1) := by decide +kernel
theorem dX10_findFewest_49 : decode cX10_findFewest 49 = .ok (.istore_n 3, 1) := by decide +kernel
theorem dX10_findFewest_50 : decode cX10_findFewest 50 = .ok (.iconst 1, 1) := by decide +kernel
theorem dX10_findFewest_51 : decode cX10_findFewest 51 = .ok (.istore 4, 2) := by decide +kernel
theorem dX10_findFewest_53 : decode cX10_findFewest 53 = .ok (.iload 4, 2) := by decide +kernel
theorem dX10_findFewest_55 : decode cX10_findFewest 55 = .ok (.iconst 4, 1) := by decide +kernel
theorem dX10_findFewest_56 : decode cX10_findFewest 56 = .ok (.if_icmp .ge 182, 3) := by decide +kernel
theorem dX10_findFewest_59 : decode cX10_findFewest 59 = .ok (.aload_n 0, 1) := by decide +kernel
theorem dX10_findFewest_60 : decode cX10_findFewest 60 = .ok (.getfield 206, 3) := by decide +kernel
theorem dX10_findFewest_63 : decode cX10_findFewest 63 = .ok (.bipush (-9), 2) := by decide +kernel
theorem dX10_findFewest_65 : decode cX10_findFewest 65 = .ok (.if_icmp .ne 173, 3) := by decide +kernel
theorem dX10_findFewest_68 : decode cX10_findFewest 68 = .ok (.iconst 0, 1) := by decide +kernel
theorem dX10_findFewest_69 : decode cX10_findFewest 69 = .ok (.istore 5, 2) := by decide +kernel
theorem dX10_findFewest_71 : decode cX10_findFewest 71 = .ok (.iload 5, 2) := by decide +kernel
theorem dX10_findFewest_73 : decode cX10_findFewest 73 = .ok (.iload_n 3, 1) := by decide +kernel
theorem dX10_findFewest_74 : decode cX10_findFewest 74 = .ok (.iload 4, 2) := by decide +kernel
theorem dX10_findFewest_76 : decode cX10_findFewest 76 = .ok (.invokestatic 212, 3) := by decide +kernel
theorem dX10_findFewest_79 : decode cX10_findFewest 79 = .ok (.if_icmp .ge 153, 3) := by decide +kernel
theorem dX10_findFewest_82 : decode cX10_findFewest 82 = .ok (.aload_n 0, 1) := by decide +kernel
theorem dX10_findFewest_83 : decode cX10_findFewest 83 = .ok (.getfield 206, 3) := by decide +kernel
theorem dX10_findFewest_86 : decode cX10_findFewest 86 = .ok (.bipush (-9), 2) := by decide +kernel
theorem dX10_findFewest_88 : decode cX10_findFewest 88 = .ok (.if_icmp .ne 144, 3) := by decide +kernel
theorem dX10_findFewest_91 : decode cX10_findFewest 91 = .ok (.aload_n 0, 1) := by decide +kernel
theorem dX10_findFewest_92 : decode cX10_findFewest 92 = .ok (.getfield 31, 3) := by decide +kernel
theorem dX10_findFewest_95 : decode cX10_findFewest 95 = .ok (.aload_n 0, 1) := by decide +kernel
theorem dX10_findFewest_96 : decode cX10_findFewest 96 = .ok (.getfield 34, 3) := by decide +kernel
theorem dX10_findFewest_99 : decode cX10_findFewest 99 = .ok (.bipush 15, 2) := by decide +kernel
theorem dX10_findFewest_101 : decode cX10_findFewest 101 = .ok (.invokestatic 137, 3) := by decide +kernel
theorem dX10_findFewest_104 : decode cX10_findFewest 104 = .ok (.iconst 0, 1) := by decide +kernel
theorem dX10_findFewest_105 : decode cX10_findFewest 105 = .ok (.istore 6, 2) := by decide +kernel
theorem dX10_findFewest_107 : decode cX10_findFewest 107 = .ok (.iconst 1, 1) := by decide +kernel
theorem dX10_findFewest_108 : decode cX10_findFewest 108 = .ok (.istore 7, 2) := by decide +kernel
theorem dX10_findFewest_110 : decode cX10_findFewest 110 = .ok (.iload 4, 2) := by decide +kernel
theorem dX10_findFewest_112 : decode cX10_findFewest 112 = .ok (.iconst 1, 1) := by decide +kernel
theorem dX10_findFewest_113 : decode cX10_findFewest 113 = .ok (.isub, 1) := by decide +kernel
theorem dX10_findFewest_114 : decode cX10_findFewest 114 = .ok (.istore 8, 2) := by decide +kernel
theorem dX10_findFewest_116 : decode cX10_findFewest 116 = .ok (.iload 8, 2) := by decide +kernel
theorem dX10_findFewest_118 : decode cX10_findFewest 118 = .ok (.ifCond .lt 77, 3) := by decide +kernel
theorem dX10_findFewest_121 : decode cX10_findFewest 121 = .ok (.iload 7, 2) := by decide +kernel
theorem dX10_findFewest_123 : decode cX10_findFewest 123 = .ok (.ifCond .eq 72, 3) := by decide +kernel
theorem dX10_findFewest_126 : decode cX10_findFewest 126 = .ok (.iload 5, 2) := by decide +kernel
theorem dX10_findFewest_128 : decode cX10_findFewest 128 = .ok (.iload_n 3, 1) := by decide +kernel
theorem dX10_findFewest_129 : decode cX10_findFewest 129 = .ok (.iload 8, 2) := by decide +kernel
theorem dX10_findFewest_131 : decode cX10_findFewest 131 = .ok (.invokestatic 212, 3) := by decide +kernel
theorem dX10_findFewest_134 : decode cX10_findFewest 134 = .ok (.idiv, 1) := by decide +kernel
theorem dX10_findFewest_135 : decode cX10_findFewest 135 = .ok (.iload_n 3, 1) := by decide +kernel
theorem dX10_findFewest_136 : decode cX10_findFewest 136 = .ok (.irem, 1) := by decide +kernel
theorem dX10_findFewest_137 : decode cX10_findFewest 137 = .ok (.istore 9, 2) := by decide +kernel
theorem dX10_findFewest_139 : decode cX10_findFewest 139 = .ok (.bipush 100, 2) := by decide +kernel
theorem dX10_findFewest_141 : decode cX10_findFewest 141 = .ok (.iload 6, 2) := by decide +kernel
theorem dX10_findFewest_143 : decode cX10_findFewest 143 = .ok (.imul, 1) := by decide +kernel
theorem dX10_findFewest_144 : decode cX10_findFewest 144 = .ok (.bipush 10, 2) := by decide +kernel
theorem dX10_findFewest_146 : decode cX10_findFewest 146 = .ok (.iload 9, 2) := by decide +kernel
theorem dX10_findFewest_148 : decode cX10_findFewest 148 = .ok (.aload_n 0, 1) := by decide +kernel
theorem dX10_findFewest_149 : decode cX10_findFewest 149 = .ok (.getfield 75, 3) := by decide +kernel
theorem dX10_findFewest_152 : decode cX10_findFewest 152 = .ok (.idiv, 1) := by decide +kernel
theorem dX10_findFewest_153 : decode cX10_findFewest 153 = .ok (.iconst 1, 1) := by decide +kernel
theorem dX10_findFewest_154 : decode cX10_findFewest 154 = .ok (.iadd, 1) := by decide +kernel
theorem dX10_findFewest_155 : decode cX10_findFewest 155 = .ok (.imul, 1) := by decide +kernel
theorem dX10_findFewest_156 : decode cX10_findFewest 156 = .ok (.iadd, 1) := by decide +kernel
theorem dX10_findFewest_157 : decode cX10_findFewest 157 = .ok (.iload 9, 2) := by decide +kernel
theorem dX10_findFewest_159 : decode cX10_findFewest 159 = .ok (.aload_n 0, 1) := by decide +kernel
theorem dX10_findFewest_160 : decode cX10_findFewest 160 = .ok (.getfield 75, 3) := by decide +kernel
theorem dX10_findFewest_163 : decode cX10_findFewest 163 = .ok (.irem, 1) := by decide +kernel
theorem dX10_findFewest_164 : decode cX10_findFewest 164 = .ok (.iadd, 1) := by decide +kernel
theorem dX10_findFewest_165 : decode cX10_findFewest 165 = .ok (.iconst 1, 1) := by decide +kernel
theorem dX10_findFewest_166 : decode cX10_findFewest 166 = .ok (.iadd, 1) := by decide +kernel
theorem dX10_findFewest_167 : decode cX10_findFewest 167 = .ok (.istore 6, 2) := by decide +kernel
theorem dX10_findFewest_169 : decode cX10_findFewest 169 = .ok (.aload_n 0, 1) := by decide +kernel
theorem dX10_findFewest_170 : decode cX10_findFewest 170 = .ok (.iload 9, 2) := by decide +kernel
theorem dX10_findFewest_172 : decode cX10_findFewest 172 = .ok (.aload_n 0, 1) := by decide +kernel
theorem dX10_findFewest_173 : decode cX10_findFewest 173 = .ok (.getfield 75, 3) := by decide +kernel
theorem dX10_findFewest_176 : decode cX10_findFewest 176 = .ok (.idiv, 1) := by decide +kernel
theorem dX10_findFewest_177 : decode cX10_findFewest 177 = .ok (.iload 9, 2) := by decide +kernel
theorem dX10_findFewest_179 : decode cX10_findFewest 179 = .ok (.aload_n 0, 1) := by decide +kernel
theorem dX10_findFewest_180 : decode cX10_findFewest 180 = .ok (.getfield 75, 3) := by decide +kernel
theorem dX10_findFewest_183 : decode cX10_findFewest 183 = .ok (.irem, 1) := by decide +kernel
theorem dX10_findFewest_184 : decode cX10_findFewest 184 = .ok (.invokevirtual 215, 3) := by decide +kernel
theorem dX10_findFewest_187 : decode cX10_findFewest 187 = .ok (.istore 7, 2) := by decide +kernel
theorem dX10_findFewest_189 : decode cX10_findFewest 189 = .ok (.iinc 8 (-1), 3) := by decide +kernel
theorem dX10_findFewest_192 : decode cX10_findFewest 192 = .ok (.goto (-76), 3) := by decide +kernel
theorem dX10_findFewest_195 : decode cX10_findFewest 195 = .ok (.iload 7, 2) := by decide +kernel
theorem dX10_findFewest_197 : decode cX10_findFewest 197 = .ok (.ifCond .eq 29, 3) := by decide +kernel
theorem dX10_findFewest_200 : decode cX10_findFewest 200 = .ok (.aload_n 0, 1) := by decide +kernel
theorem dX10_findFewest_201 : decode cX10_findFewest 201 = .ok (.getfield 34, 3) := by decide +kernel
theorem dX10_findFewest_204 : decode cX10_findFewest 204 = .ok (.bipush 12, 2) := by decide +kernel
theorem dX10_findFewest_206 : decode cX10_findFewest 206 = .ok (.iaload, 1) := by decide +kernel
theorem dX10_findFewest_207 : decode cX10_findFewest 207 = .ok (.iload_n 1, 1) := by decide +kernel
theorem dX10_findFewest_208 : decode cX10_findFewest 208 = .ok (.invokestatic 144, 3) := by decide +kernel
theorem dX10_findFewest_211 : decode cX10_findFewest 211 = .ok (.ifCond .eq 15, 3) := by decide +kernel
theorem dX10_findFewest_214 : decode cX10_findFewest 214 = .ok (.aload_n 0, 1) := by decide +kernel
theorem dX10_findFewest_215 : decode cX10_findFewest 215 = .ok (.iload 4, 2) := by decide +kernel
theorem dX10_findFewest_217 : decode cX10_findFewest 217 = .ok (.putfield 206, 3) := by decide +kernel
theorem dX10_findFewest_220 : decode cX10_findFewest 220 = .ok (.aload_n 0, 1) := by decide +kernel
theorem dX10_findFewest_221 : decode cX10_findFewest 221 = .ok (.iload 6, 2) := by decide +kernel
theorem dX10_findFewest_223 : decode cX10_findFewest 223 = .ok (.putfield 209, 3) := by decide +kernel
theorem dX10_findFewest_226 : decode cX10_findFewest 226 = .ok (.iinc 5 1, 3) := by decide +kernel
theorem dX10_findFewest_229 : decode cX10_findFewest 229 = .ok (.goto (-158), 3) := by decide +kernel
theorem dX10_findFewest_232 : decode cX10_findFewest 232 = .ok (.iinc 4 1, 3) := by decide +kernel
theorem dX10_findFewest_235 : decode cX10_findFewest 235 = .ok (.goto (-182), 3) := by decide +kernel
theorem dX10_findFewest_238 : decode cX10_findFewest 238 = .ok (.return_, 1) := by decide +kernel
theorem dX10_fewest_0 : decode cX10_fewest 0 = .ok (.aload_n 0, 1) := by decide +kernel
theorem dX10_fewest_1 : decode cX10_fewest 1 = .ok (.iconst 0, 1) := by decide +kernel
theorem dX10_fewest_2 : decode cX10_fewest 2 = .ok (.putfield 71, 3) := by decide +kernel
theorem dX10_fewest_5 : decode cX10_fewest 5 = .ok (.aload_n 0, 1) := by decide +kernel
theorem dX10_fewest_6 : decode cX10_fewest 6 = .ok (.iload_n 1, 1) := by decide +kernel
theorem dX10_fewest_7 : decode cX10_fewest 7 = .ok (.invokevirtual 179, 3) := by decide +kernel
theorem dX10_fewest_10 : decode cX10_fewest 10 = .ok (.ifCond .eq 5, 3) := by decide +kernel
theorem dX10_fewest_13 : decode cX10_fewest 13 = .ok (.iconst (-1), 1) := by decide +kernel
theorem dX10_fewest_14 : decode cX10_fewest 14 = .ok (.ireturn, 1) := by decide +kernel
theorem dX10_fewest_15 : decode cX10_fewest 15 = .ok (.aload_n 0, 1) := by decide +kernel
theorem dX10_fewest_16 : decode cX10_fewest 16 = .ok (.iload_n 1, 1) := by decide +kernel
theorem dX10_fewest_17 : decode cX10_fewest 17 = .ok (.invokevirtual 218, 3) := by decide +kernel
theorem dX10_fewest_20 : decode cX10_fewest 20 = .ok (.iload_n 2, 1) := by decide +kernel
theorem dX10_fewest_21 : decode cX10_fewest 21 = .ok (.ifCond .eq 10, 3) := by decide +kernel
theorem dX10_fewest_24 : decode cX10_fewest 24 = .ok (.aload_n 0, 1) := by decide +kernel
theorem dX10_fewest_25 : decode cX10_fewest 25 = .ok (.getfield 209, 3) := by decide +kernel
theorem dX10_fewest_28 : decode cX10_fewest 28 = .ok (.goto 7, 3) := by decide +kernel
theorem dX10_fewest_31 : decode cX10_fewest 31 = .ok (.aload_n 0, 1) := by decide +kernel
theorem dX10_fewest_32 : decode cX10_fewest 32 = .ok (.getfield 206, 3) := by decide +kernel
theorem dX10_fewest_35 : decode cX10_fewest 35 = .ok (.ireturn, 1) := by decide +kernel
theorem dX10_winds_0 : decode cX10_winds 0 = .ok (.aload_n 0, 1) := by decide +kernel
theorem dX10_winds_1 : decode cX10_winds 1 = .ok (.iconst 0, 1) := by decide +kernel
theorem dX10_winds_2 : decode cX10_winds 2 = .ok (.putfield 71, 3) := by decide +kernel
theorem dX10_winds_5 : decode cX10_winds 5 = .ok (.aload_n 0, 1) := by decide +kernel
theorem dX10_winds_6 : decode cX10_winds 6 = .ok (.iload_n 1, 1) := by decide +kernel
theorem dX10_winds_7 : decode cX10_winds 7 = .ok (.invokevirtual 183, 3) := by decide +kernel
theorem dX10_winds_10 : decode cX10_winds 10 = .ok (.ifCond .ne 11, 3) := by decide +kernel
theorem dX10_winds_13 : decode cX10_winds 13 = .ok (.aload_n 0, 1) := by decide +kernel
theorem dX10_winds_14 : decode cX10_winds 14 = .ok (.iload_n 2, 1) := by decide +kernel
theorem dX10_winds_15 : decode cX10_winds 15 = .ok (.invokevirtual 179, 3) := by decide +kernel
theorem dX10_winds_18 : decode cX10_winds 18 = .ok (.ifCond .eq 5, 3) := by decide +kernel
theorem dX10_winds_21 : decode cX10_winds 21 = .ok (.iconst (-1), 1) := by decide +kernel
theorem dX10_winds_22 : decode cX10_winds 22 = .ok (.ireturn, 1) := by decide +kernel
theorem dX10_winds_23 : decode cX10_winds 23 = .ok (.iconst 0, 1) := by decide +kernel
theorem dX10_winds_24 : decode cX10_winds 24 = .ok (.istore_n 3, 1) := by decide +kernel
theorem dX10_winds_25 : decode cX10_winds 25 = .ok (.iconst 0, 1) := by decide +kernel
theorem dX10_winds_26 : decode cX10_winds 26 = .ok (.istore 4, 2) := by decide +kernel
theorem dX10_winds_28 : decode cX10_winds 28 = .ok (.iload 4, 2) := by decide +kernel
theorem dX10_winds_30 : decode cX10_winds 30 = .ok (.iconst 3, 1) := by decide +kernel
theorem dX10_winds_31 : decode cX10_winds 31 = .ok (.if_icmp .ge 66, 3) := by decide +kernel
theorem dX10_winds_34 : decode cX10_winds 34 = .ok (.aload_n 0, 1) := by decide +kernel
theorem dX10_winds_35 : decode cX10_winds 35 = .ok (.getfield 13, 3) := by decide +kernel
theorem dX10_winds_38 : decode cX10_winds 38 = .ok (.iconst 3, 1) := by decide +kernel
theorem dX10_winds_39 : decode cX10_winds 39 = .ok (.iload_n 2, 1) := by decide +kernel
theorem dX10_winds_40 : decode cX10_winds 40 = .ok (.imul, 1) := by decide +kernel
theorem dX10_winds_41 : decode cX10_winds 41 = .ok (.iaload, 1) := by decide +kernel
theorem dX10_winds_42 : decode cX10_winds 42 = .ok (.aload_n 0, 1) := by decide +kernel
theorem dX10_winds_43 : decode cX10_winds 43 = .ok (.getfield 16, 3) := by decide +kernel
theorem dX10_winds_46 : decode cX10_winds 46 = .ok (.iconst 3, 1) := by decide +kernel
theorem dX10_winds_47 : decode cX10_winds 47 = .ok (.iload_n 1, 1) := by decide +kernel
theorem dX10_winds_48 : decode cX10_winds 48 = .ok (.imul, 1) := by decide +kernel
theorem dX10_winds_49 : decode cX10_winds 49 = .ok (.iconst 2, 1) := by decide +kernel
theorem dX10_winds_50 : decode cX10_winds 50 = .ok (.iadd, 1) := by decide +kernel
theorem dX10_winds_51 : decode cX10_winds 51 = .ok (.iaload, 1) := by decide +kernel
theorem dX10_winds_52 : decode cX10_winds 52 = .ok (.iconst 1, 1) := by decide +kernel
theorem dX10_winds_53 : decode cX10_winds 53 = .ok (.if_icmp .ne 7, 3) := by decide +kernel
theorem dX10_winds_56 : decode cX10_winds 56 = .ok (.iconst 0, 1) := by decide +kernel
theorem dX10_winds_57 : decode cX10_winds 57 = .ok (.goto 7, 3) := by decide +kernel
theorem dX10_winds_60 : decode cX10_winds 60 = .ok (.iload 4, 2) := by decide +kernel
theorem dX10_winds_62 : decode cX10_winds 62 = .ok (.iconst 1, 1) := by decide +kernel
theorem dX10_winds_63 : decode cX10_winds 63 = .ok (.isub, 1) := by decide +kernel
theorem dX10_winds_64 : decode cX10_winds 64 = .ok (.isub, 1) := by decide +kernel
theorem dX10_winds_65 : decode cX10_winds 65 = .ok (.istore 5, 2) := by decide +kernel
theorem dX10_winds_67 : decode cX10_winds 67 = .ok (.iload_n 3, 1) := by decide +kernel
theorem dX10_winds_68 : decode cX10_winds 68 = .ok (.iload 5, 2) := by decide +kernel
theorem dX10_winds_70 : decode cX10_winds 70 = .ok (.i2l, 1) := by decide +kernel
theorem dX10_winds_71 : decode cX10_winds 71 = .ok (.lconst 0, 1) := by decide +kernel
theorem dX10_winds_72 : decode cX10_winds 72 = .ok (.ldc2_w 93, 3) := by decide +kernel
theorem dX10_winds_75 : decode cX10_winds 75 = .ok (.invokestatic 78, 3) := by decide +kernel
theorem dX10_winds_78 : decode cX10_winds 78 = .ok (.ifCond .eq 10, 3) := by decide +kernel
theorem dX10_winds_81 : decode cX10_winds 81 = .ok (.iconst 1, 1) := by decide +kernel
theorem dX10_winds_82 : decode cX10_winds 82 = .ok (.iload 4, 2) := by decide +kernel
theorem dX10_winds_84 : decode cX10_winds 84 = .ok (.ishl, 1) := by decide +kernel
theorem dX10_winds_85 : decode cX10_winds 85 = .ok (.goto 4, 3) := by decide +kernel
theorem dX10_winds_88 : decode cX10_winds 88 = .ok (.iconst 0, 1) := by decide +kernel
theorem dX10_winds_89 : decode cX10_winds 89 = .ok (.ior, 1) := by decide +kernel
theorem dX10_winds_90 : decode cX10_winds 90 = .ok (.istore_n 3, 1) := by decide +kernel
theorem dX10_winds_91 : decode cX10_winds 91 = .ok (.iinc 4 1, 3) := by decide +kernel
theorem dX10_winds_94 : decode cX10_winds 94 = .ok (.goto (-66), 3) := by decide +kernel
theorem dX10_winds_97 : decode cX10_winds 97 = .ok (.aload_n 0, 1) := by decide +kernel
theorem dX10_winds_98 : decode cX10_winds 98 = .ok (.getfield 31, 3) := by decide +kernel
theorem dX10_winds_101 : decode cX10_winds 101 = .ok (.bipush 12, 2) := by decide +kernel
theorem dX10_winds_103 : decode cX10_winds 103 = .ok (.iaload, 1) := by decide +kernel
theorem dX10_winds_104 : decode cX10_winds 104 = .ok (.iload_n 2, 1) := by decide +kernel
theorem dX10_winds_105 : decode cX10_winds 105 = .ok (.invokestatic 144, 3) := by decide +kernel
theorem dX10_winds_108 : decode cX10_winds 108 = .ok (.ifCond .eq 7, 3) := by decide +kernel
theorem dX10_winds_111 : decode cX10_winds 111 = .ok (.iconst 0, 1) := by decide +kernel
theorem dX10_winds_112 : decode cX10_winds 112 = .ok (.goto 4, 3) := by decide +kernel
theorem dX10_winds_115 : decode cX10_winds 115 = .ok (.iload_n 3, 1) := by decide +kernel
theorem dX10_winds_116 : decode cX10_winds 116 = .ok (.ireturn, 1) := by decide +kernel
theorem dX10_findMatch_0 : decode cX10_findMatch 0 = .ok (.aload_n 0, 1) := by decide +kernel
theorem dX10_findMatch_1 : decode cX10_findMatch 1 = .ok (.bipush (-9), 2) := by decide +kernel
theorem dX10_findMatch_3 : decode cX10_findMatch 3 = .ok (.putfield 222, 3) := by decide +kernel
theorem dX10_findMatch_6 : decode cX10_findMatch 6 = .ok (.aload_n 0, 1) := by decide +kernel
theorem dX10_findMatch_7 : decode cX10_findMatch 7 = .ok (.bipush (-9), 2) := by decide +kernel
theorem dX10_findMatch_9 : decode cX10_findMatch 9 = .ok (.putfield 225, 3) := by decide +kernel
theorem dX10_findMatch_12 : decode cX10_findMatch 12 = .ok (.aload_n 0, 1) := by decide +kernel
theorem dX10_findMatch_13 : decode cX10_findMatch 13 = .ok (.getfield 75, 3) := by decide +kernel
theorem dX10_findMatch_16 : decode cX10_findMatch 16 = .ok (.iconst 1, 1) := by decide +kernel
theorem dX10_findMatch_17 : decode cX10_findMatch 17 = .ok (.iadd, 1) := by decide +kernel
theorem dX10_findMatch_18 : decode cX10_findMatch 18 = .ok (.istore_n 2, 1) := by decide +kernel
theorem dX10_findMatch_19 : decode cX10_findMatch 19 = .ok (.iconst 0, 1) := by decide +kernel
theorem dX10_findMatch_20 : decode cX10_findMatch 20 = .ok (.istore_n 3, 1) := by decide +kernel
theorem dX10_findMatch_21 : decode cX10_findMatch 21 = .ok (.iload_n 3, 1) := by decide +kernel
theorem dX10_findMatch_22 : decode cX10_findMatch 22 = .ok (.iload_n 2, 1) := by decide +kernel
theorem dX10_findMatch_23 : decode cX10_findMatch 23 = .ok (.aload_n 0, 1) := by decide +kernel
theorem dX10_findMatch_24 : decode cX10_findMatch 24 = .ok (.getfield 82, 3) := by decide +kernel
theorem dX10_findMatch_27 : decode cX10_findMatch 27 = .ok (.invokestatic 212, 3) := by decide +kernel
theorem dX10_findMatch_30 : decode cX10_findMatch 30 = .ok (.if_icmp .ge 156, 3) := by decide +kernel
theorem dX10_findMatch_33 : decode cX10_findMatch 33 = .ok (.aload_n 0, 1) := by decide +kernel
theorem dX10_findMatch_34 : decode cX10_findMatch 34 = .ok (.getfield 31, 3) := by decide +kernel
theorem dX10_findMatch_37 : decode cX10_findMatch 37 = .ok (.aload_n 0, 1) := by decide +kernel
theorem dX10_findMatch_38 : decode cX10_findMatch 38 = .ok (.getfield 34, 3) := by decide +kernel
theorem dX10_findMatch_41 : decode cX10_findMatch 41 = .ok (.bipush 15, 2) := by decide +kernel
theorem dX10_findMatch_43 : decode cX10_findMatch 43 = .ok (.invokestatic 137, 3) := by decide +kernel
theorem dX10_findMatch_46 : decode cX10_findMatch 46 = .ok (.iconst 1, 1) := by decide +kernel
theorem dX10_findMatch_47 : decode cX10_findMatch 47 = .ok (.istore 4, 2) := by decide +kernel
theorem dX10_findMatch_49 : decode cX10_findMatch 49 = .ok (.iconst 1, 1) := by decide +kernel
theorem dX10_findMatch_50 : decode cX10_findMatch 50 = .ok (.istore 5, 2) := by decide +kernel
theorem dX10_findMatch_52 : decode cX10_findMatch 52 = .ok (.iconst 0, 1) := by decide +kernel
theorem dX10_findMatch_53 : decode cX10_findMatch 53 = .ok (.istore 6, 2) := by decide +kernel
theorem dX10_findMatch_55 : decode cX10_findMatch 55 = .ok (.iload 6, 2) := by decide +kernel
theorem dX10_findMatch_57 : decode cX10_findMatch 57 = .ok (.aload_n 0, 1) := by decide +kernel
theorem dX10_findMatch_58 : decode cX10_findMatch 58 = .ok (.getfield 82, 3) := by decide +kernel
theorem dX10_findMatch_61 : decode cX10_findMatch 61 = .ok (.if_icmp .ge 77, 3) := by decide +kernel
theorem dX10_findMatch_64 : decode cX10_findMatch 64 = .ok (.iload 5, 2) := by decide +kernel
theorem dX10_findMatch_66 : decode cX10_findMatch 66 = .ok (.ifCond .eq 72, 3) := by decide +kernel
theorem dX10_findMatch_69 : decode cX10_findMatch 69 = .ok (.iload_n 3, 1) := by decide +kernel
theorem dX10_findMatch_70 : decode cX10_findMatch 70 = .ok (.iload_n 2, 1) := by decide +kernel
theorem dX10_findMatch_71 : decode cX10_findMatch 71 = .ok (.aload_n 0, 1) := by decide +kernel
theorem dX10_findMatch_72 : decode cX10_findMatch 72 = .ok (.getfield 82, 3) := by decide +kernel
theorem dX10_findMatch_75 : decode cX10_findMatch 75 = .ok (.iconst 1, 1) := by decide +kernel
theorem dX10_findMatch_76 : decode cX10_findMatch 76 = .ok (.isub, 1) := by decide +kernel
theorem dX10_findMatch_77 : decode cX10_findMatch 77 = .ok (.iload 6, 2) := by decide +kernel
theorem dX10_findMatch_79 : decode cX10_findMatch 79 = .ok (.isub, 1) := by decide +kernel
theorem dX10_findMatch_80 : decode cX10_findMatch 80 = .ok (.invokestatic 212, 3) := by decide +kernel
theorem dX10_findMatch_83 : decode cX10_findMatch 83 = .ok (.idiv, 1) := by decide +kernel
theorem dX10_findMatch_84 : decode cX10_findMatch 84 = .ok (.iload_n 2, 1) := by decide +kernel
theorem dX10_findMatch_85 : decode cX10_findMatch 85 = .ok (.irem, 1) := by decide +kernel
theorem dX10_findMatch_86 : decode cX10_findMatch 86 = .ok (.istore 7, 2) := by decide +kernel
theorem dX10_findMatch_88 : decode cX10_findMatch 88 = .ok (.bipush 10, 2) := by decide +kernel
theorem dX10_findMatch_90 : decode cX10_findMatch 90 = .ok (.iload 4, 2) := by decide +kernel
theorem dX10_findMatch_92 : decode cX10_findMatch 92 = .ok (.imul, 1) := by decide +kernel
theorem dX10_findMatch_93 : decode cX10_findMatch 93 = .ok (.iload 7, 2) := by decide +kernel
theorem dX10_findMatch_95 : decode cX10_findMatch 95 = .ok (.iadd, 1) := by decide +kernel
theorem dX10_findMatch_96 : decode cX10_findMatch 96 = .ok (.istore 4, 2) := by decide +kernel
theorem dX10_findMatch_98 : decode cX10_findMatch 98 = .ok (.iload 7, 2) := by decide +kernel
theorem dX10_findMatch_100 : decode cX10_findMatch 100 = .ok (.ifCond .eq 25, 3) := by decide +kernel
theorem dX10_findMatch_103 : decode cX10_findMatch 103 = .ok (.iload_n 1, 1) := by decide +kernel
theorem dX10_findMatch_104 : decode cX10_findMatch 104 = .ok (.iload 6, 2) := by decide +kernel
theorem dX10_findMatch_106 : decode cX10_findMatch 106 = .ok (.invokestatic 144, 3) := by decide +kernel
theorem dX10_findMatch_109 : decode cX10_findMatch 109 = .ok (.ifCond .eq 20, 3) := by decide +kernel
theorem dX10_findMatch_112 : decode cX10_findMatch 112 = .ok (.aload_n 0, 1) := by decide +kernel
theorem dX10_findMatch_113 : decode cX10_findMatch 113 = .ok (.iload 6, 2) := by decide +kernel
theorem dX10_findMatch_115 : decode cX10_findMatch 115 = .ok (.iload 7, 2) := by decide +kernel
theorem dX10_findMatch_117 : decode cX10_findMatch 117 = .ok (.iconst 1, 1) := by decide +kernel
theorem dX10_findMatch_118 : decode cX10_findMatch 118 = .ok (.isub, 1) := by decide +kernel
theorem dX10_findMatch_119 : decode cX10_findMatch 119 = .ok (.invokevirtual 215, 3) := by decide +kernel
theorem dX10_findMatch_122 : decode cX10_findMatch 122 = .ok (.ifCond .eq 7, 3) := by decide +kernel
theorem dX10_findMatch_125 : decode cX10_findMatch 125 = .ok (.iconst 1, 1) := by decide +kernel
theorem dX10_findMatch_126 : decode cX10_findMatch 126 = .ok (.goto 4, 3) := by decide +kernel
theorem dX10_findMatch_129 : decode cX10_findMatch 129 = .ok (.iconst 0, 1) := by decide +kernel
theorem dX10_findMatch_130 : decode cX10_findMatch 130 = .ok (.istore 5, 2) := by decide +kernel
theorem dX10_findMatch_132 : decode cX10_findMatch 132 = .ok (.iinc 6 1, 3) := by decide +kernel
theorem dX10_findMatch_135 : decode cX10_findMatch 135 = .ok (.goto (-80), 3) := by decide +kernel
theorem dX10_findMatch_138 : decode cX10_findMatch 138 = .ok (.iload 5, 2) := by decide +kernel
theorem dX10_findMatch_140 : decode cX10_findMatch 140 = .ok (.ifCond .eq 40, 3) := by decide +kernel
theorem dX10_findMatch_143 : decode cX10_findMatch 143 = .ok (.aload_n 0, 1) := by decide +kernel
theorem dX10_findMatch_144 : decode cX10_findMatch 144 = .ok (.getfield 34, 3) := by decide +kernel
theorem dX10_findMatch_147 : decode cX10_findMatch 147 = .ok (.bipush 12, 2) := by decide +kernel
theorem dX10_findMatch_149 : decode cX10_findMatch 149 = .ok (.iaload, 1) := by decide +kernel
theorem dX10_findMatch_150 : decode cX10_findMatch 150 = .ok (.invokestatic 228, 3) := by decide +kernel
theorem dX10_findMatch_153 : decode cX10_findMatch 153 = .ok (.aload_n 0, 1) := by decide +kernel
theorem dX10_findMatch_154 : decode cX10_findMatch 154 = .ok (.getfield 222, 3) := by decide +kernel
theorem dX10_findMatch_157 : decode cX10_findMatch 157 = .ok (.if_icmp .le 23, 3) := by decide +kernel
theorem dX10_findMatch_160 : decode cX10_findMatch 160 = .ok (.aload_n 0, 1) := by decide +kernel
theorem dX10_findMatch_161 : decode cX10_findMatch 161 = .ok (.aload_n 0, 1) := by decide +kernel
theorem dX10_findMatch_162 : decode cX10_findMatch 162 = .ok (.getfield 34, 3) := by decide +kernel
theorem dX10_findMatch_165 : decode cX10_findMatch 165 = .ok (.bipush 12, 2) := by decide +kernel
theorem dX10_findMatch_167 : decode cX10_findMatch 167 = .ok (.iaload, 1) := by decide +kernel
theorem dX10_findMatch_168 : decode cX10_findMatch 168 = .ok (.invokestatic 228, 3) := by decide +kernel
theorem dX10_findMatch_171 : decode cX10_findMatch 171 = .ok (.putfield 222, 3) := by decide +kernel
theorem dX10_findMatch_174 : decode cX10_findMatch 174 = .ok (.aload_n 0, 1) := by decide +kernel
theorem dX10_findMatch_175 : decode cX10_findMatch 175 = .ok (.iload 4, 2) := by decide +kernel
theorem dX10_findMatch_177 : decode cX10_findMatch 177 = .ok (.putfield 225, 3) := by decide +kernel
theorem dX10_findMatch_180 : decode cX10_findMatch 180 = .ok (.iinc 3 1, 3) := by decide +kernel
theorem dX10_findMatch_183 : decode cX10_findMatch 183 = .ok (.goto (-162), 3) := by decide +kernel
theorem dX10_findMatch_186 : decode cX10_findMatch 186 = .ok (.return_, 1) := by decide +kernel
theorem dX10_match_0 : decode cX10_match 0 = .ok (.aload_n 0, 1) := by decide +kernel
theorem dX10_match_1 : decode cX10_match 1 = .ok (.iconst 0, 1) := by decide +kernel
theorem dX10_match_2 : decode cX10_match 2 = .ok (.putfield 71, 3) := by decide +kernel
theorem dX10_match_5 : decode cX10_match 5 = .ok (.aload_n 0, 1) := by decide +kernel
theorem dX10_match_6 : decode cX10_match 6 = .ok (.bipush 15, 2) := by decide +kernel
theorem dX10_match_8 : decode cX10_match 8 = .ok (.invokevirtual 231, 3) := by decide +kernel
theorem dX10_match_11 : decode cX10_match 11 = .ok (.iload_n 1, 1) := by decide +kernel
theorem dX10_match_12 : decode cX10_match 12 = .ok (.ifCond .eq 10, 3) := by decide +kernel
theorem dX10_match_15 : decode cX10_match 15 = .ok (.aload_n 0, 1) := by decide +kernel
theorem dX10_match_16 : decode cX10_match 16 = .ok (.getfield 225, 3) := by decide +kernel
theorem dX10_match_19 : decode cX10_match 19 = .ok (.goto 7, 3) := by decide +kernel
theorem dX10_match_22 : decode cX10_match 22 = .ok (.aload_n 0, 1) := by decide +kernel
theorem dX10_match_23 : decode cX10_match 23 = .ok (.getfield 222, 3) := by decide +kernel
theorem dX10_match_26 : decode cX10_match 26 = .ok (.ireturn, 1) := by decide +kernel
theorem dX10_holdsUp_0 : decode cX10_holdsUp 0 = .ok (.iconst 1, 1) := by decide +kernel
theorem dX10_holdsUp_1 : decode cX10_holdsUp 1 = .ok (.istore_n 2, 1) := by decide +kernel
theorem dX10_holdsUp_2 : decode cX10_holdsUp 2 = .ok (.iconst 0, 1) := by decide +kernel
theorem dX10_holdsUp_3 : decode cX10_holdsUp 3 = .ok (.istore_n 3, 1) := by decide +kernel
theorem dX10_holdsUp_4 : decode cX10_holdsUp 4 = .ok (.iload_n 3, 1) := by decide +kernel
theorem dX10_holdsUp_5 : decode cX10_holdsUp 5 = .ok (.aload_n 0, 1) := by decide +kernel
theorem dX10_holdsUp_6 : decode cX10_holdsUp 6 = .ok (.getfield 82, 3) := by decide +kernel
theorem dX10_holdsUp_9 : decode cX10_holdsUp 9 = .ok (.if_icmp .ge 72, 3) := by decide +kernel
theorem dX10_holdsUp_12 : decode cX10_holdsUp 12 = .ok (.iconst 0, 1) := by decide +kernel
theorem dX10_holdsUp_13 : decode cX10_holdsUp 13 = .ok (.istore 4, 2) := by decide +kernel
theorem dX10_holdsUp_15 : decode cX10_holdsUp 15 = .ok (.iload 4, 2) := by decide +kernel
theorem dX10_holdsUp_17 : decode cX10_holdsUp 17 = .ok (.aload_n 0, 1) := by decide +kernel
theorem dX10_holdsUp_18 : decode cX10_holdsUp 18 = .ok (.getfield 75, 3) := by decide +kernel
theorem dX10_holdsUp_21 : decode cX10_holdsUp 21 = .ok (.if_icmp .ge 54, 3) := by decide +kernel
theorem dX10_holdsUp_24 : decode cX10_holdsUp 24 = .ok (.aload_n 0, 1) := by decide +kernel
theorem dX10_holdsUp_25 : decode cX10_holdsUp 25 = .ok (.getfield 37, 3) := by decide +kernel
theorem dX10_holdsUp_28 : decode cX10_holdsUp 28 = .ok (.aload_n 0, 1) := by decide +kernel
theorem dX10_holdsUp_29 : decode cX10_holdsUp 29 = .ok (.getfield 34, 3) := by decide +kernel
theorem dX10_holdsUp_32 : decode cX10_holdsUp 32 = .ok (.bipush 15, 2) := by decide +kernel
theorem dX10_holdsUp_34 : decode cX10_holdsUp 34 = .ok (.invokestatic 137, 3) := by decide +kernel
theorem dX10_holdsUp_37 : decode cX10_holdsUp 37 = .ok (.aload_n 0, 1) := by decide +kernel
theorem dX10_holdsUp_38 : decode cX10_holdsUp 38 = .ok (.iload_n 3, 1) := by decide +kernel
theorem dX10_holdsUp_39 : decode cX10_holdsUp 39 = .ok (.iload 4, 2) := by decide +kernel
theorem dX10_holdsUp_41 : decode cX10_holdsUp 41 = .ok (.invokevirtual 215, 3) := by decide +kernel
theorem dX10_holdsUp_44 : decode cX10_holdsUp 44 = .ok (.pop, 1) := by decide +kernel
theorem dX10_holdsUp_45 : decode cX10_holdsUp 45 = .ok (.iload_n 2, 1) := by decide +kernel
theorem dX10_holdsUp_46 : decode cX10_holdsUp 46 = .ok (.ifCond .eq 21, 3) := by decide +kernel
theorem dX10_holdsUp_49 : decode cX10_holdsUp 49 = .ok (.aload_n 0, 1) := by decide +kernel
theorem dX10_holdsUp_50 : decode cX10_holdsUp 50 = .ok (.getfield 34, 3) := by decide +kernel
theorem dX10_holdsUp_53 : decode cX10_holdsUp 53 = .ok (.bipush 12, 2) := by decide +kernel
theorem dX10_holdsUp_55 : decode cX10_holdsUp 55 = .ok (.iaload, 1) := by decide +kernel
theorem dX10_holdsUp_56 : decode cX10_holdsUp 56 = .ok (.iload_n 1, 1) := by decide +kernel
theorem dX10_holdsUp_57 : decode cX10_holdsUp 57 = .ok (.invokestatic 144, 3) := by decide +kernel
theorem dX10_holdsUp_60 : decode cX10_holdsUp 60 = .ok (.ifCond .ne 7, 3) := by decide +kernel
theorem dX10_holdsUp_63 : decode cX10_holdsUp 63 = .ok (.iconst 1, 1) := by decide +kernel
theorem dX10_holdsUp_64 : decode cX10_holdsUp 64 = .ok (.goto 4, 3) := by decide +kernel
theorem dX10_holdsUp_67 : decode cX10_holdsUp 67 = .ok (.iconst 0, 1) := by decide +kernel
theorem dX10_holdsUp_68 : decode cX10_holdsUp 68 = .ok (.istore_n 2, 1) := by decide +kernel
theorem dX10_holdsUp_69 : decode cX10_holdsUp 69 = .ok (.iinc 4 1, 3) := by decide +kernel
theorem dX10_holdsUp_72 : decode cX10_holdsUp 72 = .ok (.goto (-57), 3) := by decide +kernel
theorem dX10_holdsUp_75 : decode cX10_holdsUp 75 = .ok (.iinc 3 1, 3) := by decide +kernel
theorem dX10_holdsUp_78 : decode cX10_holdsUp 78 = .ok (.goto (-74), 3) := by decide +kernel
theorem dX10_holdsUp_81 : decode cX10_holdsUp 81 = .ok (.iload_n 2, 1) := by decide +kernel
theorem dX10_holdsUp_82 : decode cX10_holdsUp 82 = .ok (.ireturn, 1) := by decide +kernel
theorem dX10_nails_0 : decode cX10_nails 0 = .ok (.aload_n 0, 1) := by decide +kernel
theorem dX10_nails_1 : decode cX10_nails 1 = .ok (.iconst 0, 1) := by decide +kernel
theorem dX10_nails_2 : decode cX10_nails 2 = .ok (.putfield 71, 3) := by decide +kernel
theorem dX10_nails_5 : decode cX10_nails 5 = .ok (.aload_n 0, 1) := by decide +kernel
theorem dX10_nails_6 : decode cX10_nails 6 = .ok (.iload_n 1, 1) := by decide +kernel
theorem dX10_nails_7 : decode cX10_nails 7 = .ok (.invokevirtual 179, 3) := by decide +kernel
theorem dX10_nails_10 : decode cX10_nails 10 = .ok (.ifCond .eq 5, 3) := by decide +kernel
theorem dX10_nails_13 : decode cX10_nails 13 = .ok (.iconst (-1), 1) := by decide +kernel
theorem dX10_nails_14 : decode cX10_nails 14 = .ok (.ireturn, 1) := by decide +kernel
theorem dX10_nails_15 : decode cX10_nails 15 = .ok (.iconst 1, 1) := by decide +kernel
theorem dX10_nails_16 : decode cX10_nails 16 = .ok (.aload_n 0, 1) := by decide +kernel
theorem dX10_nails_17 : decode cX10_nails 17 = .ok (.getfield 75, 3) := by decide +kernel
theorem dX10_nails_20 : decode cX10_nails 20 = .ok (.ishl, 1) := by decide +kernel
theorem dX10_nails_21 : decode cX10_nails 21 = .ok (.iconst 1, 1) := by decide +kernel
theorem dX10_nails_22 : decode cX10_nails 22 = .ok (.isub, 1) := by decide +kernel
theorem dX10_nails_23 : decode cX10_nails 23 = .ok (.aload_n 0, 1) := by decide +kernel
theorem dX10_nails_24 : decode cX10_nails 24 = .ok (.getfield 31, 3) := by decide +kernel
theorem dX10_nails_27 : decode cX10_nails 27 = .ok (.bipush 12, 2) := by decide +kernel
theorem dX10_nails_29 : decode cX10_nails 29 = .ok (.iaload, 1) := by decide +kernel
theorem dX10_nails_30 : decode cX10_nails 30 = .ok (.iconst (-1), 1) := by decide +kernel
theorem dX10_nails_31 : decode cX10_nails 31 = .ok (.ixor, 1) := by decide +kernel
theorem dX10_nails_32 : decode cX10_nails 32 = .ok (.iand, 1) := by decide +kernel
theorem dX10_nails_33 : decode cX10_nails 33 = .ok (.aload_n 0, 1) := by decide +kernel
theorem dX10_nails_34 : decode cX10_nails 34 = .ok (.getfield 31, 3) := by decide +kernel
theorem dX10_nails_37 : decode cX10_nails 37 = .ok (.bipush 11, 2) := by decide +kernel
theorem dX10_nails_39 : decode cX10_nails 39 = .ok (.iaload, 1) := by decide +kernel
theorem dX10_nails_40 : decode cX10_nails 40 = .ok (.iconst (-1), 1) := by decide +kernel
theorem dX10_nails_41 : decode cX10_nails 41 = .ok (.ixor, 1) := by decide +kernel
theorem dX10_nails_42 : decode cX10_nails 42 = .ok (.iand, 1) := by decide +kernel
theorem dX10_nails_43 : decode cX10_nails 43 = .ok (.istore_n 2, 1) := by decide +kernel
theorem dX10_nails_44 : decode cX10_nails 44 = .ok (.bipush (-9), 2) := by decide +kernel
theorem dX10_nails_46 : decode cX10_nails 46 = .ok (.istore_n 3, 1) := by decide +kernel
theorem dX10_nails_47 : decode cX10_nails 47 = .ok (.iconst 0, 1) := by decide +kernel
theorem dX10_nails_48 : decode cX10_nails 48 = .ok (.istore 4, 2) := by decide +kernel
theorem dX10_nails_50 : decode cX10_nails 50 = .ok (.iload 4, 2) := by decide +kernel
theorem dX10_nails_52 : decode cX10_nails 52 = .ok (.iconst 1, 1) := by decide +kernel
theorem dX10_nails_53 : decode cX10_nails 53 = .ok (.aload_n 0, 1) := by decide +kernel
theorem dX10_nails_54 : decode cX10_nails 54 = .ok (.getfield 75, 3) := by decide +kernel
theorem dX10_nails_57 : decode cX10_nails 57 = .ok (.ishl, 1) := by decide +kernel
theorem dX10_nails_58 : decode cX10_nails 58 = .ok (.if_icmp .ge 90, 3) := by decide +kernel
theorem dX10_nails_61 : decode cX10_nails 61 = .ok (.aload_n 0, 1) := by decide +kernel
theorem dX10_nails_62 : decode cX10_nails 62 = .ok (.getfield 31, 3) := by decide +kernel
theorem dX10_nails_65 : decode cX10_nails 65 = .ok (.bipush 12, 2) := by decide +kernel
theorem dX10_nails_67 : decode cX10_nails 67 = .ok (.iaload, 1) := by decide +kernel
theorem dX10_nails_68 : decode cX10_nails 68 = .ok (.iload_n 1, 1) := by decide +kernel
theorem dX10_nails_69 : decode cX10_nails 69 = .ok (.invokestatic 144, 3) := by decide +kernel
theorem dX10_nails_72 : decode cX10_nails 72 = .ok (.ifCond .ne 76, 3) := by decide +kernel
theorem dX10_nails_75 : decode cX10_nails 75 = .ok (.iload 4, 2) := by decide +kernel
theorem dX10_nails_77 : decode cX10_nails 77 = .ok (.iload_n 2, 1) := by decide +kernel
theorem dX10_nails_78 : decode cX10_nails 78 = .ok (.iconst (-1), 1) := by decide +kernel
theorem dX10_nails_79 : decode cX10_nails 79 = .ok (.ixor, 1) := by decide +kernel
theorem dX10_nails_80 : decode cX10_nails 80 = .ok (.iand, 1) := by decide +kernel
theorem dX10_nails_81 : decode cX10_nails 81 = .ok (.ifCond .ne 61, 3) := by decide +kernel
theorem dX10_nails_84 : decode cX10_nails 84 = .ok (.iload_n 3, 1) := by decide +kernel
theorem dX10_nails_85 : decode cX10_nails 85 = .ok (.bipush (-9), 2) := by decide +kernel
theorem dX10_nails_87 : decode cX10_nails 87 = .ok (.if_icmp .eq 15, 3) := by decide +kernel
theorem dX10_nails_90 : decode cX10_nails 90 = .ok (.iload 4, 2) := by decide +kernel
theorem dX10_nails_92 : decode cX10_nails 92 = .ok (.invokestatic 228, 3) := by decide +kernel
theorem dX10_nails_95 : decode cX10_nails 95 = .ok (.iload_n 3, 1) := by decide +kernel
theorem dX10_nails_96 : decode cX10_nails 96 = .ok (.invokestatic 228, 3) := by decide +kernel
theorem dX10_nails_99 : decode cX10_nails 99 = .ok (.if_icmp .ge 43, 3) := by decide +kernel
theorem dX10_nails_102 : decode cX10_nails 102 = .ok (.aload_n 0, 1) := by decide +kernel
theorem dX10_nails_103 : decode cX10_nails 103 = .ok (.getfield 31, 3) := by decide +kernel
theorem dX10_nails_106 : decode cX10_nails 106 = .ok (.aload_n 0, 1) := by decide +kernel
theorem dX10_nails_107 : decode cX10_nails 107 = .ok (.getfield 37, 3) := by decide +kernel
theorem dX10_nails_110 : decode cX10_nails 110 = .ok (.bipush 15, 2) := by decide +kernel
theorem dX10_nails_112 : decode cX10_nails 112 = .ok (.invokestatic 137, 3) := by decide +kernel
theorem dX10_nails_115 : decode cX10_nails 115 = .ok (.aload_n 0, 1) := by decide +kernel
theorem dX10_nails_116 : decode cX10_nails 116 = .ok (.getfield 37, 3) := by decide +kernel
theorem dX10_nails_119 : decode cX10_nails 119 = .ok (.bipush 11, 2) := by decide +kernel
theorem dX10_nails_121 : decode cX10_nails 121 = .ok (.dup2, 1) := by decide +kernel
theorem dX10_nails_122 : decode cX10_nails 122 = .ok (.iaload, 1) := by decide +kernel
theorem dX10_nails_123 : decode cX10_nails 123 = .ok (.iload 4, 2) := by decide +kernel
theorem dX10_nails_125 : decode cX10_nails 125 = .ok (.ior, 1) := by decide +kernel
theorem dX10_nails_126 : decode cX10_nails 126 = .ok (.iastore, 1) := by decide +kernel
theorem dX10_nails_127 : decode cX10_nails 127 = .ok (.aload_n 0, 1) := by decide +kernel
theorem dX10_nails_128 : decode cX10_nails 128 = .ok (.iload_n 1, 1) := by decide +kernel
theorem dX10_nails_129 : decode cX10_nails 129 = .ok (.invokevirtual 234, 3) := by decide +kernel
theorem dX10_nails_132 : decode cX10_nails 132 = .ok (.ifCond .eq 8, 3) := by decide +kernel
theorem dX10_nails_135 : decode cX10_nails 135 = .ok (.iload 4, 2) := by decide +kernel
theorem dX10_nails_137 : decode cX10_nails 137 = .ok (.goto 4, 3) := by decide +kernel
theorem dX10_nails_140 : decode cX10_nails 140 = .ok (.iload_n 3, 1) := by decide +kernel
theorem dX10_nails_141 : decode cX10_nails 141 = .ok (.istore_n 3, 1) := by decide +kernel
theorem dX10_nails_142 : decode cX10_nails 142 = .ok (.iinc 4 1, 3) := by decide +kernel
theorem dX10_nails_145 : decode cX10_nails 145 = .ok (.goto (-95), 3) := by decide +kernel
theorem dX10_nails_148 : decode cX10_nails 148 = .ok (.iload_n 3, 1) := by decide +kernel
theorem dX10_nails_149 : decode cX10_nails 149 = .ok (.ireturn, 1) := by decide +kernel
theorem dX10_does_0 : decode cX10_does 0 = .ok (.iload_n 1, 1) := by decide +kernel
theorem dX10_does_1 : decode cX10_does 1 = .ok (.bipush 10, 2) := by decide +kernel
theorem dX10_does_3 : decode cX10_does 3 = .ok (.idiv, 1) := by decide +kernel
theorem dX10_does_4 : decode cX10_does 4 = .ok (.istore_n 2, 1) := by decide +kernel
theorem dX10_does_5 : decode cX10_does 5 = .ok (.iload_n 1, 1) := by decide +kernel
theorem dX10_does_6 : decode cX10_does 6 = .ok (.bipush 10, 2) := by decide +kernel
theorem dX10_does_8 : decode cX10_does 8 = .ok (.irem, 1) := by decide +kernel
theorem dX10_does_9 : decode cX10_does 9 = .ok (.istore_n 3, 1) := by decide +kernel
theorem dX10_does_10 : decode cX10_does 10 = .ok (.iload_n 1, 1) := by decide +kernel
theorem dX10_does_11 : decode cX10_does 11 = .ok (.bipush 60, 2) := by decide +kernel
theorem dX10_does_13 : decode cX10_does 13 = .ok (.if_icmp .ne 42, 3) := by decide +kernel
theorem dX10_does_16 : decode cX10_does 16 = .ok (.aload_n 0, 1) := by decide +kernel
theorem dX10_does_17 : decode cX10_does 17 = .ok (.getfield 34, 3) := by decide +kernel
theorem dX10_does_20 : decode cX10_does 20 = .ok (.bipush 14, 2) := by decide +kernel
theorem dX10_does_22 : decode cX10_does 22 = .ok (.iaload, 1) := by decide +kernel
theorem dX10_does_23 : decode cX10_does 23 = .ok (.bipush 9, 2) := by decide +kernel
theorem dX10_does_25 : decode cX10_does 25 = .ok (.if_icmp .ge 7, 3) := by decide +kernel
theorem dX10_does_28 : decode cX10_does 28 = .ok (.iconst 1, 1) := by decide +kernel
theorem dX10_does_29 : decode cX10_does 29 = .ok (.goto 4, 3) := by decide +kernel
theorem dX10_does_32 : decode cX10_does 32 = .ok (.iconst 0, 1) := by decide +kernel
theorem dX10_does_33 : decode cX10_does 33 = .ok (.istore 4, 2) := by decide +kernel
theorem dX10_does_35 : decode cX10_does 35 = .ok (.aload_n 0, 1) := by decide +kernel
theorem dX10_does_36 : decode cX10_does 36 = .ok (.getfield 34, 3) := by decide +kernel
theorem dX10_does_39 : decode cX10_does 39 = .ok (.bipush 14, 2) := by decide +kernel
theorem dX10_does_41 : decode cX10_does 41 = .ok (.aload_n 0, 1) := by decide +kernel
theorem dX10_does_42 : decode cX10_does 42 = .ok (.getfield 34, 3) := by decide +kernel
theorem dX10_does_45 : decode cX10_does 45 = .ok (.bipush 14, 2) := by decide +kernel
theorem dX10_does_47 : decode cX10_does 47 = .ok (.iaload, 1) := by decide +kernel
theorem dX10_does_48 : decode cX10_does 48 = .ok (.invokestatic 199, 3) := by decide +kernel
theorem dX10_does_51 : decode cX10_does 51 = .ok (.iastore, 1) := by decide +kernel
theorem dX10_does_52 : decode cX10_does 52 = .ok (.iload 4, 2) := by decide +kernel
theorem dX10_does_54 : decode cX10_does 54 = .ok (.ireturn, 1) := by decide +kernel
theorem dX10_does_55 : decode cX10_does 55 = .ok (.aload_n 0, 1) := by decide +kernel
theorem dX10_does_56 : decode cX10_does 56 = .ok (.iload_n 3, 1) := by decide +kernel
theorem dX10_does_57 : decode cX10_does 57 = .ok (.invokevirtual 179, 3) := by decide +kernel
theorem dX10_does_60 : decode cX10_does 60 = .ok (.ifCond .ne 8, 3) := by decide +kernel
theorem dX10_does_63 : decode cX10_does 63 = .ok (.iload_n 2, 1) := by decide +kernel
theorem dX10_does_64 : decode cX10_does 64 = .ok (.iconst 5, 1) := by decide +kernel
theorem dX10_does_65 : decode cX10_does 65 = .ok (.if_icmp .le 5, 3) := by decide +kernel
theorem dX10_does_68 : decode cX10_does 68 = .ok (.iconst 0, 1) := by decide +kernel
theorem dX10_does_69 : decode cX10_does 69 = .ok (.ireturn, 1) := by decide +kernel
theorem dX10_does_70 : decode cX10_does 70 = .ok (.aload_n 0, 1) := by decide +kernel
theorem dX10_does_71 : decode cX10_does 71 = .ok (.getfield 34, 3) := by decide +kernel
theorem dX10_does_74 : decode cX10_does 74 = .ok (.bipush 12, 2) := by decide +kernel
theorem dX10_does_76 : decode cX10_does 76 = .ok (.iaload, 1) := by decide +kernel
theorem dX10_does_77 : decode cX10_does 77 = .ok (.iload_n 3, 1) := by decide +kernel
theorem dX10_does_78 : decode cX10_does 78 = .ok (.invokestatic 144, 3) := by decide +kernel
theorem dX10_does_81 : decode cX10_does 81 = .ok (.istore 4, 2) := by decide +kernel
theorem dX10_does_83 : decode cX10_does 83 = .ok (.iload_n 2, 1) := by decide +kernel
theorem dX10_does_84 : decode cX10_does 84 = .ok (.ifCond .ne 18, 3) := by decide +kernel
theorem dX10_does_87 : decode cX10_does 87 = .ok (.iload 4, 2) := by decide +kernel
theorem dX10_does_89 : decode cX10_does 89 = .ok (.ifCond .eq 13, 3) := by decide +kernel
theorem dX10_does_92 : decode cX10_does 92 = .ok (.aload_n 0, 1) := by decide +kernel
theorem dX10_does_93 : decode cX10_does 93 = .ok (.getfield 34, 3) := by decide +kernel
theorem dX10_does_96 : decode cX10_does 96 = .ok (.iload_n 3, 1) := by decide +kernel
theorem dX10_does_97 : decode cX10_does 97 = .ok (.invokestatic 155, 3) := by decide +kernel
theorem dX10_does_100 : decode cX10_does 100 = .ok (.iconst 1, 1) := by decide +kernel
theorem dX10_does_101 : decode cX10_does 101 = .ok (.ireturn, 1) := by decide +kernel
theorem dX10_does_102 : decode cX10_does 102 = .ok (.iload_n 2, 1) := by decide +kernel
theorem dX10_does_103 : decode cX10_does 103 = .ok (.iconst 5, 1) := by decide +kernel
theorem dX10_does_104 : decode cX10_does 104 = .ok (.if_icmp .ne 23, 3) := by decide +kernel
theorem dX10_does_107 : decode cX10_does 107 = .ok (.iload 4, 2) := by decide +kernel
theorem dX10_does_109 : decode cX10_does 109 = .ok (.ifCond .ne 18, 3) := by decide +kernel
theorem dX10_does_112 : decode cX10_does 112 = .ok (.aload_n 0, 1) := by decide +kernel
theorem dX10_does_113 : decode cX10_does 113 = .ok (.getfield 34, 3) := by decide +kernel
theorem dX10_does_116 : decode cX10_does 116 = .ok (.bipush 11, 2) := by decide +kernel
theorem dX10_does_118 : decode cX10_does 118 = .ok (.dup2, 1) := by decide +kernel
theorem dX10_does_119 : decode cX10_does 119 = .ok (.iaload, 1) := by decide +kernel
theorem dX10_does_120 : decode cX10_does 120 = .ok (.iconst 1, 1) := by decide +kernel
theorem dX10_does_121 : decode cX10_does 121 = .ok (.iload_n 3, 1) := by decide +kernel
theorem dX10_does_122 : decode cX10_does 122 = .ok (.ishl, 1) := by decide +kernel
theorem dX10_does_123 : decode cX10_does 123 = .ok (.ixor, 1) := by decide +kernel
theorem dX10_does_124 : decode cX10_does 124 = .ok (.iastore, 1) := by decide +kernel
theorem dX10_does_125 : decode cX10_does 125 = .ok (.iconst 1, 1) := by decide +kernel
theorem dX10_does_126 : decode cX10_does 126 = .ok (.ireturn, 1) := by decide +kernel
theorem dX10_does_127 : decode cX10_does 127 = .ok (.iload_n 2, 1) := by decide +kernel
theorem dX10_does_128 : decode cX10_does 128 = .ok (.i2l, 1) := by decide +kernel
theorem dX10_does_129 : decode cX10_does 129 = .ok (.lconst 1, 1) := by decide +kernel
theorem dX10_does_130 : decode cX10_does 130 = .ok (.ldc2_w 237, 3) := by decide +kernel
theorem dX10_does_133 : decode cX10_does 133 = .ok (.invokestatic 78, 3) := by decide +kernel
theorem dX10_does_136 : decode cX10_does 136 = .ok (.ifCond .eq 34, 3) := by decide +kernel
theorem dX10_does_139 : decode cX10_does 139 = .ok (.aload_n 0, 1) := by decide +kernel
theorem dX10_does_140 : decode cX10_does 140 = .ok (.iload_n 2, 1) := by decide +kernel
theorem dX10_does_141 : decode cX10_does 141 = .ok (.iconst 1, 1) := by decide +kernel
theorem dX10_does_142 : decode cX10_does 142 = .ok (.isub, 1) := by decide +kernel
theorem dX10_does_143 : decode cX10_does 143 = .ok (.invokevirtual 183, 3) := by decide +kernel
theorem dX10_does_146 : decode cX10_does 146 = .ok (.ifCond .ne 24, 3) := by decide +kernel
theorem dX10_does_149 : decode cX10_does 149 = .ok (.aload_n 0, 1) := by decide +kernel
theorem dX10_does_150 : decode cX10_does 150 = .ok (.getfield 34, 3) := by decide +kernel
theorem dX10_does_153 : decode cX10_does 153 = .ok (.bipush 14, 2) := by decide +kernel
theorem dX10_does_155 : decode cX10_does 155 = .ok (.iaload, 1) := by decide +kernel
theorem dX10_does_156 : decode cX10_does 156 = .ok (.ifCond .eq 14, 3) := by decide +kernel
theorem dX10_does_159 : decode cX10_does 159 = .ok (.aload_n 0, 1) := by decide +kernel
theorem dX10_does_160 : decode cX10_does 160 = .ok (.iload_n 2, 1) := by decide +kernel
theorem dX10_does_161 : decode cX10_does 161 = .ok (.iconst 1, 1) := by decide +kernel
theorem dX10_does_162 : decode cX10_does 162 = .ok (.isub, 1) := by decide +kernel
theorem dX10_does_163 : decode cX10_does 163 = .ok (.iload_n 3, 1) := by decide +kernel
theorem dX10_does_164 : decode cX10_does 164 = .ok (.invokevirtual 215, 3) := by decide +kernel
theorem dX10_does_167 : decode cX10_does 167 = .ok (.ifCond .ne 5, 3) := by decide +kernel
theorem dX10_does_170 : decode cX10_does 170 = .ok (.iconst 0, 1) := by decide +kernel
theorem dX10_does_171 : decode cX10_does 171 = .ok (.ireturn, 1) := by decide +kernel
theorem dX10_does_172 : decode cX10_does 172 = .ok (.aload_n 0, 1) := by decide +kernel
theorem dX10_does_173 : decode cX10_does 173 = .ok (.getfield 34, 3) := by decide +kernel
theorem dX10_does_176 : decode cX10_does 176 = .ok (.bipush 14, 2) := by decide +kernel
theorem dX10_does_178 : decode cX10_does 178 = .ok (.dup2, 1) := by decide +kernel
theorem dX10_does_179 : decode cX10_does 179 = .ok (.iaload, 1) := by decide +kernel
theorem dX10_does_180 : decode cX10_does 180 = .ok (.iconst 1, 1) := by decide +kernel
theorem dX10_does_181 : decode cX10_does 181 = .ok (.isub, 1) := by decide +kernel
theorem dX10_does_182 : decode cX10_does 182 = .ok (.iastore, 1) := by decide +kernel
theorem dX10_does_183 : decode cX10_does 183 = .ok (.iconst 1, 1) := by decide +kernel
theorem dX10_does_184 : decode cX10_does 184 = .ok (.ireturn, 1) := by decide +kernel
theorem dX10_judge_0 : decode cX10_judge 0 = .ok (.aload_n 0, 1) := by decide +kernel
theorem dX10_judge_1 : decode cX10_judge 1 = .ok (.iconst 0, 1) := by decide +kernel
theorem dX10_judge_2 : decode cX10_judge 2 = .ok (.putfield 71, 3) := by decide +kernel
theorem dX10_judge_5 : decode cX10_judge 5 = .ok (.iload_n 1, 1) := by decide +kernel
theorem dX10_judge_6 : decode cX10_judge 6 = .ok (.i2l, 1) := by decide +kernel
theorem dX10_judge_7 : decode cX10_judge 7 = .ok (.lconst 1, 1) := by decide +kernel
theorem dX10_judge_8 : decode cX10_judge 8 = .ok (.ldc2_w 237, 3) := by decide +kernel
theorem dX10_judge_11 : decode cX10_judge 11 = .ok (.invokestatic 78, 3) := by decide +kernel
theorem dX10_judge_14 : decode cX10_judge 14 = .ok (.ifCond .eq 21, 3) := by decide +kernel
theorem dX10_judge_17 : decode cX10_judge 17 = .ok (.iload_n 2, 1) := by decide +kernel
theorem dX10_judge_18 : decode cX10_judge 18 = .ok (.i2l, 1) := by decide +kernel
theorem dX10_judge_19 : decode cX10_judge 19 = .ok (.lconst 0, 1) := by decide +kernel
theorem dX10_judge_20 : decode cX10_judge 20 = .ok (.bipush 100, 2) := by decide +kernel
theorem dX10_judge_22 : decode cX10_judge 22 = .ok (.iload_n 1, 1) := by decide +kernel
theorem dX10_judge_23 : decode cX10_judge 23 = .ok (.invokestatic 212, 3) := by decide +kernel
theorem dX10_judge_26 : decode cX10_judge 26 = .ok (.iconst 1, 1) := by decide +kernel
theorem dX10_judge_27 : decode cX10_judge 27 = .ok (.isub, 1) := by decide +kernel
theorem dX10_judge_28 : decode cX10_judge 28 = .ok (.i2l, 1) := by decide +kernel
theorem dX10_judge_29 : decode cX10_judge 29 = .ok (.invokestatic 78, 3) := by decide +kernel
theorem dX10_judge_32 : decode cX10_judge 32 = .ok (.ifCond .ne 6, 3) := by decide +kernel
theorem dX10_judge_35 : decode cX10_judge 35 = .ok (.bipush (-2), 2) := by decide +kernel
theorem dX10_judge_37 : decode cX10_judge 37 = .ok (.ireturn, 1) := by decide +kernel
theorem dX10_judge_38 : decode cX10_judge 38 = .ok (.aload_n 0, 1) := by decide +kernel
theorem dX10_judge_39 : decode cX10_judge 39 = .ok (.getfield 31, 3) := by decide +kernel
theorem dX10_judge_42 : decode cX10_judge 42 = .ok (.aload_n 0, 1) := by decide +kernel
theorem dX10_judge_43 : decode cX10_judge 43 = .ok (.getfield 34, 3) := by decide +kernel
theorem dX10_judge_46 : decode cX10_judge 46 = .ok (.bipush 15, 2) := by decide +kernel
theorem dX10_judge_48 : decode cX10_judge 48 = .ok (.invokestatic 137, 3) := by decide +kernel
theorem dX10_judge_51 : decode cX10_judge 51 = .ok (.iconst 0, 1) := by decide +kernel
theorem dX10_judge_52 : decode cX10_judge 52 = .ok (.istore_n 3, 1) := by decide +kernel
theorem dX10_judge_53 : decode cX10_judge 53 = .ok (.iload_n 3, 1) := by decide +kernel
theorem dX10_judge_54 : decode cX10_judge 54 = .ok (.iload_n 1, 1) := by decide +kernel
theorem dX10_judge_55 : decode cX10_judge 55 = .ok (.if_icmp .ge 33, 3) := by decide +kernel
theorem dX10_judge_58 : decode cX10_judge 58 = .ok (.aload_n 0, 1) := by decide +kernel
theorem dX10_judge_59 : decode cX10_judge 59 = .ok (.iload_n 2, 1) := by decide +kernel
theorem dX10_judge_60 : decode cX10_judge 60 = .ok (.bipush 100, 2) := by decide +kernel
theorem dX10_judge_62 : decode cX10_judge 62 = .ok (.iload_n 1, 1) := by decide +kernel
theorem dX10_judge_63 : decode cX10_judge 63 = .ok (.iconst 1, 1) := by decide +kernel
theorem dX10_judge_64 : decode cX10_judge 64 = .ok (.isub, 1) := by decide +kernel
theorem dX10_judge_65 : decode cX10_judge 65 = .ok (.iload_n 3, 1) := by decide +kernel
theorem dX10_judge_66 : decode cX10_judge 66 = .ok (.isub, 1) := by decide +kernel
theorem dX10_judge_67 : decode cX10_judge 67 = .ok (.invokestatic 212, 3) := by decide +kernel
theorem dX10_judge_70 : decode cX10_judge 70 = .ok (.idiv, 1) := by decide +kernel
theorem dX10_judge_71 : decode cX10_judge 71 = .ok (.bipush 100, 2) := by decide +kernel
theorem dX10_judge_73 : decode cX10_judge 73 = .ok (.irem, 1) := by decide +kernel
theorem dX10_judge_74 : decode cX10_judge 74 = .ok (.invokevirtual 239, 3) := by decide +kernel
theorem dX10_judge_77 : decode cX10_judge 77 = .ok (.ifCond .ne 5, 3) := by decide +kernel
theorem dX10_judge_80 : decode cX10_judge 80 = .ok (.iload_n 3, 1) := by decide +kernel
theorem dX10_judge_81 : decode cX10_judge 81 = .ok (.ireturn, 1) := by decide +kernel
theorem dX10_judge_82 : decode cX10_judge 82 = .ok (.iinc 3 1, 3) := by decide +kernel
theorem dX10_judge_85 : decode cX10_judge 85 = .ok (.goto (-32), 3) := by decide +kernel
theorem dX10_judge_88 : decode cX10_judge 88 = .ok (.bipush (-9), 2) := by decide +kernel
theorem dX10_judge_90 : decode cX10_judge 90 = .ok (.ireturn, 1) := by decide +kernel
theorem dX10_ways_0 : decode cX10_ways 0 = .ok (.iconst 1, 1) := by decide +kernel
theorem dX10_ways_1 : decode cX10_ways 1 = .ok (.istore_n 1, 1) := by decide +kernel
theorem dX10_ways_2 : decode cX10_ways 2 = .ok (.iconst 2, 1) := by decide +kernel
theorem dX10_ways_3 : decode cX10_ways 3 = .ok (.istore_n 2, 1) := by decide +kernel
theorem dX10_ways_4 : decode cX10_ways 4 = .ok (.iload_n 2, 1) := by decide +kernel
theorem dX10_ways_5 : decode cX10_ways 5 = .ok (.iload_n 0, 1) := by decide +kernel
theorem dX10_ways_6 : decode cX10_ways 6 = .ok (.if_icmp .gt 13, 3) := by decide +kernel
theorem dX10_ways_9 : decode cX10_ways 9 = .ok (.iload_n 1, 1) := by decide +kernel
theorem dX10_ways_10 : decode cX10_ways 10 = .ok (.iload_n 2, 1) := by decide +kernel
theorem dX10_ways_11 : decode cX10_ways 11 = .ok (.imul, 1) := by decide +kernel
theorem dX10_ways_12 : decode cX10_ways 12 = .ok (.istore_n 1, 1) := by decide +kernel
theorem dX10_ways_13 : decode cX10_ways 13 = .ok (.iinc 2 1, 3) := by decide +kernel
theorem dX10_ways_16 : decode cX10_ways 16 = .ok (.goto (-12), 3) := by decide +kernel
theorem dX10_ways_19 : decode cX10_ways 19 = .ok (.iload_n 1, 1) := by decide +kernel
theorem dX10_ways_20 : decode cX10_ways 20 = .ok (.ireturn, 1) := by decide +kernel
theorem dX10_divisor_0 : decode cX10_divisor 0 = .ok (.iload_n 0, 1) := by decide +kernel
theorem dX10_divisor_1 : decode cX10_divisor 1 = .ok (.ifCond .ge 8, 3) := by decide +kernel
theorem dX10_divisor_4 : decode cX10_divisor 4 = .ok (.iload_n 0, 1) := by decide +kernel
theorem dX10_divisor_5 : decode cX10_divisor 5 = .ok (.ineg, 1) := by decide +kernel
theorem dX10_divisor_6 : decode cX10_divisor 6 = .ok (.goto 4, 3) := by decide +kernel
theorem dX10_divisor_9 : decode cX10_divisor 9 = .ok (.iload_n 0, 1) := by decide +kernel
theorem dX10_divisor_10 : decode cX10_divisor 10 = .ok (.istore_n 2, 1) := by decide +kernel
theorem dX10_divisor_11 : decode cX10_divisor 11 = .ok (.iload_n 1, 1) := by decide +kernel
theorem dX10_divisor_12 : decode cX10_divisor 12 = .ok (.istore_n 3, 1) := by decide +kernel
theorem dX10_divisor_13 : decode cX10_divisor 13 = .ok (.iload_n 3, 1) := by decide +kernel
theorem dX10_divisor_14 : decode cX10_divisor 14 = .ok (.ifCond .eq 16, 3) := by decide +kernel
theorem dX10_divisor_17 : decode cX10_divisor 17 = .ok (.iload_n 2, 1) := by decide +kernel
theorem dX10_divisor_18 : decode cX10_divisor 18 = .ok (.iload_n 3, 1) := by decide +kernel
theorem dX10_divisor_19 : decode cX10_divisor 19 = .ok (.irem, 1) := by decide +kernel
theorem dX10_divisor_20 : decode cX10_divisor 20 = .ok (.istore 4, 2) := by decide +kernel
theorem dX10_divisor_22 : decode cX10_divisor 22 = .ok (.iload_n 3, 1) := by decide +kernel
theorem dX10_divisor_23 : decode cX10_divisor 23 = .ok (.istore_n 2, 1) := by decide +kernel
theorem dX10_divisor_24 : decode cX10_divisor 24 = .ok (.iload 4, 2) := by decide +kernel
theorem dX10_divisor_26 : decode cX10_divisor 26 = .ok (.istore_n 3, 1) := by decide +kernel
theorem dX10_divisor_27 : decode cX10_divisor 27 = .ok (.goto (-14), 3) := by decide +kernel
theorem dX10_divisor_30 : decode cX10_divisor 30 = .ok (.iload_n 2, 1) := by decide +kernel
theorem dX10_divisor_31 : decode cX10_divisor 31 = .ok (.ireturn, 1) := by decide +kernel
theorem dX10_fraction_0 : decode cX10_fraction 0 = .ok (.iload_n 0, 1) := by decide +kernel
theorem dX10_fraction_1 : decode cX10_fraction 1 = .ok (.iload_n 1, 1) := by decide +kernel
theorem dX10_fraction_2 : decode cX10_fraction 2 = .ok (.invokestatic 242, 3) := by decide +kernel
theorem dX10_fraction_5 : decode cX10_fraction 5 = .ok (.istore_n 3, 1) := by decide +kernel
theorem dX10_fraction_6 : decode cX10_fraction 6 = .ok (.iload_n 2, 1) := by decide +kernel
theorem dX10_fraction_7 : decode cX10_fraction 7 = .ok (.ifCond .eq 9, 3) := by decide +kernel
theorem dX10_fraction_10 : decode cX10_fraction 10 = .ok (.iload_n 0, 1) := by decide +kernel
theorem dX10_fraction_11 : decode cX10_fraction 11 = .ok (.iload_n 3, 1) := by decide +kernel
theorem dX10_fraction_12 : decode cX10_fraction 12 = .ok (.idiv, 1) := by decide +kernel
theorem dX10_fraction_13 : decode cX10_fraction 13 = .ok (.goto 6, 3) := by decide +kernel
theorem dX10_fraction_16 : decode cX10_fraction 16 = .ok (.iload_n 1, 1) := by decide +kernel
theorem dX10_fraction_17 : decode cX10_fraction 17 = .ok (.iload_n 3, 1) := by decide +kernel
theorem dX10_fraction_18 : decode cX10_fraction 18 = .ok (.idiv, 1) := by decide +kernel
theorem dX10_fraction_19 : decode cX10_fraction 19 = .ok (.ireturn, 1) := by decide +kernel
theorem dX10_share_0 : decode cX10_share 0 = .ok (.aload_n 0, 1) := by decide +kernel
theorem dX10_share_1 : decode cX10_share 1 = .ok (.iconst 0, 1) := by decide +kernel
theorem dX10_share_2 : decode cX10_share 2 = .ok (.putfield 71, 3) := by decide +kernel
theorem dX10_share_5 : decode cX10_share 5 = .ok (.aload_n 0, 1) := by decide +kernel
theorem dX10_share_6 : decode cX10_share 6 = .ok (.iload_n 1, 1) := by decide +kernel
theorem dX10_share_7 : decode cX10_share 7 = .ok (.invokevirtual 183, 3) := by decide +kernel
theorem dX10_share_10 : decode cX10_share 10 = .ok (.ifCond .eq 5, 3) := by decide +kernel
theorem dX10_share_13 : decode cX10_share 13 = .ok (.iconst (-1), 1) := by decide +kernel
theorem dX10_share_14 : decode cX10_share 14 = .ok (.ireturn, 1) := by decide +kernel
theorem dX10_share_15 : decode cX10_share 15 = .ok (.iconst 0, 1) := by decide +kernel
theorem dX10_share_16 : decode cX10_share 16 = .ok (.istore_n 3, 1) := by decide +kernel
theorem dX10_share_17 : decode cX10_share 17 = .ok (.iload_n 3, 1) := by decide +kernel
theorem dX10_share_18 : decode cX10_share 18 = .ok (.iconst 1, 1) := by decide +kernel
theorem dX10_share_19 : decode cX10_share 19 = .ok (.aload_n 0, 1) := by decide +kernel
theorem dX10_share_20 : decode cX10_share 20 = .ok (.getfield 82, 3) := by decide +kernel
theorem dX10_share_23 : decode cX10_share 23 = .ok (.ishl, 1) := by decide +kernel
theorem dX10_share_24 : decode cX10_share 24 = .ok (.if_icmp .ge 24, 3) := by decide +kernel
theorem dX10_share_27 : decode cX10_share 27 = .ok (.aload_n 0, 1) := by decide +kernel
theorem dX10_share_28 : decode cX10_share 28 = .ok (.iload_n 3, 1) := by decide +kernel
theorem dX10_share_29 : decode cX10_share 29 = .ok (.invokevirtual 231, 3) := by decide +kernel
theorem dX10_share_32 : decode cX10_share 32 = .ok (.aload_n 0, 1) := by decide +kernel
theorem dX10_share_33 : decode cX10_share 33 = .ok (.getfield 68, 3) := by decide +kernel
theorem dX10_share_36 : decode cX10_share 36 = .ok (.iload_n 3, 1) := by decide +kernel
theorem dX10_share_37 : decode cX10_share 37 = .ok (.aload_n 0, 1) := by decide +kernel
theorem dX10_share_38 : decode cX10_share 38 = .ok (.getfield 222, 3) := by decide +kernel
theorem dX10_share_41 : decode cX10_share 41 = .ok (.iastore, 1) := by decide +kernel
theorem dX10_share_42 : decode cX10_share 42 = .ok (.iinc 3 1, 3) := by decide +kernel
theorem dX10_share_45 : decode cX10_share 45 = .ok (.goto (-28), 3) := by decide +kernel
theorem dX10_share_48 : decode cX10_share 48 = .ok (.iconst 0, 1) := by decide +kernel
theorem dX10_share_49 : decode cX10_share 49 = .ok (.istore_n 3, 1) := by decide +kernel
theorem dX10_share_50 : decode cX10_share 50 = .ok (.iconst 0, 1) := by decide +kernel
theorem dX10_share_51 : decode cX10_share 51 = .ok (.istore 4, 2) := by decide +kernel
theorem dX10_share_53 : decode cX10_share 53 = .ok (.iload 4, 2) := by decide +kernel
theorem dX10_share_55 : decode cX10_share 55 = .ok (.iconst 1, 1) := by decide +kernel
theorem dX10_share_56 : decode cX10_share 56 = .ok (.aload_n 0, 1) := by decide +kernel
theorem dX10_share_57 : decode cX10_share 57 = .ok (.getfield 82, 3) := by decide +kernel
theorem dX10_share_60 : decode cX10_share 60 = .ok (.ishl, 1) := by decide +kernel
theorem dX10_share_61 : decode cX10_share 61 = .ok (.if_icmp .ge 66, 3) := by decide +kernel
theorem dX10_share_64 : decode cX10_share 64 = .ok (.iload 4, 2) := by decide +kernel
theorem dX10_share_66 : decode cX10_share 66 = .ok (.iload_n 1, 1) := by decide +kernel
theorem dX10_share_67 : decode cX10_share 67 = .ok (.invokestatic 144, 3) := by decide +kernel
theorem dX10_share_70 : decode cX10_share 70 = .ok (.ifCond .ne 51, 3) := by decide +kernel
theorem dX10_share_73 : decode cX10_share 73 = .ok (.iload 4, 2) := by decide +kernel
theorem dX10_share_75 : decode cX10_share 75 = .ok (.invokestatic 228, 3) := by decide +kernel
theorem dX10_share_78 : decode cX10_share 78 = .ok (.istore 5, 2) := by decide +kernel
theorem dX10_share_80 : decode cX10_share 80 = .ok (.iload_n 3, 1) := by decide +kernel
theorem dX10_share_81 : decode cX10_share 81 = .ok (.iload 5, 2) := by decide +kernel
theorem dX10_share_83 : decode cX10_share 83 = .ok (.invokestatic 245, 3) := by decide +kernel
theorem dX10_share_86 : decode cX10_share 86 = .ok (.aload_n 0, 1) := by decide +kernel
theorem dX10_share_87 : decode cX10_share 87 = .ok (.getfield 82, 3) := by decide +kernel
theorem dX10_share_90 : decode cX10_share 90 = .ok (.iconst 1, 1) := by decide +kernel
theorem dX10_share_91 : decode cX10_share 91 = .ok (.isub, 1) := by decide +kernel
theorem dX10_share_92 : decode cX10_share 92 = .ok (.iload 5, 2) := by decide +kernel
theorem dX10_share_94 : decode cX10_share 94 = .ok (.isub, 1) := by decide +kernel
theorem dX10_share_95 : decode cX10_share 95 = .ok (.invokestatic 245, 3) := by decide +kernel
theorem dX10_share_98 : decode cX10_share 98 = .ok (.imul, 1) := by decide +kernel
theorem dX10_share_99 : decode cX10_share 99 = .ok (.aload_n 0, 1) := by decide +kernel
theorem dX10_share_100 : decode cX10_share 100 = .ok (.getfield 68, 3) := by decide +kernel
theorem dX10_share_103 : decode cX10_share 103 = .ok (.iload 4, 2) := by decide +kernel
theorem dX10_share_105 : decode cX10_share 105 = .ok (.iconst 1, 1) := by decide +kernel
theorem dX10_share_106 : decode cX10_share 106 = .ok (.iload_n 1, 1) := by decide +kernel
theorem dX10_share_107 : decode cX10_share 107 = .ok (.ishl, 1) := by decide +kernel
theorem dX10_share_108 : decode cX10_share 108 = .ok (.ior, 1) := by decide +kernel
theorem dX10_share_109 : decode cX10_share 109 = .ok (.iaload, 1) := by decide +kernel
theorem dX10_share_110 : decode cX10_share 110 = .ok (.aload_n 0, 1) := by decide +kernel
theorem dX10_share_111 : decode cX10_share 111 = .ok (.getfield 68, 3) := by decide +kernel
theorem dX10_share_114 : decode cX10_share 114 = .ok (.iload 4, 2) := by decide +kernel
theorem dX10_share_116 : decode cX10_share 116 = .ok (.iaload, 1) := by decide +kernel
theorem dX10_share_117 : decode cX10_share 117 = .ok (.isub, 1) := by decide +kernel
theorem dX10_share_118 : decode cX10_share 118 = .ok (.imul, 1) := by decide +kernel
theorem dX10_share_119 : decode cX10_share 119 = .ok (.iadd, 1) := by decide +kernel
theorem dX10_share_120 : decode cX10_share 120 = .ok (.istore_n 3, 1) := by decide +kernel
theorem dX10_share_121 : decode cX10_share 121 = .ok (.iinc 4 1, 3) := by decide +kernel
theorem dX10_share_124 : decode cX10_share 124 = .ok (.goto (-71), 3) := by decide +kernel
theorem dX10_share_127 : decode cX10_share 127 = .ok (.iload_n 3, 1) := by decide +kernel
theorem dX10_share_128 : decode cX10_share 128 = .ok (.aload_n 0, 1) := by decide +kernel
theorem dX10_share_129 : decode cX10_share 129 = .ok (.getfield 82, 3) := by decide +kernel
theorem dX10_share_132 : decode cX10_share 132 = .ok (.invokestatic 245, 3) := by decide +kernel
theorem dX10_share_135 : decode cX10_share 135 = .ok (.iload_n 2, 1) := by decide +kernel
theorem dX10_share_136 : decode cX10_share 136 = .ok (.invokestatic 248, 3) := by decide +kernel
theorem dX10_share_139 : decode cX10_share 139 = .ok (.ireturn, 1) := by decide +kernel
theorem dX10_see_0 : decode cX10_see 0 = .ok (.aload_n 0, 1) := by decide +kernel
theorem dX10_see_1 : decode cX10_see 1 = .ok (.iconst 0, 1) := by decide +kernel
theorem dX10_see_2 : decode cX10_see 2 = .ok (.putfield 71, 3) := by decide +kernel
theorem dX10_see_5 : decode cX10_see 5 = .ok (.aload_n 0, 1) := by decide +kernel
theorem dX10_see_6 : decode cX10_see 6 = .ok (.iload_n 1, 1) := by decide +kernel
theorem dX10_see_7 : decode cX10_see 7 = .ok (.invokevirtual 179, 3) := by decide +kernel
theorem dX10_see_10 : decode cX10_see 10 = .ok (.ifCond .eq 5, 3) := by decide +kernel
theorem dX10_see_13 : decode cX10_see 13 = .ok (.iconst (-1), 1) := by decide +kernel
theorem dX10_see_14 : decode cX10_see 14 = .ok (.ireturn, 1) := by decide +kernel
theorem dX10_see_15 : decode cX10_see 15 = .ok (.iload_n 2, 1) := by decide +kernel
theorem dX10_see_16 : decode cX10_see 16 = .ok (.i2l, 1) := by decide +kernel
theorem dX10_see_17 : decode cX10_see 17 = .ok (.lconst 1, 1) := by decide +kernel
theorem dX10_see_18 : decode cX10_see 18 = .ok (.ldc2_w 252, 3) := by decide +kernel
theorem dX10_see_21 : decode cX10_see 21 = .ok (.invokestatic 78, 3) := by decide +kernel
theorem dX10_see_24 : decode cX10_see 24 = .ok (.ifCond .eq 13, 3) := by decide +kernel
theorem dX10_see_27 : decode cX10_see 27 = .ok (.iload_n 3, 1) := by decide +kernel
theorem dX10_see_28 : decode cX10_see 28 = .ok (.i2l, 1) := by decide +kernel
theorem dX10_see_29 : decode cX10_see 29 = .ok (.lconst 0, 1) := by decide +kernel
theorem dX10_see_30 : decode cX10_see 30 = .ok (.lconst 1, 1) := by decide +kernel
theorem dX10_see_31 : decode cX10_see 31 = .ok (.invokestatic 78, 3) := by decide +kernel
theorem dX10_see_34 : decode cX10_see 34 = .ok (.ifCond .ne 6, 3) := by decide +kernel
theorem dX10_see_37 : decode cX10_see 37 = .ok (.bipush (-2), 2) := by decide +kernel
theorem dX10_see_39 : decode cX10_see 39 = .ok (.ireturn, 1) := by decide +kernel
theorem dX10_see_40 : decode cX10_see 40 = .ok (.aload_n 0, 1) := by decide +kernel
theorem dX10_see_41 : decode cX10_see 41 = .ok (.getfield 176, 3) := by decide +kernel
theorem dX10_see_44 : decode cX10_see 44 = .ok (.bipush 6, 2) := by decide +kernel
theorem dX10_see_46 : decode cX10_see 46 = .ok (.if_icmp .ne 6, 3) := by decide +kernel
theorem dX10_see_49 : decode cX10_see 49 = .ok (.bipush (-4), 2) := by decide +kernel
theorem dX10_see_51 : decode cX10_see 51 = .ok (.ireturn, 1) := by decide +kernel
theorem dX10_see_52 : decode cX10_see 52 = .ok (.aload_n 0, 1) := by decide +kernel
theorem dX10_see_53 : decode cX10_see 53 = .ok (.getfield 50, 3) := by decide +kernel
theorem dX10_see_56 : decode cX10_see 56 = .ok (.aload_n 0, 1) := by decide +kernel
theorem dX10_see_57 : decode cX10_see 57 = .ok (.getfield 176, 3) := by decide +kernel
theorem dX10_see_60 : decode cX10_see 60 = .ok (.iload_n 1, 1) := by decide +kernel
theorem dX10_see_61 : decode cX10_see 61 = .ok (.iastore, 1) := by decide +kernel
theorem dX10_see_62 : decode cX10_see 62 = .ok (.aload_n 0, 1) := by decide +kernel
theorem dX10_see_63 : decode cX10_see 63 = .ok (.getfield 53, 3) := by decide +kernel
theorem dX10_see_66 : decode cX10_see 66 = .ok (.aload_n 0, 1) := by decide +kernel
theorem dX10_see_67 : decode cX10_see 67 = .ok (.getfield 176, 3) := by decide +kernel
theorem dX10_see_70 : decode cX10_see 70 = .ok (.iload_n 2, 1) := by decide +kernel
theorem dX10_see_71 : decode cX10_see 71 = .ok (.iastore, 1) := by decide +kernel
theorem dX10_see_72 : decode cX10_see 72 = .ok (.aload_n 0, 1) := by decide +kernel
theorem dX10_see_73 : decode cX10_see 73 = .ok (.getfield 56, 3) := by decide +kernel
theorem dX10_see_76 : decode cX10_see 76 = .ok (.aload_n 0, 1) := by decide +kernel
theorem dX10_see_77 : decode cX10_see 77 = .ok (.getfield 176, 3) := by decide +kernel
theorem dX10_see_80 : decode cX10_see 80 = .ok (.iload_n 3, 1) := by decide +kernel
theorem dX10_see_81 : decode cX10_see 81 = .ok (.iastore, 1) := by decide +kernel
theorem dX10_see_82 : decode cX10_see 82 = .ok (.aload_n 0, 1) := by decide +kernel
theorem dX10_see_83 : decode cX10_see 83 = .ok (.dup, 1) := by decide +kernel
theorem dX10_see_84 : decode cX10_see 84 = .ok (.getfield 176, 3) := by decide +kernel
theorem dX10_see_87 : decode cX10_see 87 = .ok (.iconst 1, 1) := by decide +kernel
theorem dX10_see_88 : decode cX10_see 88 = .ok (.iadd, 1) := by decide +kernel
theorem dX10_see_89 : decode cX10_see 89 = .ok (.putfield 176, 3) := by decide +kernel
theorem dX10_see_92 : decode cX10_see 92 = .ok (.aload_n 0, 1) := by decide +kernel
theorem dX10_see_93 : decode cX10_see 93 = .ok (.getfield 176, 3) := by decide +kernel
theorem dX10_see_96 : decode cX10_see 96 = .ok (.ireturn, 1) := by decide +kernel
theorem dX10_unsee_0 : decode cX10_unsee 0 = .ok (.aload_n 0, 1) := by decide +kernel
theorem dX10_unsee_1 : decode cX10_unsee 1 = .ok (.iconst 0, 1) := by decide +kernel
theorem dX10_unsee_2 : decode cX10_unsee 2 = .ok (.putfield 71, 3) := by decide +kernel
theorem dX10_unsee_5 : decode cX10_unsee 5 = .ok (.aload_n 0, 1) := by decide +kernel
theorem dX10_unsee_6 : decode cX10_unsee 6 = .ok (.getfield 176, 3) := by decide +kernel
theorem dX10_unsee_9 : decode cX10_unsee 9 = .ok (.istore_n 1, 1) := by decide +kernel
theorem dX10_unsee_10 : decode cX10_unsee 10 = .ok (.aload_n 0, 1) := by decide +kernel
theorem dX10_unsee_11 : decode cX10_unsee 11 = .ok (.iconst 0, 1) := by decide +kernel
theorem dX10_unsee_12 : decode cX10_unsee 12 = .ok (.putfield 176, 3) := by decide +kernel
theorem dX10_unsee_15 : decode cX10_unsee 15 = .ok (.iload_n 1, 1) := by decide +kernel
theorem dX10_unsee_16 : decode cX10_unsee 16 = .ok (.ireturn, 1) := by decide +kernel
theorem dX10_holds_0 : decode cX10_holds 0 = .ok (.aload_n 0, 1) := by decide +kernel
theorem dX10_holds_1 : decode cX10_holds 1 = .ok (.iconst 0, 1) := by decide +kernel
theorem dX10_holds_2 : decode cX10_holds 2 = .ok (.putfield 71, 3) := by decide +kernel
theorem dX10_holds_5 : decode cX10_holds 5 = .ok (.aload_n 0, 1) := by decide +kernel
theorem dX10_holds_6 : decode cX10_holds 6 = .ok (.iload_n 1, 1) := by decide +kernel
theorem dX10_holds_7 : decode cX10_holds 7 = .ok (.invokevirtual 179, 3) := by decide +kernel
theorem dX10_holds_10 : decode cX10_holds 10 = .ok (.ifCond .eq 5, 3) := by decide +kernel
theorem dX10_holds_13 : decode cX10_holds 13 = .ok (.iconst (-1), 1) := by decide +kernel
theorem dX10_holds_14 : decode cX10_holds 14 = .ok (.ireturn, 1) := by decide +kernel
theorem dX10_holds_15 : decode cX10_holds 15 = .ok (.iconst 0, 1) := by decide +kernel
theorem dX10_holds_16 : decode cX10_holds 16 = .ok (.istore_n 2, 1) := by decide +kernel
theorem dX10_holds_17 : decode cX10_holds 17 = .ok (.iconst 1, 1) := by decide +kernel
theorem dX10_holds_18 : decode cX10_holds 18 = .ok (.istore_n 3, 1) := by decide +kernel
theorem dX10_holds_19 : decode cX10_holds 19 = .ok (.iload_n 3, 1) := by decide +kernel
theorem dX10_holds_20 : decode cX10_holds 20 = .ok (.bipush 10, 2) := by decide +kernel
theorem dX10_holds_22 : decode cX10_holds 22 = .ok (.if_icmp .ge 127, 3) := by decide +kernel
theorem dX10_holds_25 : decode cX10_holds 25 = .ok (.iload_n 3, 1) := by decide +kernel
theorem dX10_holds_26 : decode cX10_holds 26 = .ok (.aload_n 0, 1) := by decide +kernel
theorem dX10_holds_27 : decode cX10_holds 27 = .ok (.getfield 31, 3) := by decide +kernel
theorem dX10_holds_30 : decode cX10_holds 30 = .ok (.bipush 11, 2) := by decide +kernel
theorem dX10_holds_32 : decode cX10_holds 32 = .ok (.iaload, 1) := by decide +kernel
theorem dX10_holds_33 : decode cX10_holds 33 = .ok (.iload_n 1, 1) := by decide +kernel
theorem dX10_holds_34 : decode cX10_holds 34 = .ok (.invokestatic 144, 3) := by decide +kernel
theorem dX10_holds_37 : decode cX10_holds 37 = .ok (.ifCond .eq 7, 3) := by decide +kernel
theorem dX10_holds_40 : decode cX10_holds 40 = .ok (.iconst 4, 1) := by decide +kernel
theorem dX10_holds_41 : decode cX10_holds 41 = .ok (.goto 4, 3) := by decide +kernel
theorem dX10_holds_44 : decode cX10_holds 44 = .ok (.iconst 0, 1) := by decide +kernel
theorem dX10_holds_45 : decode cX10_holds 45 = .ok (.iadd, 1) := by decide +kernel
theorem dX10_holds_46 : decode cX10_holds 46 = .ok (.istore 4, 2) := by decide +kernel
theorem dX10_holds_48 : decode cX10_holds 48 = .ok (.iconst 1, 1) := by decide +kernel
theorem dX10_holds_49 : decode cX10_holds 49 = .ok (.istore 5, 2) := by decide +kernel
theorem dX10_holds_51 : decode cX10_holds 51 = .ok (.iconst 0, 1) := by decide +kernel
theorem dX10_holds_52 : decode cX10_holds 52 = .ok (.istore 6, 2) := by decide +kernel
theorem dX10_holds_54 : decode cX10_holds 54 = .ok (.iload 6, 2) := by decide +kernel
theorem dX10_holds_56 : decode cX10_holds 56 = .ok (.aload_n 0, 1) := by decide +kernel
theorem dX10_holds_57 : decode cX10_holds 57 = .ok (.getfield 176, 3) := by decide +kernel
theorem dX10_holds_60 : decode cX10_holds 60 = .ok (.if_icmp .ge 68, 3) := by decide +kernel
theorem dX10_holds_63 : decode cX10_holds 63 = .ok (.iload 5, 2) := by decide +kernel
theorem dX10_holds_65 : decode cX10_holds 65 = .ok (.ifCond .eq 54, 3) := by decide +kernel
theorem dX10_holds_68 : decode cX10_holds 68 = .ok (.aload_n 0, 1) := by decide +kernel
theorem dX10_holds_69 : decode cX10_holds 69 = .ok (.getfield 50, 3) := by decide +kernel
theorem dX10_holds_72 : decode cX10_holds 72 = .ok (.iload 6, 2) := by decide +kernel
theorem dX10_holds_74 : decode cX10_holds 74 = .ok (.iaload, 1) := by decide +kernel
theorem dX10_holds_75 : decode cX10_holds 75 = .ok (.iload_n 1, 1) := by decide +kernel
theorem dX10_holds_76 : decode cX10_holds 76 = .ok (.if_icmp .ne 39, 3) := by decide +kernel
theorem dX10_holds_79 : decode cX10_holds 79 = .ok (.aload_n 0, 1) := by decide +kernel
theorem dX10_holds_80 : decode cX10_holds 80 = .ok (.getfield 53, 3) := by decide +kernel
theorem dX10_holds_83 : decode cX10_holds 83 = .ok (.iload 6, 2) := by decide +kernel
theorem dX10_holds_85 : decode cX10_holds 85 = .ok (.iaload, 1) := by decide +kernel
theorem dX10_holds_86 : decode cX10_holds 86 = .ok (.iload 4, 2) := by decide +kernel
theorem dX10_holds_88 : decode cX10_holds 88 = .ok (.if_icmp .lt 7, 3) := by decide +kernel
theorem dX10_holds_91 : decode cX10_holds 91 = .ok (.iconst 1, 1) := by decide +kernel
theorem dX10_holds_92 : decode cX10_holds 92 = .ok (.goto 4, 3) := by decide +kernel
theorem dX10_holds_95 : decode cX10_holds 95 = .ok (.iconst 0, 1) := by decide +kernel
theorem dX10_holds_96 : decode cX10_holds 96 = .ok (.aload_n 0, 1) := by decide +kernel
theorem dX10_holds_97 : decode cX10_holds 97 = .ok (.getfield 56, 3) := by decide +kernel
theorem dX10_holds_100 : decode cX10_holds 100 = .ok (.iload 6, 2) := by decide +kernel
theorem dX10_holds_102 : decode cX10_holds 102 = .ok (.iaload, 1) := by decide +kernel
theorem dX10_holds_103 : decode cX10_holds 103 = .ok (.iconst 1, 1) := by decide +kernel
theorem dX10_holds_104 : decode cX10_holds 104 = .ok (.if_icmp .ne 7, 3) := by decide +kernel
theorem dX10_holds_107 : decode cX10_holds 107 = .ok (.iconst 1, 1) := by decide +kernel
theorem dX10_holds_108 : decode cX10_holds 108 = .ok (.goto 4, 3) := by decide +kernel
theorem dX10_holds_111 : decode cX10_holds 111 = .ok (.iconst 0, 1) := by decide +kernel
theorem dX10_holds_112 : decode cX10_holds 112 = .ok (.if_icmp .ne 7, 3) := by decide +kernel
theorem dX10_holds_115 : decode cX10_holds 115 = .ok (.iconst 1, 1) := by decide +kernel
theorem dX10_holds_116 : decode cX10_holds 116 = .ok (.goto 4, 3) := by decide +kernel
theorem dX10_holds_119 : decode cX10_holds 119 = .ok (.iconst 0, 1) := by decide +kernel
theorem dX10_holds_120 : decode cX10_holds 120 = .ok (.istore 5, 2) := by decide +kernel
theorem dX10_holds_122 : decode cX10_holds 122 = .ok (.iinc 6 1, 3) := by decide +kernel
theorem dX10_holds_125 : decode cX10_holds 125 = .ok (.goto (-71), 3) := by decide +kernel
theorem dX10_holds_128 : decode cX10_holds 128 = .ok (.iload_n 2, 1) := by decide +kernel
theorem dX10_holds_129 : decode cX10_holds 129 = .ok (.iload 5, 2) := by decide +kernel
theorem dX10_holds_131 : decode cX10_holds 131 = .ok (.ifCond .eq 9, 3) := by decide +kernel
theorem dX10_holds_134 : decode cX10_holds 134 = .ok (.iconst 1, 1) := by decide +kernel
theorem dX10_holds_135 : decode cX10_holds 135 = .ok (.iload_n 3, 1) := by decide +kernel
theorem dX10_holds_136 : decode cX10_holds 136 = .ok (.ishl, 1) := by decide +kernel
theorem dX10_holds_137 : decode cX10_holds 137 = .ok (.goto 4, 3) := by decide +kernel
theorem dX10_holds_140 : decode cX10_holds 140 = .ok (.iconst 0, 1) := by decide +kernel
theorem dX10_holds_141 : decode cX10_holds 141 = .ok (.ior, 1) := by decide +kernel
theorem dX10_holds_142 : decode cX10_holds 142 = .ok (.istore_n 2, 1) := by decide +kernel
theorem dX10_holds_143 : decode cX10_holds 143 = .ok (.iinc 3 1, 3) := by decide +kernel
theorem dX10_holds_146 : decode cX10_holds 146 = .ok (.goto (-127), 3) := by decide +kernel
theorem dX10_holds_149 : decode cX10_holds 149 = .ok (.iload_n 2, 1) := by decide +kernel
theorem dX10_holds_150 : decode cX10_holds 150 = .ok (.ireturn, 1) := by decide +kernel
theorem dX10_layWorth_0 : decode cX10_layWorth 0 = .ok (.aload_n 0, 1) := by decide +kernel
theorem dX10_layWorth_1 : decode cX10_layWorth 1 = .ok (.getfield 31, 3) := by decide +kernel
theorem dX10_layWorth_4 : decode cX10_layWorth 4 = .ok (.aload_n 0, 1) := by decide +kernel
theorem dX10_layWorth_5 : decode cX10_layWorth 5 = .ok (.getfield 34, 3) := by decide +kernel
theorem dX10_layWorth_8 : decode cX10_layWorth 8 = .ok (.bipush 15, 2) := by decide +kernel
theorem dX10_layWorth_10 : decode cX10_layWorth 10 = .ok (.invokestatic 137, 3) := by decide +kernel
theorem dX10_layWorth_13 : decode cX10_layWorth 13 = .ok (.iload_n 1, 1) := by decide +kernel
theorem dX10_layWorth_14 : decode cX10_layWorth 14 = .ok (.ifCond .le 18, 3) := by decide +kernel
theorem dX10_layWorth_17 : decode cX10_layWorth 17 = .ok (.aload_n 0, 1) := by decide +kernel
theorem dX10_layWorth_18 : decode cX10_layWorth 18 = .ok (.iconst 0, 1) := by decide +kernel
theorem dX10_layWorth_19 : decode cX10_layWorth 19 = .ok (.iload_n 1, 1) := by decide +kernel
theorem dX10_layWorth_20 : decode cX10_layWorth 20 = .ok (.iconst 1, 1) := by decide +kernel
theorem dX10_layWorth_21 : decode cX10_layWorth 21 = .ok (.isub, 1) := by decide +kernel
theorem dX10_layWorth_22 : decode cX10_layWorth 22 = .ok (.invokevirtual 215, 3) := by decide +kernel
theorem dX10_layWorth_25 : decode cX10_layWorth 25 = .ok (.ifCond .eq 7, 3) := by decide +kernel
theorem dX10_layWorth_28 : decode cX10_layWorth 28 = .ok (.iconst (-1), 1) := by decide +kernel
theorem dX10_layWorth_29 : decode cX10_layWorth 29 = .ok (.goto 4, 3) := by decide +kernel
theorem dX10_layWorth_32 : decode cX10_layWorth 32 = .ok (.iconst 0, 1) := by decide +kernel
theorem dX10_layWorth_33 : decode cX10_layWorth 33 = .ok (.istore_n 3, 1) := by decide +kernel
theorem dX10_layWorth_34 : decode cX10_layWorth 34 = .ok (.iload_n 2, 1) := by decide +kernel
theorem dX10_layWorth_35 : decode cX10_layWorth 35 = .ok (.ifCond .le 18, 3) := by decide +kernel
theorem dX10_layWorth_38 : decode cX10_layWorth 38 = .ok (.aload_n 0, 1) := by decide +kernel
theorem dX10_layWorth_39 : decode cX10_layWorth 39 = .ok (.iconst 1, 1) := by decide +kernel
theorem dX10_layWorth_40 : decode cX10_layWorth 40 = .ok (.iload_n 2, 1) := by decide +kernel
theorem dX10_layWorth_41 : decode cX10_layWorth 41 = .ok (.iconst 1, 1) := by decide +kernel
theorem dX10_layWorth_42 : decode cX10_layWorth 42 = .ok (.isub, 1) := by decide +kernel
theorem dX10_layWorth_43 : decode cX10_layWorth 43 = .ok (.invokevirtual 215, 3) := by decide +kernel
theorem dX10_layWorth_46 : decode cX10_layWorth 46 = .ok (.ifCond .eq 7, 3) := by decide +kernel
theorem dX10_layWorth_49 : decode cX10_layWorth 49 = .ok (.iconst (-1), 1) := by decide +kernel
theorem dX10_layWorth_50 : decode cX10_layWorth 50 = .ok (.goto 4, 3) := by decide +kernel
theorem dX10_layWorth_53 : decode cX10_layWorth 53 = .ok (.iconst 0, 1) := by decide +kernel
theorem dX10_layWorth_54 : decode cX10_layWorth 54 = .ok (.istore 4, 2) := by decide +kernel
theorem dX10_layWorth_56 : decode cX10_layWorth 56 = .ok (.iconst 0, 1) := by decide +kernel
theorem dX10_layWorth_57 : decode cX10_layWorth 57 = .ok (.istore 5, 2) := by decide +kernel
theorem dX10_layWorth_59 : decode cX10_layWorth 59 = .ok (.iload 5, 2) := by decide +kernel
theorem dX10_layWorth_61 : decode cX10_layWorth 61 = .ok (.aload_n 0, 1) := by decide +kernel
theorem dX10_layWorth_62 : decode cX10_layWorth 62 = .ok (.getfield 75, 3) := by decide +kernel
theorem dX10_layWorth_65 : decode cX10_layWorth 65 = .ok (.if_icmp .ge 63, 3) := by decide +kernel
theorem dX10_layWorth_68 : decode cX10_layWorth 68 = .ok (.iload_n 3, 1) := by decide +kernel
theorem dX10_layWorth_69 : decode cX10_layWorth 69 = .ok (.aload_n 0, 1) := by decide +kernel
theorem dX10_layWorth_70 : decode cX10_layWorth 70 = .ok (.getfield 34, 3) := by decide +kernel
theorem dX10_layWorth_73 : decode cX10_layWorth 73 = .ok (.bipush 12, 2) := by decide +kernel
theorem dX10_layWorth_75 : decode cX10_layWorth 75 = .ok (.iaload, 1) := by decide +kernel
theorem dX10_layWorth_76 : decode cX10_layWorth 76 = .ok (.iload 5, 2) := by decide +kernel
theorem dX10_layWorth_78 : decode cX10_layWorth 78 = .ok (.invokestatic 144, 3) := by decide +kernel
theorem dX10_layWorth_81 : decode cX10_layWorth 81 = .ok (.ifCond .eq 10, 3) := by decide +kernel
theorem dX10_layWorth_84 : decode cX10_layWorth 84 = .ok (.iload 5, 2) := by decide +kernel
theorem dX10_layWorth_86 : decode cX10_layWorth 86 = .ok (.iconst 1, 1) := by decide +kernel
theorem dX10_layWorth_87 : decode cX10_layWorth 87 = .ok (.iadd, 1) := by decide +kernel
theorem dX10_layWorth_88 : decode cX10_layWorth 88 = .ok (.goto 4, 3) := by decide +kernel
theorem dX10_layWorth_91 : decode cX10_layWorth 91 = .ok (.iconst 0, 1) := by decide +kernel
theorem dX10_layWorth_92 : decode cX10_layWorth 92 = .ok (.iadd, 1) := by decide +kernel
theorem dX10_layWorth_93 : decode cX10_layWorth 93 = .ok (.istore_n 3, 1) := by decide +kernel
theorem dX10_layWorth_94 : decode cX10_layWorth 94 = .ok (.iload 4, 2) := by decide +kernel
theorem dX10_layWorth_96 : decode cX10_layWorth 96 = .ok (.aload_n 0, 1) := by decide +kernel
theorem dX10_layWorth_97 : decode cX10_layWorth 97 = .ok (.getfield 34, 3) := by decide +kernel
theorem dX10_layWorth_100 : decode cX10_layWorth 100 = .ok (.bipush 12, 2) := by decide +kernel
theorem dX10_layWorth_102 : decode cX10_layWorth 102 = .ok (.iaload, 1) := by decide +kernel
theorem dX10_layWorth_103 : decode cX10_layWorth 103 = .ok (.iload 5, 2) := by decide +kernel
theorem dX10_layWorth_105 : decode cX10_layWorth 105 = .ok (.invokestatic 144, 3) := by decide +kernel
theorem dX10_layWorth_108 : decode cX10_layWorth 108 = .ok (.ifCond .eq 10, 3) := by decide +kernel
theorem dX10_layWorth_111 : decode cX10_layWorth 111 = .ok (.iconst 5, 1) := by decide +kernel
theorem dX10_layWorth_112 : decode cX10_layWorth 112 = .ok (.iload 5, 2) := by decide +kernel
theorem dX10_layWorth_114 : decode cX10_layWorth 114 = .ok (.isub, 1) := by decide +kernel
theorem dX10_layWorth_115 : decode cX10_layWorth 115 = .ok (.goto 4, 3) := by decide +kernel
theorem dX10_layWorth_118 : decode cX10_layWorth 118 = .ok (.iconst 0, 1) := by decide +kernel
theorem dX10_layWorth_119 : decode cX10_layWorth 119 = .ok (.iadd, 1) := by decide +kernel
theorem dX10_layWorth_120 : decode cX10_layWorth 120 = .ok (.istore 4, 2) := by decide +kernel
theorem dX10_layWorth_122 : decode cX10_layWorth 122 = .ok (.iinc 5 1, 3) := by decide +kernel
theorem dX10_layWorth_125 : decode cX10_layWorth 125 = .ok (.goto (-66), 3) := by decide +kernel
theorem dX10_layWorth_128 : decode cX10_layWorth 128 = .ok (.aload_n 0, 1) := by decide +kernel
theorem dX10_layWorth_129 : decode cX10_layWorth 129 = .ok (.getfield 65, 3) := by decide +kernel
theorem dX10_layWorth_132 : decode cX10_layWorth 132 = .ok (.iconst 2, 1) := by decide +kernel
theorem dX10_layWorth_133 : decode cX10_layWorth 133 = .ok (.bipush 6, 2) := by decide +kernel
theorem dX10_layWorth_135 : decode cX10_layWorth 135 = .ok (.iload_n 1, 1) := by decide +kernel
theorem dX10_layWorth_136 : decode cX10_layWorth 136 = .ok (.imul, 1) := by decide +kernel
theorem dX10_layWorth_137 : decode cX10_layWorth 137 = .ok (.iload_n 2, 1) := by decide +kernel
theorem dX10_layWorth_138 : decode cX10_layWorth 138 = .ok (.iadd, 1) := by decide +kernel
theorem dX10_layWorth_139 : decode cX10_layWorth 139 = .ok (.imul, 1) := by decide +kernel
theorem dX10_layWorth_140 : decode cX10_layWorth 140 = .ok (.iload_n 3, 1) := by decide +kernel
theorem dX10_layWorth_141 : decode cX10_layWorth 141 = .ok (.iastore, 1) := by decide +kernel
theorem dX10_layWorth_142 : decode cX10_layWorth 142 = .ok (.aload_n 0, 1) := by decide +kernel
theorem dX10_layWorth_143 : decode cX10_layWorth 143 = .ok (.getfield 65, 3) := by decide +kernel
theorem dX10_layWorth_146 : decode cX10_layWorth 146 = .ok (.iconst 2, 1) := by decide +kernel
theorem dX10_layWorth_147 : decode cX10_layWorth 147 = .ok (.bipush 6, 2) := by decide +kernel
theorem dX10_layWorth_149 : decode cX10_layWorth 149 = .ok (.iload_n 1, 1) := by decide +kernel
theorem dX10_layWorth_150 : decode cX10_layWorth 150 = .ok (.imul, 1) := by decide +kernel
theorem dX10_layWorth_151 : decode cX10_layWorth 151 = .ok (.iload_n 2, 1) := by decide +kernel
theorem dX10_layWorth_152 : decode cX10_layWorth 152 = .ok (.iadd, 1) := by decide +kernel
theorem dX10_layWorth_153 : decode cX10_layWorth 153 = .ok (.imul, 1) := by decide +kernel
theorem dX10_layWorth_154 : decode cX10_layWorth 154 = .ok (.iconst 1, 1) := by decide +kernel
theorem dX10_layWorth_155 : decode cX10_layWorth 155 = .ok (.iadd, 1) := by decide +kernel
theorem dX10_layWorth_156 : decode cX10_layWorth 156 = .ok (.iload 4, 2) := by decide +kernel
theorem dX10_layWorth_158 : decode cX10_layWorth 158 = .ok (.iastore, 1) := by decide +kernel
theorem dX10_layWorth_159 : decode cX10_layWorth 159 = .ok (.return_, 1) := by decide +kernel
theorem dX10_findRests_0 : decode cX10_findRests 0 = .ok (.iconst 0, 1) := by decide +kernel
theorem dX10_findRests_1 : decode cX10_findRests 1 = .ok (.istore_n 1, 1) := by decide +kernel
theorem dX10_findRests_2 : decode cX10_findRests 2 = .ok (.iload_n 1, 1) := by decide +kernel
theorem dX10_findRests_3 : decode cX10_findRests 3 = .ok (.bipush 36, 2) := by decide +kernel
theorem dX10_findRests_5 : decode cX10_findRests 5 = .ok (.if_icmp .ge 43, 3) := by decide +kernel
theorem dX10_findRests_8 : decode cX10_findRests 8 = .ok (.iload_n 1, 1) := by decide +kernel
theorem dX10_findRests_9 : decode cX10_findRests 9 = .ok (.bipush 6, 2) := by decide +kernel
theorem dX10_findRests_11 : decode cX10_findRests 11 = .ok (.idiv, 1) := by decide +kernel
theorem dX10_findRests_12 : decode cX10_findRests 12 = .ok (.aload_n 0, 1) := by decide +kernel
theorem dX10_findRests_13 : decode cX10_findRests 13 = .ok (.getfield 75, 3) := by decide +kernel
theorem dX10_findRests_16 : decode cX10_findRests 16 = .ok (.if_icmp .gt 26, 3) := by decide +kernel
theorem dX10_findRests_19 : decode cX10_findRests 19 = .ok (.iload_n 1, 1) := by decide +kernel
theorem dX10_findRests_20 : decode cX10_findRests 20 = .ok (.bipush 6, 2) := by decide +kernel
theorem dX10_findRests_22 : decode cX10_findRests 22 = .ok (.irem, 1) := by decide +kernel
theorem dX10_findRests_23 : decode cX10_findRests 23 = .ok (.aload_n 0, 1) := by decide +kernel
theorem dX10_findRests_24 : decode cX10_findRests 24 = .ok (.getfield 75, 3) := by decide +kernel
theorem dX10_findRests_27 : decode cX10_findRests 27 = .ok (.if_icmp .gt 15, 3) := by decide +kernel
theorem dX10_findRests_30 : decode cX10_findRests 30 = .ok (.aload_n 0, 1) := by decide +kernel
theorem dX10_findRests_31 : decode cX10_findRests 31 = .ok (.iload_n 1, 1) := by decide +kernel
theorem dX10_findRests_32 : decode cX10_findRests 32 = .ok (.bipush 6, 2) := by decide +kernel
theorem dX10_findRests_34 : decode cX10_findRests 34 = .ok (.idiv, 1) := by decide +kernel
theorem dX10_findRests_35 : decode cX10_findRests 35 = .ok (.iload_n 1, 1) := by decide +kernel
theorem dX10_findRests_36 : decode cX10_findRests 36 = .ok (.bipush 6, 2) := by decide +kernel
theorem dX10_findRests_38 : decode cX10_findRests 38 = .ok (.irem, 1) := by decide +kernel
theorem dX10_findRests_39 : decode cX10_findRests 39 = .ok (.invokevirtual 254, 3) := by decide +kernel
theorem dX10_findRests_42 : decode cX10_findRests 42 = .ok (.iinc 1 1, 3) := by decide +kernel
theorem dX10_findRests_45 : decode cX10_findRests 45 = .ok (.goto (-43), 3) := by decide +kernel
theorem dX10_findRests_48 : decode cX10_findRests 48 = .ok (.aload_n 0, 1) := by decide +kernel
theorem dX10_findRests_49 : decode cX10_findRests 49 = .ok (.iconst 0, 1) := by decide +kernel
theorem dX10_findRests_50 : decode cX10_findRests 50 = .ok (.putfield 258, 3) := by decide +kernel
theorem dX10_findRests_53 : decode cX10_findRests 53 = .ok (.aload_n 0, 1) := by decide +kernel
theorem dX10_findRests_54 : decode cX10_findRests 54 = .ok (.bipush (-9), 2) := by decide +kernel
theorem dX10_findRests_56 : decode cX10_findRests 56 = .ok (.putfield 261, 3) := by decide +kernel
theorem dX10_findRests_59 : decode cX10_findRests 59 = .ok (.iconst 0, 1) := by decide +kernel
theorem dX10_findRests_60 : decode cX10_findRests 60 = .ok (.istore_n 1, 1) := by decide +kernel
theorem dX10_findRests_61 : decode cX10_findRests 61 = .ok (.iload_n 1, 1) := by decide +kernel
theorem dX10_findRests_62 : decode cX10_findRests 62 = .ok (.aload_n 0, 1) := by decide +kernel
theorem dX10_findRests_63 : decode cX10_findRests 63 = .ok (.getfield 75, 3) := by decide +kernel
theorem dX10_findRests_66 : decode cX10_findRests 66 = .ok (.if_icmp .gt 165, 3) := by decide +kernel
theorem dX10_findRests_69 : decode cX10_findRests 69 = .ok (.iconst 0, 1) := by decide +kernel
theorem dX10_findRests_70 : decode cX10_findRests 70 = .ok (.istore_n 2, 1) := by decide +kernel
theorem dX10_findRests_71 : decode cX10_findRests 71 = .ok (.iload_n 2, 1) := by decide +kernel
theorem dX10_findRests_72 : decode cX10_findRests 72 = .ok (.aload_n 0, 1) := by decide +kernel
theorem dX10_findRests_73 : decode cX10_findRests 73 = .ok (.getfield 75, 3) := by decide +kernel
theorem dX10_findRests_76 : decode cX10_findRests 76 = .ok (.if_icmp .gt 149, 3) := by decide +kernel
theorem dX10_findRests_79 : decode cX10_findRests 79 = .ok (.iconst 1, 1) := by decide +kernel
theorem dX10_findRests_80 : decode cX10_findRests 80 = .ok (.istore_n 3, 1) := by decide +kernel
theorem dX10_findRests_81 : decode cX10_findRests 81 = .ok (.iconst 0, 1) := by decide +kernel
theorem dX10_findRests_82 : decode cX10_findRests 82 = .ok (.istore 4, 2) := by decide +kernel
theorem dX10_findRests_84 : decode cX10_findRests 84 = .ok (.iload 4, 2) := by decide +kernel
theorem dX10_findRests_86 : decode cX10_findRests 86 = .ok (.aload_n 0, 1) := by decide +kernel
theorem dX10_findRests_87 : decode cX10_findRests 87 = .ok (.getfield 75, 3) := by decide +kernel
theorem dX10_findRests_90 : decode cX10_findRests 90 = .ok (.if_icmp .gt 83, 3) := by decide +kernel
theorem dX10_findRests_93 : decode cX10_findRests 93 = .ok (.iload_n 3, 1) := by decide +kernel
theorem dX10_findRests_94 : decode cX10_findRests 94 = .ok (.ifCond .eq 71, 3) := by decide +kernel
theorem dX10_findRests_97 : decode cX10_findRests 97 = .ok (.aload_n 0, 1) := by decide +kernel
theorem dX10_findRests_98 : decode cX10_findRests 98 = .ok (.getfield 65, 3) := by decide +kernel
theorem dX10_findRests_101 : decode cX10_findRests 101 = .ok (.iconst 2, 1) := by decide +kernel
theorem dX10_findRests_102 : decode cX10_findRests 102 = .ok (.bipush 6, 2) := by decide +kernel
theorem dX10_findRests_104 : decode cX10_findRests 104 = .ok (.iload 4, 2) := by decide +kernel
theorem dX10_findRests_106 : decode cX10_findRests 106 = .ok (.imul, 1) := by decide +kernel
theorem dX10_findRests_107 : decode cX10_findRests 107 = .ok (.iload_n 2, 1) := by decide +kernel
theorem dX10_findRests_108 : decode cX10_findRests 108 = .ok (.iadd, 1) := by decide +kernel
theorem dX10_findRests_109 : decode cX10_findRests 109 = .ok (.imul, 1) := by decide +kernel
theorem dX10_findRests_110 : decode cX10_findRests 110 = .ok (.iaload, 1) := by decide +kernel
theorem dX10_findRests_111 : decode cX10_findRests 111 = .ok (.aload_n 0, 1) := by decide +kernel
theorem dX10_findRests_112 : decode cX10_findRests 112 = .ok (.getfield 65, 3) := by decide +kernel
theorem dX10_findRests_115 : decode cX10_findRests 115 = .ok (.iconst 2, 1) := by decide +kernel
theorem dX10_findRests_116 : decode cX10_findRests 116 = .ok (.bipush 6, 2) := by decide +kernel
theorem dX10_findRests_118 : decode cX10_findRests 118 = .ok (.iload_n 1, 1) := by decide +kernel
theorem dX10_findRests_119 : decode cX10_findRests 119 = .ok (.imul, 1) := by decide +kernel
theorem dX10_findRests_120 : decode cX10_findRests 120 = .ok (.iload_n 2, 1) := by decide +kernel
theorem dX10_findRests_121 : decode cX10_findRests 121 = .ok (.iadd, 1) := by decide +kernel
theorem dX10_findRests_122 : decode cX10_findRests 122 = .ok (.imul, 1) := by decide +kernel
theorem dX10_findRests_123 : decode cX10_findRests 123 = .ok (.iaload, 1) := by decide +kernel
theorem dX10_findRests_124 : decode cX10_findRests 124 = .ok (.if_icmp .gt 41, 3) := by decide +kernel
theorem dX10_findRests_127 : decode cX10_findRests 127 = .ok (.aload_n 0, 1) := by decide +kernel
theorem dX10_findRests_128 : decode cX10_findRests 128 = .ok (.getfield 65, 3) := by decide +kernel
theorem dX10_findRests_131 : decode cX10_findRests 131 = .ok (.iconst 2, 1) := by decide +kernel
theorem dX10_findRests_132 : decode cX10_findRests 132 = .ok (.bipush 6, 2) := by decide +kernel
theorem dX10_findRests_134 : decode cX10_findRests 134 = .ok (.iload_n 1, 1) := by decide +kernel
theorem dX10_findRests_135 : decode cX10_findRests 135 = .ok (.imul, 1) := by decide +kernel
theorem dX10_findRests_136 : decode cX10_findRests 136 = .ok (.iload 4, 2) := by decide +kernel
theorem dX10_findRests_138 : decode cX10_findRests 138 = .ok (.iadd, 1) := by decide +kernel
theorem dX10_findRests_139 : decode cX10_findRests 139 = .ok (.imul, 1) := by decide +kernel
theorem dX10_findRests_140 : decode cX10_findRests 140 = .ok (.iconst 1, 1) := by decide +kernel
theorem dX10_findRests_141 : decode cX10_findRests 141 = .ok (.iadd, 1) := by decide +kernel
theorem dX10_findRests_142 : decode cX10_findRests 142 = .ok (.iaload, 1) := by decide +kernel
theorem dX10_findRests_143 : decode cX10_findRests 143 = .ok (.aload_n 0, 1) := by decide +kernel
theorem dX10_findRests_144 : decode cX10_findRests 144 = .ok (.getfield 65, 3) := by decide +kernel
theorem dX10_findRests_147 : decode cX10_findRests 147 = .ok (.iconst 2, 1) := by decide +kernel
theorem dX10_findRests_148 : decode cX10_findRests 148 = .ok (.bipush 6, 2) := by decide +kernel
theorem dX10_findRests_150 : decode cX10_findRests 150 = .ok (.iload_n 1, 1) := by decide +kernel
theorem dX10_findRests_151 : decode cX10_findRests 151 = .ok (.imul, 1) := by decide +kernel
theorem dX10_findRests_152 : decode cX10_findRests 152 = .ok (.iload_n 2, 1) := by decide +kernel
theorem dX10_findRests_153 : decode cX10_findRests 153 = .ok (.iadd, 1) := by decide +kernel
theorem dX10_findRests_154 : decode cX10_findRests 154 = .ok (.imul, 1) := by decide +kernel
theorem dX10_findRests_155 : decode cX10_findRests 155 = .ok (.iconst 1, 1) := by decide +kernel
theorem dX10_findRests_156 : decode cX10_findRests 156 = .ok (.iadd, 1) := by decide +kernel
theorem dX10_findRests_157 : decode cX10_findRests 157 = .ok (.iaload, 1) := by decide +kernel
theorem dX10_findRests_158 : decode cX10_findRests 158 = .ok (.if_icmp .gt 7, 3) := by decide +kernel
theorem dX10_findRests_161 : decode cX10_findRests 161 = .ok (.iconst 1, 1) := by decide +kernel
theorem dX10_findRests_162 : decode cX10_findRests 162 = .ok (.goto 4, 3) := by decide +kernel
theorem dX10_findRests_165 : decode cX10_findRests 165 = .ok (.iconst 0, 1) := by decide +kernel
theorem dX10_findRests_166 : decode cX10_findRests 166 = .ok (.istore_n 3, 1) := by decide +kernel
theorem dX10_findRests_167 : decode cX10_findRests 167 = .ok (.iinc 4 1, 3) := by decide +kernel
theorem dX10_findRests_170 : decode cX10_findRests 170 = .ok (.goto (-86), 3) := by decide +kernel
theorem dX10_findRests_173 : decode cX10_findRests 173 = .ok (.aload_n 0, 1) := by decide +kernel
theorem dX10_findRests_174 : decode cX10_findRests 174 = .ok (.iload_n 3, 1) := by decide +kernel
theorem dX10_findRests_175 : decode cX10_findRests 175 = .ok (.ifCond .eq 19, 3) := by decide +kernel
theorem dX10_findRests_178 : decode cX10_findRests 178 = .ok (.aload_n 0, 1) := by decide +kernel
theorem dX10_findRests_179 : decode cX10_findRests 179 = .ok (.getfield 258, 3) := by decide +kernel
theorem dX10_findRests_182 : decode cX10_findRests 182 = .ok (.ifCond .ne 12, 3) := by decide +kernel
theorem dX10_findRests_185 : decode cX10_findRests 185 = .ok (.bipush 10, 2) := by decide +kernel
theorem dX10_findRests_187 : decode cX10_findRests 187 = .ok (.iload_n 1, 1) := by decide +kernel
theorem dX10_findRests_188 : decode cX10_findRests 188 = .ok (.imul, 1) := by decide +kernel
theorem dX10_findRests_189 : decode cX10_findRests 189 = .ok (.iload_n 2, 1) := by decide +kernel
theorem dX10_findRests_190 : decode cX10_findRests 190 = .ok (.iadd, 1) := by decide +kernel
theorem dX10_findRests_191 : decode cX10_findRests 191 = .ok (.goto 7, 3) := by decide +kernel
theorem dX10_findRests_194 : decode cX10_findRests 194 = .ok (.aload_n 0, 1) := by decide +kernel
theorem dX10_findRests_195 : decode cX10_findRests 195 = .ok (.getfield 261, 3) := by decide +kernel
theorem dX10_findRests_198 : decode cX10_findRests 198 = .ok (.putfield 261, 3) := by decide +kernel
theorem dX10_findRests_201 : decode cX10_findRests 201 = .ok (.aload_n 0, 1) := by decide +kernel
theorem dX10_findRests_202 : decode cX10_findRests 202 = .ok (.dup, 1) := by decide +kernel
theorem dX10_findRests_203 : decode cX10_findRests 203 = .ok (.getfield 258, 3) := by decide +kernel
theorem dX10_findRests_206 : decode cX10_findRests 206 = .ok (.iload_n 3, 1) := by decide +kernel
theorem dX10_findRests_207 : decode cX10_findRests 207 = .ok (.ifCond .eq 7, 3) := by decide +kernel
theorem dX10_findRests_210 : decode cX10_findRests 210 = .ok (.iconst 1, 1) := by decide +kernel
theorem dX10_findRests_211 : decode cX10_findRests 211 = .ok (.goto 4, 3) := by decide +kernel
theorem dX10_findRests_214 : decode cX10_findRests 214 = .ok (.iconst 0, 1) := by decide +kernel
theorem dX10_findRests_215 : decode cX10_findRests 215 = .ok (.iadd, 1) := by decide +kernel
theorem dX10_findRests_216 : decode cX10_findRests 216 = .ok (.putfield 258, 3) := by decide +kernel
theorem dX10_findRests_219 : decode cX10_findRests 219 = .ok (.iinc 2 1, 3) := by decide +kernel
theorem dX10_findRests_222 : decode cX10_findRests 222 = .ok (.goto (-151), 3) := by decide +kernel
theorem dX10_findRests_225 : decode cX10_findRests 225 = .ok (.iinc 1 1, 3) := by decide +kernel
theorem dX10_findRests_228 : decode cX10_findRests 228 = .ok (.goto (-167), 3) := by decide +kernel
theorem dX10_findRests_231 : decode cX10_findRests 231 = .ok (.return_, 1) := by decide +kernel
theorem dX10_rests_0 : decode cX10_rests 0 = .ok (.aload_n 0, 1) := by decide +kernel
theorem dX10_rests_1 : decode cX10_rests 1 = .ok (.iconst 0, 1) := by decide +kernel
theorem dX10_rests_2 : decode cX10_rests 2 = .ok (.putfield 71, 3) := by decide +kernel
theorem dX10_rests_5 : decode cX10_rests 5 = .ok (.aload_n 0, 1) := by decide +kernel
theorem dX10_rests_6 : decode cX10_rests 6 = .ok (.getfield 82, 3) := by decide +kernel
theorem dX10_rests_9 : decode cX10_rests 9 = .ok (.iconst 2, 1) := by decide +kernel
theorem dX10_rests_10 : decode cX10_rests 10 = .ok (.if_icmp .ge 5, 3) := by decide +kernel
theorem dX10_rests_13 : decode cX10_rests 13 = .ok (.iconst (-1), 1) := by decide +kernel
theorem dX10_rests_14 : decode cX10_rests 14 = .ok (.ireturn, 1) := by decide +kernel
theorem dX10_rests_15 : decode cX10_rests 15 = .ok (.iload_n 1, 1) := by decide +kernel
theorem dX10_rests_16 : decode cX10_rests 16 = .ok (.i2l, 1) := by decide +kernel
theorem dX10_rests_17 : decode cX10_rests 17 = .ok (.lconst 0, 1) := by decide +kernel
theorem dX10_rests_18 : decode cX10_rests 18 = .ok (.lconst 1, 1) := by decide +kernel
theorem dX10_rests_19 : decode cX10_rests 19 = .ok (.invokestatic 78, 3) := by decide +kernel
theorem dX10_rests_22 : decode cX10_rests 22 = .ok (.ifCond .ne 6, 3) := by decide +kernel
theorem dX10_rests_25 : decode cX10_rests 25 = .ok (.bipush (-2), 2) := by decide +kernel
theorem dX10_rests_27 : decode cX10_rests 27 = .ok (.ireturn, 1) := by decide +kernel
theorem dX10_rests_28 : decode cX10_rests 28 = .ok (.aload_n 0, 1) := by decide +kernel
theorem dX10_rests_29 : decode cX10_rests 29 = .ok (.invokevirtual 264, 3) := by decide +kernel
theorem dX10_rests_32 : decode cX10_rests 32 = .ok (.iload_n 1, 1) := by decide +kernel
theorem dX10_rests_33 : decode cX10_rests 33 = .ok (.ifCond .ne 10, 3) := by decide +kernel
theorem dX10_rests_36 : decode cX10_rests 36 = .ok (.aload_n 0, 1) := by decide +kernel
theorem dX10_rests_37 : decode cX10_rests 37 = .ok (.getfield 258, 3) := by decide +kernel
theorem dX10_rests_40 : decode cX10_rests 40 = .ok (.goto 7, 3) := by decide +kernel
theorem dX10_rests_43 : decode cX10_rests 43 = .ok (.aload_n 0, 1) := by decide +kernel
theorem dX10_rests_44 : decode cX10_rests 44 = .ok (.getfield 261, 3) := by decide +kernel
theorem dX10_rests_47 : decode cX10_rests 47 = .ok (.ireturn, 1) := by decide +kernel
theorem dX10_odds_0 : decode cX10_odds 0 = .ok (.aload_n 0, 1) := by decide +kernel
theorem dX10_odds_1 : decode cX10_odds 1 = .ok (.iconst 0, 1) := by decide +kernel
theorem dX10_odds_2 : decode cX10_odds 2 = .ok (.putfield 71, 3) := by decide +kernel
theorem dX10_odds_5 : decode cX10_odds 5 = .ok (.aload_n 0, 1) := by decide +kernel
theorem dX10_odds_6 : decode cX10_odds 6 = .ok (.iload_n 1, 1) := by decide +kernel
theorem dX10_odds_7 : decode cX10_odds 7 = .ok (.invokevirtual 183, 3) := by decide +kernel
theorem dX10_odds_10 : decode cX10_odds 10 = .ok (.ifCond .ne 12, 3) := by decide +kernel
theorem dX10_odds_13 : decode cX10_odds 13 = .ok (.aload_n 0, 1) := by decide +kernel
theorem dX10_odds_14 : decode cX10_odds 14 = .ok (.iload 4, 2) := by decide +kernel
theorem dX10_odds_16 : decode cX10_odds 16 = .ok (.invokevirtual 179, 3) := by decide +kernel
theorem dX10_odds_19 : decode cX10_odds 19 = .ok (.ifCond .eq 5, 3) := by decide +kernel
theorem dX10_odds_22 : decode cX10_odds 22 = .ok (.iconst (-1), 1) := by decide +kernel
theorem dX10_odds_23 : decode cX10_odds 23 = .ok (.ireturn, 1) := by decide +kernel
theorem dX10_odds_24 : decode cX10_odds 24 = .ok (.iload_n 2, 1) := by decide +kernel
theorem dX10_odds_25 : decode cX10_odds 25 = .ok (.i2l, 1) := by decide +kernel
theorem dX10_odds_26 : decode cX10_odds 26 = .ok (.lconst 0, 1) := by decide +kernel
theorem dX10_odds_27 : decode cX10_odds 27 = .ok (.ldc2_w 93, 3) := by decide +kernel
theorem dX10_odds_30 : decode cX10_odds 30 = .ok (.invokestatic 78, 3) := by decide +kernel
theorem dX10_odds_33 : decode cX10_odds 33 = .ok (.ifCond .eq 28, 3) := by decide +kernel
theorem dX10_odds_36 : decode cX10_odds 36 = .ok (.iload_n 3, 1) := by decide +kernel
theorem dX10_odds_37 : decode cX10_odds 37 = .ok (.i2l, 1) := by decide +kernel
theorem dX10_odds_38 : decode cX10_odds 38 = .ok (.lconst 1, 1) := by decide +kernel
theorem dX10_odds_39 : decode cX10_odds 39 = .ok (.ldc2_w 237, 3) := by decide +kernel
theorem dX10_odds_42 : decode cX10_odds 42 = .ok (.invokestatic 78, 3) := by decide +kernel
theorem dX10_odds_45 : decode cX10_odds 45 = .ok (.ifCond .eq 16, 3) := by decide +kernel
theorem dX10_odds_48 : decode cX10_odds 48 = .ok (.iload 5, 2) := by decide +kernel
theorem dX10_odds_50 : decode cX10_odds 50 = .ok (.i2l, 1) := by decide +kernel
theorem dX10_odds_51 : decode cX10_odds 51 = .ok (.lconst 0, 1) := by decide +kernel
theorem dX10_odds_52 : decode cX10_odds 52 = .ok (.ldc2_w 267, 3) := by decide +kernel
theorem dX10_odds_55 : decode cX10_odds 55 = .ok (.invokestatic 78, 3) := by decide +kernel
theorem dX10_odds_58 : decode cX10_odds 58 = .ok (.ifCond .ne 6, 3) := by decide +kernel
theorem dX10_odds_61 : decode cX10_odds 61 = .ok (.bipush (-2), 2) := by decide +kernel
theorem dX10_odds_63 : decode cX10_odds 63 = .ok (.ireturn, 1) := by decide +kernel
theorem dX10_odds_64 : decode cX10_odds 64 = .ok (.iconst 0, 1) := by decide +kernel
theorem dX10_odds_65 : decode cX10_odds 65 = .ok (.istore 7, 2) := by decide +kernel
theorem dX10_odds_67 : decode cX10_odds 67 = .ok (.iconst 0, 1) := by decide +kernel
theorem dX10_odds_68 : decode cX10_odds 68 = .ok (.istore 8, 2) := by decide +kernel
theorem dX10_odds_70 : decode cX10_odds 70 = .ok (.iload 8, 2) := by decide +kernel
theorem dX10_odds_72 : decode cX10_odds 72 = .ok (.iconst 3, 1) := by decide +kernel
theorem dX10_odds_73 : decode cX10_odds 73 = .ok (.iload_n 3, 1) := by decide +kernel
theorem dX10_odds_74 : decode cX10_odds 74 = .ok (.invokestatic 212, 3) := by decide +kernel
theorem dX10_odds_77 : decode cX10_odds 77 = .ok (.if_icmp .ge 117, 3) := by decide +kernel
theorem dX10_odds_80 : decode cX10_odds 80 = .ok (.aload_n 0, 1) := by decide +kernel
theorem dX10_odds_81 : decode cX10_odds 81 = .ok (.getfield 31, 3) := by decide +kernel
theorem dX10_odds_84 : decode cX10_odds 84 = .ok (.aload_n 0, 1) := by decide +kernel
theorem dX10_odds_85 : decode cX10_odds 85 = .ok (.getfield 34, 3) := by decide +kernel
theorem dX10_odds_88 : decode cX10_odds 88 = .ok (.bipush 15, 2) := by decide +kernel
theorem dX10_odds_90 : decode cX10_odds 90 = .ok (.invokestatic 137, 3) := by decide +kernel
theorem dX10_odds_93 : decode cX10_odds 93 = .ok (.iconst 1, 1) := by decide +kernel
theorem dX10_odds_94 : decode cX10_odds 94 = .ok (.istore 9, 2) := by decide +kernel
theorem dX10_odds_96 : decode cX10_odds 96 = .ok (.iconst 0, 1) := by decide +kernel
theorem dX10_odds_97 : decode cX10_odds 97 = .ok (.istore 10, 2) := by decide +kernel
theorem dX10_odds_99 : decode cX10_odds 99 = .ok (.iload 10, 2) := by decide +kernel
theorem dX10_odds_101 : decode cX10_odds 101 = .ok (.iload_n 3, 1) := by decide +kernel
theorem dX10_odds_102 : decode cX10_odds 102 = .ok (.if_icmp .ge 60, 3) := by decide +kernel
theorem dX10_odds_105 : decode cX10_odds 105 = .ok (.iload 8, 2) := by decide +kernel
theorem dX10_odds_107 : decode cX10_odds 107 = .ok (.iconst 3, 1) := by decide +kernel
theorem dX10_odds_108 : decode cX10_odds 108 = .ok (.iload_n 3, 1) := by decide +kernel
theorem dX10_odds_109 : decode cX10_odds 109 = .ok (.iconst 1, 1) := by decide +kernel
theorem dX10_odds_110 : decode cX10_odds 110 = .ok (.isub, 1) := by decide +kernel
theorem dX10_odds_111 : decode cX10_odds 111 = .ok (.iload 10, 2) := by decide +kernel
theorem dX10_odds_113 : decode cX10_odds 113 = .ok (.isub, 1) := by decide +kernel
theorem dX10_odds_114 : decode cX10_odds 114 = .ok (.invokestatic 212, 3) := by decide +kernel
theorem dX10_odds_117 : decode cX10_odds 117 = .ok (.idiv, 1) := by decide +kernel
theorem dX10_odds_118 : decode cX10_odds 118 = .ok (.iconst 3, 1) := by decide +kernel
theorem dX10_odds_119 : decode cX10_odds 119 = .ok (.irem, 1) := by decide +kernel
theorem dX10_odds_120 : decode cX10_odds 120 = .ok (.istore 11, 2) := by decide +kernel
theorem dX10_odds_122 : decode cX10_odds 122 = .ok (.aload_n 0, 1) := by decide +kernel
theorem dX10_odds_123 : decode cX10_odds 123 = .ok (.aload_n 0, 1) := by decide +kernel
theorem dX10_odds_124 : decode cX10_odds 124 = .ok (.getfield 34, 3) := by decide +kernel
theorem dX10_odds_127 : decode cX10_odds 127 = .ok (.iload_n 1, 1) := by decide +kernel
theorem dX10_odds_128 : decode cX10_odds 128 = .ok (.iload_n 2, 1) := by decide +kernel
theorem dX10_odds_129 : decode cX10_odds 129 = .ok (.iload 11, 2) := by decide +kernel
theorem dX10_odds_131 : decode cX10_odds 131 = .ok (.invokevirtual 195, 3) := by decide +kernel
theorem dX10_odds_134 : decode cX10_odds 134 = .ok (.iload 9, 2) := by decide +kernel
theorem dX10_odds_136 : decode cX10_odds 136 = .ok (.iload 11, 2) := by decide +kernel
theorem dX10_odds_138 : decode cX10_odds 138 = .ok (.ifCond .ne 10, 3) := by decide +kernel
theorem dX10_odds_141 : decode cX10_odds 141 = .ok (.iconst 2, 1) := by decide +kernel
theorem dX10_odds_142 : decode cX10_odds 142 = .ok (.iload 5, 2) := by decide +kernel
theorem dX10_odds_144 : decode cX10_odds 144 = .ok (.imul, 1) := by decide +kernel
theorem dX10_odds_145 : decode cX10_odds 145 = .ok (.goto 8, 3) := by decide +kernel
theorem dX10_odds_148 : decode cX10_odds 148 = .ok (.bipush 10, 2) := by decide +kernel
theorem dX10_odds_150 : decode cX10_odds 150 = .ok (.iload 5, 2) := by decide +kernel
theorem dX10_odds_152 : decode cX10_odds 152 = .ok (.isub, 1) := by decide +kernel
theorem dX10_odds_153 : decode cX10_odds 153 = .ok (.imul, 1) := by decide +kernel
theorem dX10_odds_154 : decode cX10_odds 154 = .ok (.istore 9, 2) := by decide +kernel
theorem dX10_odds_156 : decode cX10_odds 156 = .ok (.iinc 10 1, 3) := by decide +kernel
theorem dX10_odds_159 : decode cX10_odds 159 = .ok (.goto (-60), 3) := by decide +kernel
theorem dX10_odds_162 : decode cX10_odds 162 = .ok (.iload 7, 2) := by decide +kernel
theorem dX10_odds_164 : decode cX10_odds 164 = .ok (.aload_n 0, 1) := by decide +kernel
theorem dX10_odds_165 : decode cX10_odds 165 = .ok (.getfield 34, 3) := by decide +kernel
theorem dX10_odds_168 : decode cX10_odds 168 = .ok (.bipush 12, 2) := by decide +kernel
theorem dX10_odds_170 : decode cX10_odds 170 = .ok (.iaload, 1) := by decide +kernel
theorem dX10_odds_171 : decode cX10_odds 171 = .ok (.iload 4, 2) := by decide +kernel
theorem dX10_odds_173 : decode cX10_odds 173 = .ok (.invokestatic 144, 3) := by decide +kernel
theorem dX10_odds_176 : decode cX10_odds 176 = .ok (.ifCond .eq 8, 3) := by decide +kernel
theorem dX10_odds_179 : decode cX10_odds 179 = .ok (.iload 9, 2) := by decide +kernel
theorem dX10_odds_181 : decode cX10_odds 181 = .ok (.goto 4, 3) := by decide +kernel
theorem dX10_odds_184 : decode cX10_odds 184 = .ok (.iconst 0, 1) := by decide +kernel
theorem dX10_odds_185 : decode cX10_odds 185 = .ok (.iadd, 1) := by decide +kernel
theorem dX10_odds_186 : decode cX10_odds 186 = .ok (.istore 7, 2) := by decide +kernel
theorem dX10_odds_188 : decode cX10_odds 188 = .ok (.iinc 8 1, 3) := by decide +kernel
theorem dX10_odds_191 : decode cX10_odds 191 = .ok (.goto (-121), 3) := by decide +kernel
theorem dX10_odds_194 : decode cX10_odds 194 = .ok (.iload 7, 2) := by decide +kernel
theorem dX10_odds_196 : decode cX10_odds 196 = .ok (.bipush 20, 2) := by decide +kernel
theorem dX10_odds_198 : decode cX10_odds 198 = .ok (.iload_n 3, 1) := by decide +kernel
theorem dX10_odds_199 : decode cX10_odds 199 = .ok (.invokestatic 212, 3) := by decide +kernel
theorem dX10_odds_202 : decode cX10_odds 202 = .ok (.iload 6, 2) := by decide +kernel
theorem dX10_odds_204 : decode cX10_odds 204 = .ok (.invokestatic 248, 3) := by decide +kernel
theorem dX10_odds_207 : decode cX10_odds 207 = .ok (.ireturn, 1) := by decide +kernel
theorem dX10_seed_0 : decode cX10_seed 0 = .ok (.aload_n 0, 1) := by decide +kernel
theorem dX10_seed_1 : decode cX10_seed 1 = .ok (.iconst 0, 1) := by decide +kernel
theorem dX10_seed_2 : decode cX10_seed 2 = .ok (.putfield 71, 3) := by decide +kernel
theorem dX10_seed_5 : decode cX10_seed 5 = .ok (.aload_n 0, 1) := by decide +kernel
theorem dX10_seed_6 : decode cX10_seed 6 = .ok (.getfield 269, 3) := by decide +kernel
theorem dX10_seed_9 : decode cX10_seed 9 = .ok (.lstore_n 3, 1) := by decide +kernel
theorem dX10_seed_10 : decode cX10_seed 10 = .ok (.aload_n 0, 1) := by decide +kernel
theorem dX10_seed_11 : decode cX10_seed 11 = .ok (.lload_n 1, 1) := by decide +kernel
theorem dX10_seed_12 : decode cX10_seed 12 = .ok (.putfield 269, 3) := by decide +kernel
theorem dX10_seed_15 : decode cX10_seed 15 = .ok (.lload_n 3, 1) := by decide +kernel
theorem dX10_seed_16 : decode cX10_seed 16 = .ok (.lreturn, 1) := by decide +kernel
theorem dX10_fairs_0 : decode cX10_fairs 0 = .ok (.aload_n 0, 1) := by decide +kernel
theorem dX10_fairs_1 : decode cX10_fairs 1 = .ok (.iconst 0, 1) := by decide +kernel
theorem dX10_fairs_2 : decode cX10_fairs 2 = .ok (.putfield 71, 3) := by decide +kernel
theorem dX10_fairs_5 : decode cX10_fairs 5 = .ok (.iload_n 1, 1) := by decide +kernel
theorem dX10_fairs_6 : decode cX10_fairs 6 = .ok (.i2l, 1) := by decide +kernel
theorem dX10_fairs_7 : decode cX10_fairs 7 = .ok (.lconst 1, 1) := by decide +kernel
theorem dX10_fairs_8 : decode cX10_fairs 8 = .ok (.ldc2_w 273, 3) := by decide +kernel
theorem dX10_fairs_11 : decode cX10_fairs 11 = .ok (.invokestatic 78, 3) := by decide +kernel
theorem dX10_fairs_14 : decode cX10_fairs 14 = .ok (.ifCond .ne 6, 3) := by decide +kernel
theorem dX10_fairs_17 : decode cX10_fairs 17 = .ok (.bipush (-2), 2) := by decide +kernel
theorem dX10_fairs_19 : decode cX10_fairs 19 = .ok (.ireturn, 1) := by decide +kernel
theorem dX10_fairs_20 : decode cX10_fairs 20 = .ok (.aload_n 0, 1) := by decide +kernel
theorem dX10_fairs_21 : decode cX10_fairs 21 = .ok (.getfield 31, 3) := by decide +kernel
theorem dX10_fairs_24 : decode cX10_fairs 24 = .ok (.aload_n 0, 1) := by decide +kernel
theorem dX10_fairs_25 : decode cX10_fairs 25 = .ok (.getfield 34, 3) := by decide +kernel
theorem dX10_fairs_28 : decode cX10_fairs 28 = .ok (.bipush 15, 2) := by decide +kernel
theorem dX10_fairs_30 : decode cX10_fairs 30 = .ok (.invokestatic 137, 3) := by decide +kernel
theorem dX10_fairs_33 : decode cX10_fairs 33 = .ok (.iconst 0, 1) := by decide +kernel
theorem dX10_fairs_34 : decode cX10_fairs 34 = .ok (.istore_n 2, 1) := by decide +kernel
theorem dX10_fairs_35 : decode cX10_fairs 35 = .ok (.iconst 0, 1) := by decide +kernel
theorem dX10_fairs_36 : decode cX10_fairs 36 = .ok (.istore_n 3, 1) := by decide +kernel
theorem dX10_fairs_37 : decode cX10_fairs 37 = .ok (.iload_n 3, 1) := by decide +kernel
theorem dX10_fairs_38 : decode cX10_fairs 38 = .ok (.iload_n 1, 1) := by decide +kernel
theorem dX10_fairs_39 : decode cX10_fairs 39 = .ok (.if_icmp .ge 88, 3) := by decide +kernel
theorem dX10_fairs_42 : decode cX10_fairs 42 = .ok (.aload_n 0, 1) := by decide +kernel
theorem dX10_fairs_43 : decode cX10_fairs 43 = .ok (.aload_n 0, 1) := by decide +kernel
theorem dX10_fairs_44 : decode cX10_fairs 44 = .ok (.getfield 269, 3) := by decide +kernel
theorem dX10_fairs_47 : decode cX10_fairs 47 = .ok (.ldc2_w 275, 3) := by decide +kernel
theorem dX10_fairs_50 : decode cX10_fairs 50 = .ok (.lmul, 1) := by decide +kernel
theorem dX10_fairs_51 : decode cX10_fairs 51 = .ok (.ldc2_w 277, 3) := by decide +kernel
theorem dX10_fairs_54 : decode cX10_fairs 54 = .ok (.ladd, 1) := by decide +kernel
theorem dX10_fairs_55 : decode cX10_fairs 55 = .ok (.putfield 269, 3) := by decide +kernel
theorem dX10_fairs_58 : decode cX10_fairs 58 = .ok (.aload_n 0, 1) := by decide +kernel
theorem dX10_fairs_59 : decode cX10_fairs 59 = .ok (.getfield 269, 3) := by decide +kernel
theorem dX10_fairs_62 : decode cX10_fairs 62 = .ok (.bipush 33, 2) := by decide +kernel
theorem dX10_fairs_64 : decode cX10_fairs 64 = .ok (.lushr, 1) := by decide +kernel
theorem dX10_fairs_65 : decode cX10_fairs 65 = .ok (.ldc2_w 279, 3) := by decide +kernel
theorem dX10_fairs_68 : decode cX10_fairs 68 = .ok (.lrem, 1) := by decide +kernel
theorem dX10_fairs_69 : decode cX10_fairs 69 = .ok (.l2i, 1) := by decide +kernel
theorem dX10_fairs_70 : decode cX10_fairs 70 = .ok (.istore 4, 2) := by decide +kernel
theorem dX10_fairs_72 : decode cX10_fairs 72 = .ok (.aload_n 0, 1) := by decide +kernel
theorem dX10_fairs_73 : decode cX10_fairs 73 = .ok (.iload 4, 2) := by decide +kernel
theorem dX10_fairs_75 : decode cX10_fairs 75 = .ok (.bipush 24, 2) := by decide +kernel
theorem dX10_fairs_77 : decode cX10_fairs 77 = .ok (.idiv, 1) := by decide +kernel
theorem dX10_fairs_78 : decode cX10_fairs 78 = .ok (.invokevirtual 183, 3) := by decide +kernel
theorem dX10_fairs_81 : decode cX10_fairs 81 = .ok (.ifCond .ne 27, 3) := by decide +kernel
theorem dX10_fairs_84 : decode cX10_fairs 84 = .ok (.aload_n 0, 1) := by decide +kernel
theorem dX10_fairs_85 : decode cX10_fairs 85 = .ok (.aload_n 0, 1) := by decide +kernel
theorem dX10_fairs_86 : decode cX10_fairs 86 = .ok (.getfield 34, 3) := by decide +kernel
theorem dX10_fairs_89 : decode cX10_fairs 89 = .ok (.iload 4, 2) := by decide +kernel
theorem dX10_fairs_91 : decode cX10_fairs 91 = .ok (.bipush 24, 2) := by decide +kernel
theorem dX10_fairs_93 : decode cX10_fairs 93 = .ok (.idiv, 1) := by decide +kernel
theorem dX10_fairs_94 : decode cX10_fairs 94 = .ok (.iload 4, 2) := by decide +kernel
theorem dX10_fairs_96 : decode cX10_fairs 96 = .ok (.bipush 24, 2) := by decide +kernel
theorem dX10_fairs_98 : decode cX10_fairs 98 = .ok (.irem, 1) := by decide +kernel
theorem dX10_fairs_99 : decode cX10_fairs 99 = .ok (.iconst 3, 1) := by decide +kernel
theorem dX10_fairs_100 : decode cX10_fairs 100 = .ok (.idiv, 1) := by decide +kernel
theorem dX10_fairs_101 : decode cX10_fairs 101 = .ok (.iload 4, 2) := by decide +kernel
theorem dX10_fairs_103 : decode cX10_fairs 103 = .ok (.iconst 3, 1) := by decide +kernel
theorem dX10_fairs_104 : decode cX10_fairs 104 = .ok (.irem, 1) := by decide +kernel
theorem dX10_fairs_105 : decode cX10_fairs 105 = .ok (.invokevirtual 195, 3) := by decide +kernel
theorem dX10_fairs_108 : decode cX10_fairs 108 = .ok (.iload_n 2, 1) := by decide +kernel
theorem dX10_fairs_109 : decode cX10_fairs 109 = .ok (.aload_n 0, 1) := by decide +kernel
theorem dX10_fairs_110 : decode cX10_fairs 110 = .ok (.getfield 34, 3) := by decide +kernel
theorem dX10_fairs_113 : decode cX10_fairs 113 = .ok (.bipush 12, 2) := by decide +kernel
theorem dX10_fairs_115 : decode cX10_fairs 115 = .ok (.iaload, 1) := by decide +kernel
theorem dX10_fairs_116 : decode cX10_fairs 116 = .ok (.invokestatic 228, 3) := by decide +kernel
theorem dX10_fairs_119 : decode cX10_fairs 119 = .ok (.iadd, 1) := by decide +kernel
theorem dX10_fairs_120 : decode cX10_fairs 120 = .ok (.istore_n 2, 1) := by decide +kernel
theorem dX10_fairs_121 : decode cX10_fairs 121 = .ok (.iinc 3 1, 3) := by decide +kernel
theorem dX10_fairs_124 : decode cX10_fairs 124 = .ok (.goto (-87), 3) := by decide +kernel
theorem dX10_fairs_127 : decode cX10_fairs 127 = .ok (.iload_n 2, 1) := by decide +kernel
theorem dX10_fairs_128 : decode cX10_fairs 128 = .ok (.ireturn, 1) := by decide +kernel
theorem dX10_keep_0 : decode cX10_keep 0 = .ok (.aload_n 0, 1) := by decide +kernel
theorem dX10_keep_1 : decode cX10_keep 1 = .ok (.iconst 0, 1) := by decide +kernel
theorem dX10_keep_2 : decode cX10_keep 2 = .ok (.putfield 71, 3) := by decide +kernel
theorem dX10_keep_5 : decode cX10_keep 5 = .ok (.iload_n 1, 1) := by decide +kernel
theorem dX10_keep_6 : decode cX10_keep 6 = .ok (.i2l, 1) := by decide +kernel
theorem dX10_keep_7 : decode cX10_keep 7 = .ok (.lconst 0, 1) := by decide +kernel
theorem dX10_keep_8 : decode cX10_keep 8 = .ok (.lconst 1, 1) := by decide +kernel
theorem dX10_keep_9 : decode cX10_keep 9 = .ok (.invokestatic 78, 3) := by decide +kernel
theorem dX10_keep_12 : decode cX10_keep 12 = .ok (.ifCond .ne 5, 3) := by decide +kernel
theorem dX10_keep_15 : decode cX10_keep 15 = .ok (.iconst (-1), 1) := by decide +kernel
theorem dX10_keep_16 : decode cX10_keep 16 = .ok (.ireturn, 1) := by decide +kernel
theorem dX10_keep_17 : decode cX10_keep 17 = .ok (.aload_n 0, 1) := by decide +kernel
theorem dX10_keep_18 : decode cX10_keep 18 = .ok (.getfield 46, 3) := by decide +kernel
theorem dX10_keep_21 : decode cX10_keep 21 = .ok (.iload_n 1, 1) := by decide +kernel
theorem dX10_keep_22 : decode cX10_keep 22 = .ok (.iconst 1, 1) := by decide +kernel
theorem dX10_keep_23 : decode cX10_keep 23 = .ok (.bastore, 1) := by decide +kernel
theorem dX10_keep_24 : decode cX10_keep 24 = .ok (.iconst 0, 1) := by decide +kernel
theorem dX10_keep_25 : decode cX10_keep 25 = .ok (.istore_n 2, 1) := by decide +kernel
theorem dX10_keep_26 : decode cX10_keep 26 = .ok (.iload_n 2, 1) := by decide +kernel
theorem dX10_keep_27 : decode cX10_keep 27 = .ok (.bipush 15, 2) := by decide +kernel
theorem dX10_keep_29 : decode cX10_keep 29 = .ok (.if_icmp .ge 26, 3) := by decide +kernel
theorem dX10_keep_32 : decode cX10_keep 32 = .ok (.aload_n 0, 1) := by decide +kernel
theorem dX10_keep_33 : decode cX10_keep 33 = .ok (.getfield 43, 3) := by decide +kernel
theorem dX10_keep_36 : decode cX10_keep 36 = .ok (.bipush 15, 2) := by decide +kernel
theorem dX10_keep_38 : decode cX10_keep 38 = .ok (.iload_n 1, 1) := by decide +kernel
theorem dX10_keep_39 : decode cX10_keep 39 = .ok (.imul, 1) := by decide +kernel
theorem dX10_keep_40 : decode cX10_keep 40 = .ok (.iload_n 2, 1) := by decide +kernel
theorem dX10_keep_41 : decode cX10_keep 41 = .ok (.iadd, 1) := by decide +kernel
theorem dX10_keep_42 : decode cX10_keep 42 = .ok (.aload_n 0, 1) := by decide +kernel
theorem dX10_keep_43 : decode cX10_keep 43 = .ok (.getfield 31, 3) := by decide +kernel
theorem dX10_keep_46 : decode cX10_keep 46 = .ok (.iload_n 2, 1) := by decide +kernel
theorem dX10_keep_47 : decode cX10_keep 47 = .ok (.iaload, 1) := by decide +kernel
theorem dX10_keep_48 : decode cX10_keep 48 = .ok (.iastore, 1) := by decide +kernel
theorem dX10_keep_49 : decode cX10_keep 49 = .ok (.iinc 2 1, 3) := by decide +kernel
theorem dX10_keep_52 : decode cX10_keep 52 = .ok (.goto (-26), 3) := by decide +kernel
theorem dX10_keep_55 : decode cX10_keep 55 = .ok (.aload_n 0, 1) := by decide +kernel
theorem dX10_keep_56 : decode cX10_keep 56 = .ok (.getfield 31, 3) := by decide +kernel
theorem dX10_keep_59 : decode cX10_keep 59 = .ok (.bipush 12, 2) := by decide +kernel
theorem dX10_keep_61 : decode cX10_keep 61 = .ok (.iaload, 1) := by decide +kernel
theorem dX10_keep_62 : decode cX10_keep 62 = .ok (.invokestatic 228, 3) := by decide +kernel
theorem dX10_keep_65 : decode cX10_keep 65 = .ok (.ireturn, 1) := by decide +kernel
theorem dX10_again_0 : decode cX10_again 0 = .ok (.aload_n 0, 1) := by decide +kernel
theorem dX10_again_1 : decode cX10_again 1 = .ok (.iconst 0, 1) := by decide +kernel
theorem dX10_again_2 : decode cX10_again 2 = .ok (.putfield 71, 3) := by decide +kernel
theorem dX10_again_5 : decode cX10_again 5 = .ok (.iload_n 1, 1) := by decide +kernel
theorem dX10_again_6 : decode cX10_again 6 = .ok (.i2l, 1) := by decide +kernel
theorem dX10_again_7 : decode cX10_again 7 = .ok (.lconst 0, 1) := by decide +kernel
theorem dX10_again_8 : decode cX10_again 8 = .ok (.lconst 1, 1) := by decide +kernel
theorem dX10_again_9 : decode cX10_again 9 = .ok (.invokestatic 78, 3) := by decide +kernel
theorem dX10_again_12 : decode cX10_again 12 = .ok (.ifCond .ne 5, 3) := by decide +kernel
theorem dX10_again_15 : decode cX10_again 15 = .ok (.iconst (-1), 1) := by decide +kernel
theorem dX10_again_16 : decode cX10_again 16 = .ok (.ireturn, 1) := by decide +kernel
theorem dX10_again_17 : decode cX10_again 17 = .ok (.aload_n 0, 1) := by decide +kernel
theorem dX10_again_18 : decode cX10_again 18 = .ok (.getfield 46, 3) := by decide +kernel
theorem dX10_again_21 : decode cX10_again 21 = .ok (.iload_n 1, 1) := by decide +kernel
theorem dX10_again_22 : decode cX10_again 22 = .ok (.baload, 1) := by decide +kernel
theorem dX10_again_23 : decode cX10_again 23 = .ok (.ifCond .ne 6, 3) := by decide +kernel
theorem dX10_again_26 : decode cX10_again 26 = .ok (.bipush (-3), 2) := by decide +kernel
theorem dX10_again_28 : decode cX10_again 28 = .ok (.ireturn, 1) := by decide +kernel
theorem dX10_again_29 : decode cX10_again 29 = .ok (.iconst 0, 1) := by decide +kernel
theorem dX10_again_30 : decode cX10_again 30 = .ok (.istore_n 2, 1) := by decide +kernel
theorem dX10_again_31 : decode cX10_again 31 = .ok (.iload_n 2, 1) := by decide +kernel
theorem dX10_again_32 : decode cX10_again 32 = .ok (.bipush 15, 2) := by decide +kernel
theorem dX10_again_34 : decode cX10_again 34 = .ok (.if_icmp .ge 26, 3) := by decide +kernel
theorem dX10_again_37 : decode cX10_again 37 = .ok (.aload_n 0, 1) := by decide +kernel
theorem dX10_again_38 : decode cX10_again 38 = .ok (.getfield 31, 3) := by decide +kernel
theorem dX10_again_41 : decode cX10_again 41 = .ok (.iload_n 2, 1) := by decide +kernel
theorem dX10_again_42 : decode cX10_again 42 = .ok (.aload_n 0, 1) := by decide +kernel
theorem dX10_again_43 : decode cX10_again 43 = .ok (.getfield 43, 3) := by decide +kernel
theorem dX10_again_46 : decode cX10_again 46 = .ok (.bipush 15, 2) := by decide +kernel
theorem dX10_again_48 : decode cX10_again 48 = .ok (.iload_n 1, 1) := by decide +kernel
theorem dX10_again_49 : decode cX10_again 49 = .ok (.imul, 1) := by decide +kernel
theorem dX10_again_50 : decode cX10_again 50 = .ok (.iload_n 2, 1) := by decide +kernel
theorem dX10_again_51 : decode cX10_again 51 = .ok (.iadd, 1) := by decide +kernel
theorem dX10_again_52 : decode cX10_again 52 = .ok (.iaload, 1) := by decide +kernel
theorem dX10_again_53 : decode cX10_again 53 = .ok (.iastore, 1) := by decide +kernel
theorem dX10_again_54 : decode cX10_again 54 = .ok (.iinc 2 1, 3) := by decide +kernel
theorem dX10_again_57 : decode cX10_again 57 = .ok (.goto (-26), 3) := by decide +kernel
theorem dX10_again_60 : decode cX10_again 60 = .ok (.aload_n 0, 1) := by decide +kernel
theorem dX10_again_61 : decode cX10_again 61 = .ok (.iconst 0, 1) := by decide +kernel
theorem dX10_again_62 : decode cX10_again 62 = .ok (.putfield 141, 3) := by decide +kernel
theorem dX10_again_65 : decode cX10_again 65 = .ok (.aload_n 0, 1) := by decide +kernel
theorem dX10_again_66 : decode cX10_again 66 = .ok (.getfield 31, 3) := by decide +kernel
theorem dX10_again_69 : decode cX10_again 69 = .ok (.bipush 12, 2) := by decide +kernel
theorem dX10_again_71 : decode cX10_again 71 = .ok (.iaload, 1) := by decide +kernel
theorem dX10_again_72 : decode cX10_again 72 = .ok (.invokestatic 228, 3) := by decide +kernel
theorem dX10_again_75 : decode cX10_again 75 = .ok (.ireturn, 1) := by decide +kernel
theorem dJ6_bitCount_0f7a4_0 : decode cJ6_bitCount_0f7a4 0 = .ok (.iload_n 0, 1) := by decide +kernel
theorem dJ6_bitCount_0f7a4_1 : decode cJ6_bitCount_0f7a4 1 = .ok (.iload_n 0, 1) := by decide +kernel
theorem dJ6_bitCount_0f7a4_2 : decode cJ6_bitCount_0f7a4 2 = .ok (.iconst 1, 1) := by decide +kernel
theorem dJ6_bitCount_0f7a4_3 : decode cJ6_bitCount_0f7a4 3 = .ok (.iushr, 1) := by decide +kernel
theorem dJ6_bitCount_0f7a4_4 : decode cJ6_bitCount_0f7a4 4 = .ok (.ldc_w 265, 3) := by decide +kernel
theorem dJ6_bitCount_0f7a4_7 : decode cJ6_bitCount_0f7a4 7 = .ok (.iand, 1) := by decide +kernel
theorem dJ6_bitCount_0f7a4_8 : decode cJ6_bitCount_0f7a4 8 = .ok (.isub, 1) := by decide +kernel
theorem dJ6_bitCount_0f7a4_9 : decode cJ6_bitCount_0f7a4 9 = .ok (.istore_n 0, 1) := by decide +kernel
theorem dJ6_bitCount_0f7a4_10 : decode cJ6_bitCount_0f7a4 10 = .ok (.iload_n 0, 1) := by decide +kernel
theorem dJ6_bitCount_0f7a4_11 : decode cJ6_bitCount_0f7a4 11 = .ok (.ldc_w 266, 3) := by decide +kernel
theorem dJ6_bitCount_0f7a4_14 : decode cJ6_bitCount_0f7a4 14 = .ok (.iand, 1) := by decide +kernel
theorem dJ6_bitCount_0f7a4_15 : decode cJ6_bitCount_0f7a4 15 = .ok (.iload_n 0, 1) := by decide +kernel
theorem dJ6_bitCount_0f7a4_16 : decode cJ6_bitCount_0f7a4 16 = .ok (.iconst 2, 1) := by decide +kernel
theorem dJ6_bitCount_0f7a4_17 : decode cJ6_bitCount_0f7a4 17 = .ok (.iushr, 1) := by decide +kernel
theorem dJ6_bitCount_0f7a4_18 : decode cJ6_bitCount_0f7a4 18 = .ok (.ldc_w 266, 3) := by decide +kernel
theorem dJ6_bitCount_0f7a4_21 : decode cJ6_bitCount_0f7a4 21 = .ok (.iand, 1) := by decide +kernel
theorem dJ6_bitCount_0f7a4_22 : decode cJ6_bitCount_0f7a4 22 = .ok (.iadd, 1) := by decide +kernel
theorem dJ6_bitCount_0f7a4_23 : decode cJ6_bitCount_0f7a4 23 = .ok (.istore_n 0, 1) := by decide +kernel
theorem dJ6_bitCount_0f7a4_24 : decode cJ6_bitCount_0f7a4 24 = .ok (.iload_n 0, 1) := by decide +kernel
theorem dJ6_bitCount_0f7a4_25 : decode cJ6_bitCount_0f7a4 25 = .ok (.iload_n 0, 1) := by decide +kernel
theorem dJ6_bitCount_0f7a4_26 : decode cJ6_bitCount_0f7a4 26 = .ok (.iconst 4, 1) := by decide +kernel
theorem dJ6_bitCount_0f7a4_27 : decode cJ6_bitCount_0f7a4 27 = .ok (.iushr, 1) := by decide +kernel
theorem dJ6_bitCount_0f7a4_28 : decode cJ6_bitCount_0f7a4 28 = .ok (.iadd, 1) := by decide +kernel
theorem dJ6_bitCount_0f7a4_29 : decode cJ6_bitCount_0f7a4 29 = .ok (.ldc_w 267, 3) := by decide +kernel
theorem dJ6_bitCount_0f7a4_32 : decode cJ6_bitCount_0f7a4 32 = .ok (.iand, 1) := by decide +kernel
theorem dJ6_bitCount_0f7a4_33 : decode cJ6_bitCount_0f7a4 33 = .ok (.istore_n 0, 1) := by decide +kernel
theorem dJ6_bitCount_0f7a4_34 : decode cJ6_bitCount_0f7a4 34 = .ok (.iload_n 0, 1) := by decide +kernel
theorem dJ6_bitCount_0f7a4_35 : decode cJ6_bitCount_0f7a4 35 = .ok (.iload_n 0, 1) := by decide +kernel
theorem dJ6_bitCount_0f7a4_36 : decode cJ6_bitCount_0f7a4 36 = .ok (.bipush 8, 2) := by decide +kernel
theorem dJ6_bitCount_0f7a4_38 : decode cJ6_bitCount_0f7a4 38 = .ok (.iushr, 1) := by decide +kernel
theorem dJ6_bitCount_0f7a4_39 : decode cJ6_bitCount_0f7a4 39 = .ok (.iadd, 1) := by decide +kernel
theorem dJ6_bitCount_0f7a4_40 : decode cJ6_bitCount_0f7a4 40 = .ok (.istore_n 0, 1) := by decide +kernel
theorem dJ6_bitCount_0f7a4_41 : decode cJ6_bitCount_0f7a4 41 = .ok (.iload_n 0, 1) := by decide +kernel
theorem dJ6_bitCount_0f7a4_42 : decode cJ6_bitCount_0f7a4 42 = .ok (.iload_n 0, 1) := by decide +kernel
theorem dJ6_bitCount_0f7a4_43 : decode cJ6_bitCount_0f7a4 43 = .ok (.bipush 16, 2) := by decide +kernel
theorem dJ6_bitCount_0f7a4_45 : decode cJ6_bitCount_0f7a4 45 = .ok (.iushr, 1) := by decide +kernel
theorem dJ6_bitCount_0f7a4_46 : decode cJ6_bitCount_0f7a4 46 = .ok (.iadd, 1) := by decide +kernel
theorem dJ6_bitCount_0f7a4_47 : decode cJ6_bitCount_0f7a4 47 = .ok (.istore_n 0, 1) := by decide +kernel
theorem dJ6_bitCount_0f7a4_48 : decode cJ6_bitCount_0f7a4 48 = .ok (.iload_n 0, 1) := by decide +kernel
theorem dJ6_bitCount_0f7a4_49 : decode cJ6_bitCount_0f7a4 49 = .ok (.bipush 63, 2) := by decide +kernel
theorem dJ6_bitCount_0f7a4_51 : decode cJ6_bitCount_0f7a4 51 = .ok (.iand, 1) := by decide +kernel
theorem dJ6_bitCount_0f7a4_52 : decode cJ6_bitCount_0f7a4 52 = .ok (.ireturn, 1) := by decide +kernel
theorem dJ9_max_7cf53_0 : decode cJ9_max_7cf53 0 = .ok (.iload_n 0, 1) := by decide +kernel
theorem dJ9_max_7cf53_1 : decode cJ9_max_7cf53 1 = .ok (.iload_n 1, 1) := by decide +kernel
theorem dJ9_max_7cf53_2 : decode cJ9_max_7cf53 2 = .ok (.if_icmp .lt 7, 3) := by decide +kernel
theorem dJ9_max_7cf53_5 : decode cJ9_max_7cf53 5 = .ok (.iload_n 0, 1) := by decide +kernel
theorem dJ9_max_7cf53_6 : decode cJ9_max_7cf53 6 = .ok (.goto 4, 3) := by decide +kernel
theorem dJ9_max_7cf53_9 : decode cJ9_max_7cf53 9 = .ok (.iload_n 1, 1) := by decide +kernel
theorem dJ9_max_7cf53_10 : decode cJ9_max_7cf53 10 = .ok (.ireturn, 1) := by decide +kernel
theorem dJ9_min_7cf53_0 : decode cJ9_min_7cf53 0 = .ok (.iload_n 0, 1) := by decide +kernel
theorem dJ9_min_7cf53_1 : decode cJ9_min_7cf53 1 = .ok (.iload_n 1, 1) := by decide +kernel
theorem dJ9_min_7cf53_2 : decode cJ9_min_7cf53 2 = .ok (.if_icmp .gt 7, 3) := by decide +kernel
theorem dJ9_min_7cf53_5 : decode cJ9_min_7cf53 5 = .ok (.iload_n 0, 1) := by decide +kernel
theorem dJ9_min_7cf53_6 : decode cJ9_min_7cf53 6 = .ok (.goto 4, 3) := by decide +kernel
theorem dJ9_min_7cf53_9 : decode cJ9_min_7cf53 9 = .ok (.iload_n 1, 1) := by decide +kernel
theorem dJ9_min_7cf53_10 : decode cJ9_min_7cf53 10 = .ok (.ireturn, 1) := by decide +kernel
theorem dL_law_0 : decode cL_law 0 = .ok (.new 7, 3) := by decide +kernel
theorem dL_law_3 : decode cL_law 3 = .ok (.dup, 1) := by decide +kernel
theorem dL_law_4 : decode cL_law 4 = .ok (.invokespecial 9, 3) := by decide +kernel
theorem dL_law_7 : decode cL_law 7 = .ok (.astore_n 1, 1) := by decide +kernel
theorem dL_law_8 : decode cL_law 8 = .ok (.new 10, 3) := by decide +kernel
theorem dL_law_11 : decode cL_law 11 = .ok (.dup, 1) := by decide +kernel
theorem dL_law_12 : decode cL_law 12 = .ok (.invokespecial 12, 3) := by decide +kernel
theorem dL_law_15 : decode cL_law 15 = .ok (.astore_n 2, 1) := by decide +kernel
theorem dL_law_16 : decode cL_law 16 = .ok (.iconst 0, 1) := by decide +kernel
theorem dL_law_17 : decode cL_law 17 = .ok (.istore_n 3, 1) := by decide +kernel
theorem dL_law_18 : decode cL_law 18 = .ok (.iload_n 3, 1) := by decide +kernel
theorem dL_law_19 : decode cL_law 19 = .ok (.aload_n 0, 1) := by decide +kernel
theorem dL_law_20 : decode cL_law 20 = .ok (.arraylength, 1) := by decide +kernel
theorem dL_law_21 : decode cL_law 21 = .ok (.bipush 7, 2) := by decide +kernel
theorem dL_law_23 : decode cL_law 23 = .ok (.isub, 1) := by decide +kernel
theorem dL_law_24 : decode cL_law 24 = .ok (.if_icmp .gt 1067, 3) := by decide +kernel
theorem dL_law_27 : decode cL_law 27 = .ok (.aload_n 0, 1) := by decide +kernel
theorem dL_law_28 : decode cL_law 28 = .ok (.iload_n 3, 1) := by decide +kernel
theorem dL_law_29 : decode cL_law 29 = .ok (.iaload, 1) := by decide +kernel
theorem dL_law_30 : decode cL_law 30 = .ok (.bipush 31, 2) := by decide +kernel
theorem dL_law_32 : decode cL_law 32 = .ok (.iand, 1) := by decide +kernel
theorem dL_law_33 : decode cL_law 33 = .ok (.tableswitch 1052 0 29 #[135, 158, 171, 184, 197, 220, 253, 286, 329, 372, 395, 418, 431, 454, 467, 510, 559, 592, 631, 654, 687, 736, 779, 792, 815, 838, 929, 983, 1006, 1029], 135) := by decide +kernel
theorem dL_law_168 : decode cL_law 168 = .ok (.aload_n 1, 1) := by decide +kernel
theorem dL_law_169 : decode cL_law 169 = .ok (.aload_n 0, 1) := by decide +kernel
theorem dL_law_170 : decode cL_law 170 = .ok (.iload_n 3, 1) := by decide +kernel
theorem dL_law_171 : decode cL_law 171 = .ok (.iconst 1, 1) := by decide +kernel
theorem dL_law_172 : decode cL_law 172 = .ok (.iadd, 1) := by decide +kernel
theorem dL_law_173 : decode cL_law 173 = .ok (.iaload, 1) := by decide +kernel
theorem dL_law_174 : decode cL_law 174 = .ok (.invokevirtual 13, 3) := by decide +kernel
theorem dL_law_177 : decode cL_law 177 = .ok (.aload_n 2, 1) := by decide +kernel
theorem dL_law_178 : decode cL_law 178 = .ok (.aload_n 0, 1) := by decide +kernel
theorem dL_law_179 : decode cL_law 179 = .ok (.iload_n 3, 1) := by decide +kernel
theorem dL_law_180 : decode cL_law 180 = .ok (.iconst 1, 1) := by decide +kernel
theorem dL_law_181 : decode cL_law 181 = .ok (.iadd, 1) := by decide +kernel
theorem dL_law_182 : decode cL_law 182 = .ok (.iaload, 1) := by decide +kernel
theorem dL_law_183 : decode cL_law 183 = .ok (.invokevirtual 17, 3) := by decide +kernel
theorem dL_law_186 : decode cL_law 186 = .ok (.if_icmp .eq 899, 3) := by decide +kernel
theorem dL_law_189 : decode cL_law 189 = .ok (.iconst 0, 1) := by decide +kernel
theorem dL_law_190 : decode cL_law 190 = .ok (.ireturn, 1) := by decide +kernel
theorem dL_law_191 : decode cL_law 191 = .ok (.aload_n 1, 1) := by decide +kernel
theorem dL_law_192 : decode cL_law 192 = .ok (.invokevirtual 18, 3) := by decide +kernel
theorem dL_law_195 : decode cL_law 195 = .ok (.aload_n 2, 1) := by decide +kernel
theorem dL_law_196 : decode cL_law 196 = .ok (.invokevirtual 22, 3) := by decide +kernel
theorem dL_law_199 : decode cL_law 199 = .ok (.if_icmp .eq 886, 3) := by decide +kernel
theorem dL_law_202 : decode cL_law 202 = .ok (.iconst 0, 1) := by decide +kernel
theorem dL_law_203 : decode cL_law 203 = .ok (.ireturn, 1) := by decide +kernel
theorem dL_law_204 : decode cL_law 204 = .ok (.aload_n 1, 1) := by decide +kernel
theorem dL_law_205 : decode cL_law 205 = .ok (.invokevirtual 23, 3) := by decide +kernel
theorem dL_law_208 : decode cL_law 208 = .ok (.aload_n 2, 1) := by decide +kernel
theorem dL_law_209 : decode cL_law 209 = .ok (.invokevirtual 26, 3) := by decide +kernel
theorem dL_law_212 : decode cL_law 212 = .ok (.if_icmp .eq 873, 3) := by decide +kernel
theorem dL_law_215 : decode cL_law 215 = .ok (.iconst 0, 1) := by decide +kernel
theorem dL_law_216 : decode cL_law 216 = .ok (.ireturn, 1) := by decide +kernel
theorem dL_law_217 : decode cL_law 217 = .ok (.aload_n 1, 1) := by decide +kernel
theorem dL_law_218 : decode cL_law 218 = .ok (.invokevirtual 27, 3) := by decide +kernel
theorem dL_law_221 : decode cL_law 221 = .ok (.aload_n 2, 1) := by decide +kernel
theorem dL_law_222 : decode cL_law 222 = .ok (.invokevirtual 30, 3) := by decide +kernel
theorem dL_law_225 : decode cL_law 225 = .ok (.if_icmp .eq 860, 3) := by decide +kernel
theorem dL_law_228 : decode cL_law 228 = .ok (.iconst 0, 1) := by decide +kernel
theorem dL_law_229 : decode cL_law 229 = .ok (.ireturn, 1) := by decide +kernel
theorem dL_law_230 : decode cL_law 230 = .ok (.aload_n 1, 1) := by decide +kernel
theorem dL_law_231 : decode cL_law 231 = .ok (.aload_n 0, 1) := by decide +kernel
theorem dL_law_232 : decode cL_law 232 = .ok (.iload_n 3, 1) := by decide +kernel
theorem dL_law_233 : decode cL_law 233 = .ok (.iconst 1, 1) := by decide +kernel
theorem dL_law_234 : decode cL_law 234 = .ok (.iadd, 1) := by decide +kernel
theorem dL_law_235 : decode cL_law 235 = .ok (.iaload, 1) := by decide +kernel
theorem dL_law_236 : decode cL_law 236 = .ok (.invokevirtual 31, 3) := by decide +kernel
theorem dL_law_239 : decode cL_law 239 = .ok (.aload_n 2, 1) := by decide +kernel
theorem dL_law_240 : decode cL_law 240 = .ok (.aload_n 0, 1) := by decide +kernel
theorem dL_law_241 : decode cL_law 241 = .ok (.iload_n 3, 1) := by decide +kernel
theorem dL_law_242 : decode cL_law 242 = .ok (.iconst 1, 1) := by decide +kernel
theorem dL_law_243 : decode cL_law 243 = .ok (.iadd, 1) := by decide +kernel
theorem dL_law_244 : decode cL_law 244 = .ok (.iaload, 1) := by decide +kernel
theorem dL_law_245 : decode cL_law 245 = .ok (.invokevirtual 34, 3) := by decide +kernel
theorem dL_law_248 : decode cL_law 248 = .ok (.if_icmp .eq 837, 3) := by decide +kernel
theorem dL_law_251 : decode cL_law 251 = .ok (.iconst 0, 1) := by decide +kernel
theorem dL_law_252 : decode cL_law 252 = .ok (.ireturn, 1) := by decide +kernel
theorem dL_law_253 : decode cL_law 253 = .ok (.aload_n 1, 1) := by decide +kernel
theorem dL_law_254 : decode cL_law 254 = .ok (.aload_n 0, 1) := by decide +kernel
theorem dL_law_255 : decode cL_law 255 = .ok (.iload_n 3, 1) := by decide +kernel
theorem dL_law_256 : decode cL_law 256 = .ok (.iconst 1, 1) := by decide +kernel
theorem dL_law_257 : decode cL_law 257 = .ok (.iadd, 1) := by decide +kernel
theorem dL_law_258 : decode cL_law 258 = .ok (.iaload, 1) := by decide +kernel
theorem dL_law_259 : decode cL_law 259 = .ok (.aload_n 0, 1) := by decide +kernel
theorem dL_law_260 : decode cL_law 260 = .ok (.iload_n 3, 1) := by decide +kernel
theorem dL_law_261 : decode cL_law 261 = .ok (.iconst 2, 1) := by decide +kernel
theorem dL_law_262 : decode cL_law 262 = .ok (.iadd, 1) := by decide +kernel
theorem dL_law_263 : decode cL_law 263 = .ok (.iaload, 1) := by decide +kernel
theorem dL_law_264 : decode cL_law 264 = .ok (.invokevirtual 35, 3) := by decide +kernel
theorem dL_law_267 : decode cL_law 267 = .ok (.aload_n 2, 1) := by decide +kernel
theorem dL_law_268 : decode cL_law 268 = .ok (.aload_n 0, 1) := by decide +kernel
theorem dL_law_269 : decode cL_law 269 = .ok (.iload_n 3, 1) := by decide +kernel
theorem dL_law_270 : decode cL_law 270 = .ok (.iconst 1, 1) := by decide +kernel
theorem dL_law_271 : decode cL_law 271 = .ok (.iadd, 1) := by decide +kernel
theorem dL_law_272 : decode cL_law 272 = .ok (.iaload, 1) := by decide +kernel
theorem dL_law_273 : decode cL_law 273 = .ok (.aload_n 0, 1) := by decide +kernel
theorem dL_law_274 : decode cL_law 274 = .ok (.iload_n 3, 1) := by decide +kernel
theorem dL_law_275 : decode cL_law 275 = .ok (.iconst 2, 1) := by decide +kernel
theorem dL_law_276 : decode cL_law 276 = .ok (.iadd, 1) := by decide +kernel
theorem dL_law_277 : decode cL_law 277 = .ok (.iaload, 1) := by decide +kernel
theorem dL_law_278 : decode cL_law 278 = .ok (.invokevirtual 39, 3) := by decide +kernel
theorem dL_law_281 : decode cL_law 281 = .ok (.if_icmp .eq 804, 3) := by decide +kernel
theorem dL_law_284 : decode cL_law 284 = .ok (.iconst 0, 1) := by decide +kernel
theorem dL_law_285 : decode cL_law 285 = .ok (.ireturn, 1) := by decide +kernel
theorem dL_law_286 : decode cL_law 286 = .ok (.aload_n 1, 1) := by decide +kernel
theorem dL_law_287 : decode cL_law 287 = .ok (.aload_n 0, 1) := by decide +kernel
theorem dL_law_288 : decode cL_law 288 = .ok (.iload_n 3, 1) := by decide +kernel
theorem dL_law_289 : decode cL_law 289 = .ok (.iconst 1, 1) := by decide +kernel
theorem dL_law_290 : decode cL_law 290 = .ok (.iadd, 1) := by decide +kernel
theorem dL_law_291 : decode cL_law 291 = .ok (.iaload, 1) := by decide +kernel
theorem dL_law_292 : decode cL_law 292 = .ok (.aload_n 0, 1) := by decide +kernel
theorem dL_law_293 : decode cL_law 293 = .ok (.iload_n 3, 1) := by decide +kernel
theorem dL_law_294 : decode cL_law 294 = .ok (.iconst 2, 1) := by decide +kernel
theorem dL_law_295 : decode cL_law 295 = .ok (.iadd, 1) := by decide +kernel
theorem dL_law_296 : decode cL_law 296 = .ok (.iaload, 1) := by decide +kernel
theorem dL_law_297 : decode cL_law 297 = .ok (.invokevirtual 40, 3) := by decide +kernel
theorem dL_law_300 : decode cL_law 300 = .ok (.aload_n 2, 1) := by decide +kernel
theorem dL_law_301 : decode cL_law 301 = .ok (.aload_n 0, 1) := by decide +kernel
theorem dL_law_302 : decode cL_law 302 = .ok (.iload_n 3, 1) := by decide +kernel
theorem dL_law_303 : decode cL_law 303 = .ok (.iconst 1, 1) := by decide +kernel
theorem dL_law_304 : decode cL_law 304 = .ok (.iadd, 1) := by decide +kernel
theorem dL_law_305 : decode cL_law 305 = .ok (.iaload, 1) := by decide +kernel
theorem dL_law_306 : decode cL_law 306 = .ok (.aload_n 0, 1) := by decide +kernel
theorem dL_law_307 : decode cL_law 307 = .ok (.iload_n 3, 1) := by decide +kernel
theorem dL_law_308 : decode cL_law 308 = .ok (.iconst 2, 1) := by decide +kernel
theorem dL_law_309 : decode cL_law 309 = .ok (.iadd, 1) := by decide +kernel
theorem dL_law_310 : decode cL_law 310 = .ok (.iaload, 1) := by decide +kernel
theorem dL_law_311 : decode cL_law 311 = .ok (.invokevirtual 43, 3) := by decide +kernel
theorem dL_law_314 : decode cL_law 314 = .ok (.if_icmp .eq 771, 3) := by decide +kernel
theorem dL_law_317 : decode cL_law 317 = .ok (.iconst 0, 1) := by decide +kernel
theorem dL_law_318 : decode cL_law 318 = .ok (.ireturn, 1) := by decide +kernel
theorem dL_law_319 : decode cL_law 319 = .ok (.aload_n 1, 1) := by decide +kernel
theorem dL_law_320 : decode cL_law 320 = .ok (.aload_n 0, 1) := by decide +kernel
theorem dL_law_321 : decode cL_law 321 = .ok (.iload_n 3, 1) := by decide +kernel
theorem dL_law_322 : decode cL_law 322 = .ok (.iconst 1, 1) := by decide +kernel
theorem dL_law_323 : decode cL_law 323 = .ok (.iadd, 1) := by decide +kernel
theorem dL_law_324 : decode cL_law 324 = .ok (.iaload, 1) := by decide +kernel
theorem dL_law_325 : decode cL_law 325 = .ok (.aload_n 0, 1) := by decide +kernel
theorem dL_law_326 : decode cL_law 326 = .ok (.iload_n 3, 1) := by decide +kernel
theorem dL_law_327 : decode cL_law 327 = .ok (.iconst 2, 1) := by decide +kernel
theorem dL_law_328 : decode cL_law 328 = .ok (.iadd, 1) := by decide +kernel
theorem dL_law_329 : decode cL_law 329 = .ok (.iaload, 1) := by decide +kernel
theorem dL_law_330 : decode cL_law 330 = .ok (.aload_n 0, 1) := by decide +kernel
theorem dL_law_331 : decode cL_law 331 = .ok (.iload_n 3, 1) := by decide +kernel
theorem dL_law_332 : decode cL_law 332 = .ok (.iconst 3, 1) := by decide +kernel
theorem dL_law_333 : decode cL_law 333 = .ok (.iadd, 1) := by decide +kernel
theorem dL_law_334 : decode cL_law 334 = .ok (.iaload, 1) := by decide +kernel
theorem dL_law_335 : decode cL_law 335 = .ok (.invokevirtual 44, 3) := by decide +kernel
theorem dL_law_338 : decode cL_law 338 = .ok (.aload_n 2, 1) := by decide +kernel
theorem dL_law_339 : decode cL_law 339 = .ok (.aload_n 0, 1) := by decide +kernel
theorem dL_law_340 : decode cL_law 340 = .ok (.iload_n 3, 1) := by decide +kernel
theorem dL_law_341 : decode cL_law 341 = .ok (.iconst 1, 1) := by decide +kernel
theorem dL_law_342 : decode cL_law 342 = .ok (.iadd, 1) := by decide +kernel
theorem dL_law_343 : decode cL_law 343 = .ok (.iaload, 1) := by decide +kernel
theorem dL_law_344 : decode cL_law 344 = .ok (.aload_n 0, 1) := by decide +kernel
theorem dL_law_345 : decode cL_law 345 = .ok (.iload_n 3, 1) := by decide +kernel
theorem dL_law_346 : decode cL_law 346 = .ok (.iconst 2, 1) := by decide +kernel
theorem dL_law_347 : decode cL_law 347 = .ok (.iadd, 1) := by decide +kernel
theorem dL_law_348 : decode cL_law 348 = .ok (.iaload, 1) := by decide +kernel
theorem dL_law_349 : decode cL_law 349 = .ok (.aload_n 0, 1) := by decide +kernel
theorem dL_law_350 : decode cL_law 350 = .ok (.iload_n 3, 1) := by decide +kernel
theorem dL_law_351 : decode cL_law 351 = .ok (.iconst 3, 1) := by decide +kernel
theorem dL_law_352 : decode cL_law 352 = .ok (.iadd, 1) := by decide +kernel
theorem dL_law_353 : decode cL_law 353 = .ok (.iaload, 1) := by decide +kernel
theorem dL_law_354 : decode cL_law 354 = .ok (.invokevirtual 48, 3) := by decide +kernel
theorem dL_law_357 : decode cL_law 357 = .ok (.if_icmp .eq 728, 3) := by decide +kernel
theorem dL_law_360 : decode cL_law 360 = .ok (.iconst 0, 1) := by decide +kernel
theorem dL_law_361 : decode cL_law 361 = .ok (.ireturn, 1) := by decide +kernel
theorem dL_law_362 : decode cL_law 362 = .ok (.aload_n 1, 1) := by decide +kernel
theorem dL_law_363 : decode cL_law 363 = .ok (.aload_n 0, 1) := by decide +kernel
theorem dL_law_364 : decode cL_law 364 = .ok (.iload_n 3, 1) := by decide +kernel
theorem dL_law_365 : decode cL_law 365 = .ok (.iconst 1, 1) := by decide +kernel
theorem dL_law_366 : decode cL_law 366 = .ok (.iadd, 1) := by decide +kernel
theorem dL_law_367 : decode cL_law 367 = .ok (.iaload, 1) := by decide +kernel
theorem dL_law_368 : decode cL_law 368 = .ok (.aload_n 0, 1) := by decide +kernel
theorem dL_law_369 : decode cL_law 369 = .ok (.iload_n 3, 1) := by decide +kernel
theorem dL_law_370 : decode cL_law 370 = .ok (.iconst 2, 1) := by decide +kernel
theorem dL_law_371 : decode cL_law 371 = .ok (.iadd, 1) := by decide +kernel
theorem dL_law_372 : decode cL_law 372 = .ok (.iaload, 1) := by decide +kernel
theorem dL_law_373 : decode cL_law 373 = .ok (.aload_n 0, 1) := by decide +kernel
theorem dL_law_374 : decode cL_law 374 = .ok (.iload_n 3, 1) := by decide +kernel
theorem dL_law_375 : decode cL_law 375 = .ok (.iconst 3, 1) := by decide +kernel
theorem dL_law_376 : decode cL_law 376 = .ok (.iadd, 1) := by decide +kernel
theorem dL_law_377 : decode cL_law 377 = .ok (.iaload, 1) := by decide +kernel
theorem dL_law_378 : decode cL_law 378 = .ok (.invokevirtual 49, 3) := by decide +kernel
theorem dL_law_381 : decode cL_law 381 = .ok (.aload_n 2, 1) := by decide +kernel
theorem dL_law_382 : decode cL_law 382 = .ok (.aload_n 0, 1) := by decide +kernel
theorem dL_law_383 : decode cL_law 383 = .ok (.iload_n 3, 1) := by decide +kernel
theorem dL_law_384 : decode cL_law 384 = .ok (.iconst 1, 1) := by decide +kernel
theorem dL_law_385 : decode cL_law 385 = .ok (.iadd, 1) := by decide +kernel
theorem dL_law_386 : decode cL_law 386 = .ok (.iaload, 1) := by decide +kernel
theorem dL_law_387 : decode cL_law 387 = .ok (.aload_n 0, 1) := by decide +kernel
theorem dL_law_388 : decode cL_law 388 = .ok (.iload_n 3, 1) := by decide +kernel
theorem dL_law_389 : decode cL_law 389 = .ok (.iconst 2, 1) := by decide +kernel
theorem dL_law_390 : decode cL_law 390 = .ok (.iadd, 1) := by decide +kernel
theorem dL_law_391 : decode cL_law 391 = .ok (.iaload, 1) := by decide +kernel
theorem dL_law_392 : decode cL_law 392 = .ok (.aload_n 0, 1) := by decide +kernel
theorem dL_law_393 : decode cL_law 393 = .ok (.iload_n 3, 1) := by decide +kernel
theorem dL_law_394 : decode cL_law 394 = .ok (.iconst 3, 1) := by decide +kernel
theorem dL_law_395 : decode cL_law 395 = .ok (.iadd, 1) := by decide +kernel
theorem dL_law_396 : decode cL_law 396 = .ok (.iaload, 1) := by decide +kernel
theorem dL_law_397 : decode cL_law 397 = .ok (.invokevirtual 52, 3) := by decide +kernel
theorem dL_law_400 : decode cL_law 400 = .ok (.if_icmp .eq 685, 3) := by decide +kernel
theorem dL_law_403 : decode cL_law 403 = .ok (.iconst 0, 1) := by decide +kernel
theorem dL_law_404 : decode cL_law 404 = .ok (.ireturn, 1) := by decide +kernel
theorem dL_law_405 : decode cL_law 405 = .ok (.aload_n 1, 1) := by decide +kernel
theorem dL_law_406 : decode cL_law 406 = .ok (.aload_n 0, 1) := by decide +kernel
theorem dL_law_407 : decode cL_law 407 = .ok (.iload_n 3, 1) := by decide +kernel
theorem dL_law_408 : decode cL_law 408 = .ok (.iconst 1, 1) := by decide +kernel
theorem dL_law_409 : decode cL_law 409 = .ok (.iadd, 1) := by decide +kernel
theorem dL_law_410 : decode cL_law 410 = .ok (.iaload, 1) := by decide +kernel
theorem dL_law_411 : decode cL_law 411 = .ok (.invokevirtual 53, 3) := by decide +kernel
theorem dL_law_414 : decode cL_law 414 = .ok (.aload_n 2, 1) := by decide +kernel
theorem dL_law_415 : decode cL_law 415 = .ok (.aload_n 0, 1) := by decide +kernel
theorem dL_law_416 : decode cL_law 416 = .ok (.iload_n 3, 1) := by decide +kernel
theorem dL_law_417 : decode cL_law 417 = .ok (.iconst 1, 1) := by decide +kernel
theorem dL_law_418 : decode cL_law 418 = .ok (.iadd, 1) := by decide +kernel
theorem dL_law_419 : decode cL_law 419 = .ok (.iaload, 1) := by decide +kernel
theorem dL_law_420 : decode cL_law 420 = .ok (.invokevirtual 56, 3) := by decide +kernel
theorem dL_law_423 : decode cL_law 423 = .ok (.if_icmp .eq 662, 3) := by decide +kernel
theorem dL_law_426 : decode cL_law 426 = .ok (.iconst 0, 1) := by decide +kernel
theorem dL_law_427 : decode cL_law 427 = .ok (.ireturn, 1) := by decide +kernel
theorem dL_law_428 : decode cL_law 428 = .ok (.aload_n 1, 1) := by decide +kernel
theorem dL_law_429 : decode cL_law 429 = .ok (.aload_n 0, 1) := by decide +kernel
theorem dL_law_430 : decode cL_law 430 = .ok (.iload_n 3, 1) := by decide +kernel
theorem dL_law_431 : decode cL_law 431 = .ok (.iconst 1, 1) := by decide +kernel
theorem dL_law_432 : decode cL_law 432 = .ok (.iadd, 1) := by decide +kernel
theorem dL_law_433 : decode cL_law 433 = .ok (.iaload, 1) := by decide +kernel
theorem dL_law_434 : decode cL_law 434 = .ok (.invokevirtual 57, 3) := by decide +kernel
theorem dL_law_437 : decode cL_law 437 = .ok (.aload_n 2, 1) := by decide +kernel
theorem dL_law_438 : decode cL_law 438 = .ok (.aload_n 0, 1) := by decide +kernel
theorem dL_law_439 : decode cL_law 439 = .ok (.iload_n 3, 1) := by decide +kernel
theorem dL_law_440 : decode cL_law 440 = .ok (.iconst 1, 1) := by decide +kernel
theorem dL_law_441 : decode cL_law 441 = .ok (.iadd, 1) := by decide +kernel
theorem dL_law_442 : decode cL_law 442 = .ok (.iaload, 1) := by decide +kernel
theorem dL_law_443 : decode cL_law 443 = .ok (.invokevirtual 60, 3) := by decide +kernel
theorem dL_law_446 : decode cL_law 446 = .ok (.if_icmp .eq 639, 3) := by decide +kernel
theorem dL_law_449 : decode cL_law 449 = .ok (.iconst 0, 1) := by decide +kernel
theorem dL_law_450 : decode cL_law 450 = .ok (.ireturn, 1) := by decide +kernel
theorem dL_law_451 : decode cL_law 451 = .ok (.aload_n 1, 1) := by decide +kernel
theorem dL_law_452 : decode cL_law 452 = .ok (.invokevirtual 61, 3) := by decide +kernel
theorem dL_law_455 : decode cL_law 455 = .ok (.aload_n 2, 1) := by decide +kernel
theorem dL_law_456 : decode cL_law 456 = .ok (.invokevirtual 64, 3) := by decide +kernel
theorem dL_law_459 : decode cL_law 459 = .ok (.if_icmp .eq 626, 3) := by decide +kernel
theorem dL_law_462 : decode cL_law 462 = .ok (.iconst 0, 1) := by decide +kernel
theorem dL_law_463 : decode cL_law 463 = .ok (.ireturn, 1) := by decide +kernel
theorem dL_law_464 : decode cL_law 464 = .ok (.aload_n 1, 1) := by decide +kernel
theorem dL_law_465 : decode cL_law 465 = .ok (.aload_n 0, 1) := by decide +kernel
theorem dL_law_466 : decode cL_law 466 = .ok (.iload_n 3, 1) := by decide +kernel
theorem dL_law_467 : decode cL_law 467 = .ok (.iconst 1, 1) := by decide +kernel
theorem dL_law_468 : decode cL_law 468 = .ok (.iadd, 1) := by decide +kernel
theorem dL_law_469 : decode cL_law 469 = .ok (.iaload, 1) := by decide +kernel
theorem dL_law_470 : decode cL_law 470 = .ok (.invokevirtual 65, 3) := by decide +kernel
theorem dL_law_473 : decode cL_law 473 = .ok (.aload_n 2, 1) := by decide +kernel
theorem dL_law_474 : decode cL_law 474 = .ok (.aload_n 0, 1) := by decide +kernel
theorem dL_law_475 : decode cL_law 475 = .ok (.iload_n 3, 1) := by decide +kernel
theorem dL_law_476 : decode cL_law 476 = .ok (.iconst 1, 1) := by decide +kernel
theorem dL_law_477 : decode cL_law 477 = .ok (.iadd, 1) := by decide +kernel
theorem dL_law_478 : decode cL_law 478 = .ok (.iaload, 1) := by decide +kernel
theorem dL_law_479 : decode cL_law 479 = .ok (.invokevirtual 68, 3) := by decide +kernel
theorem dL_law_482 : decode cL_law 482 = .ok (.if_icmp .eq 603, 3) := by decide +kernel
theorem dL_law_485 : decode cL_law 485 = .ok (.iconst 0, 1) := by decide +kernel
theorem dL_law_486 : decode cL_law 486 = .ok (.ireturn, 1) := by decide +kernel
theorem dL_law_487 : decode cL_law 487 = .ok (.aload_n 1, 1) := by decide +kernel
theorem dL_law_488 : decode cL_law 488 = .ok (.invokevirtual 69, 3) := by decide +kernel
theorem dL_law_491 : decode cL_law 491 = .ok (.aload_n 2, 1) := by decide +kernel
theorem dL_law_492 : decode cL_law 492 = .ok (.invokevirtual 72, 3) := by decide +kernel
theorem dL_law_495 : decode cL_law 495 = .ok (.if_icmp .eq 590, 3) := by decide +kernel
theorem dL_law_498 : decode cL_law 498 = .ok (.iconst 0, 1) := by decide +kernel
theorem dL_law_499 : decode cL_law 499 = .ok (.ireturn, 1) := by decide +kernel
theorem dL_law_500 : decode cL_law 500 = .ok (.aload_n 1, 1) := by decide +kernel
theorem dL_law_501 : decode cL_law 501 = .ok (.aload_n 0, 1) := by decide +kernel
theorem dL_law_502 : decode cL_law 502 = .ok (.iload_n 3, 1) := by decide +kernel
theorem dL_law_503 : decode cL_law 503 = .ok (.iconst 1, 1) := by decide +kernel
theorem dL_law_504 : decode cL_law 504 = .ok (.iadd, 1) := by decide +kernel
theorem dL_law_505 : decode cL_law 505 = .ok (.iaload, 1) := by decide +kernel
theorem dL_law_506 : decode cL_law 506 = .ok (.aload_n 0, 1) := by decide +kernel
theorem dL_law_507 : decode cL_law 507 = .ok (.iload_n 3, 1) := by decide +kernel
theorem dL_law_508 : decode cL_law 508 = .ok (.iconst 2, 1) := by decide +kernel
theorem dL_law_509 : decode cL_law 509 = .ok (.iadd, 1) := by decide +kernel
theorem dL_law_510 : decode cL_law 510 = .ok (.iaload, 1) := by decide +kernel
theorem dL_law_511 : decode cL_law 511 = .ok (.aload_n 0, 1) := by decide +kernel
theorem dL_law_512 : decode cL_law 512 = .ok (.iload_n 3, 1) := by decide +kernel
theorem dL_law_513 : decode cL_law 513 = .ok (.iconst 3, 1) := by decide +kernel
theorem dL_law_514 : decode cL_law 514 = .ok (.iadd, 1) := by decide +kernel
theorem dL_law_515 : decode cL_law 515 = .ok (.iaload, 1) := by decide +kernel
theorem dL_law_516 : decode cL_law 516 = .ok (.invokevirtual 73, 3) := by decide +kernel
theorem dL_law_519 : decode cL_law 519 = .ok (.aload_n 2, 1) := by decide +kernel
theorem dL_law_520 : decode cL_law 520 = .ok (.aload_n 0, 1) := by decide +kernel
theorem dL_law_521 : decode cL_law 521 = .ok (.iload_n 3, 1) := by decide +kernel
theorem dL_law_522 : decode cL_law 522 = .ok (.iconst 1, 1) := by decide +kernel
theorem dL_law_523 : decode cL_law 523 = .ok (.iadd, 1) := by decide +kernel
theorem dL_law_524 : decode cL_law 524 = .ok (.iaload, 1) := by decide +kernel
theorem dL_law_525 : decode cL_law 525 = .ok (.aload_n 0, 1) := by decide +kernel
theorem dL_law_526 : decode cL_law 526 = .ok (.iload_n 3, 1) := by decide +kernel
theorem dL_law_527 : decode cL_law 527 = .ok (.iconst 2, 1) := by decide +kernel
theorem dL_law_528 : decode cL_law 528 = .ok (.iadd, 1) := by decide +kernel
theorem dL_law_529 : decode cL_law 529 = .ok (.iaload, 1) := by decide +kernel
theorem dL_law_530 : decode cL_law 530 = .ok (.aload_n 0, 1) := by decide +kernel
theorem dL_law_531 : decode cL_law 531 = .ok (.iload_n 3, 1) := by decide +kernel
theorem dL_law_532 : decode cL_law 532 = .ok (.iconst 3, 1) := by decide +kernel
theorem dL_law_533 : decode cL_law 533 = .ok (.iadd, 1) := by decide +kernel
theorem dL_law_534 : decode cL_law 534 = .ok (.iaload, 1) := by decide +kernel
theorem dL_law_535 : decode cL_law 535 = .ok (.invokevirtual 76, 3) := by decide +kernel
theorem dL_law_538 : decode cL_law 538 = .ok (.if_icmp .eq 547, 3) := by decide +kernel
theorem dL_law_541 : decode cL_law 541 = .ok (.iconst 0, 1) := by decide +kernel
theorem dL_law_542 : decode cL_law 542 = .ok (.ireturn, 1) := by decide +kernel
theorem dL_law_543 : decode cL_law 543 = .ok (.aload_n 1, 1) := by decide +kernel
theorem dL_law_544 : decode cL_law 544 = .ok (.aload_n 0, 1) := by decide +kernel
theorem dL_law_545 : decode cL_law 545 = .ok (.iload_n 3, 1) := by decide +kernel
theorem dL_law_546 : decode cL_law 546 = .ok (.iconst 1, 1) := by decide +kernel
theorem dL_law_547 : decode cL_law 547 = .ok (.iadd, 1) := by decide +kernel
theorem dL_law_548 : decode cL_law 548 = .ok (.iaload, 1) := by decide +kernel
theorem dL_law_549 : decode cL_law 549 = .ok (.aload_n 0, 1) := by decide +kernel
theorem dL_law_550 : decode cL_law 550 = .ok (.iload_n 3, 1) := by decide +kernel
theorem dL_law_551 : decode cL_law 551 = .ok (.iconst 2, 1) := by decide +kernel
theorem dL_law_552 : decode cL_law 552 = .ok (.iadd, 1) := by decide +kernel
theorem dL_law_553 : decode cL_law 553 = .ok (.iaload, 1) := by decide +kernel
theorem dL_law_554 : decode cL_law 554 = .ok (.ifCond .eq 7, 3) := by decide +kernel
theorem dL_law_557 : decode cL_law 557 = .ok (.iconst 1, 1) := by decide +kernel
theorem dL_law_558 : decode cL_law 558 = .ok (.goto 4, 3) := by decide +kernel
theorem dL_law_561 : decode cL_law 561 = .ok (.iconst 0, 1) := by decide +kernel
theorem dL_law_562 : decode cL_law 562 = .ok (.invokevirtual 77, 3) := by decide +kernel
theorem dL_law_565 : decode cL_law 565 = .ok (.aload_n 2, 1) := by decide +kernel
theorem dL_law_566 : decode cL_law 566 = .ok (.aload_n 0, 1) := by decide +kernel
theorem dL_law_567 : decode cL_law 567 = .ok (.iload_n 3, 1) := by decide +kernel
theorem dL_law_568 : decode cL_law 568 = .ok (.iconst 1, 1) := by decide +kernel
theorem dL_law_569 : decode cL_law 569 = .ok (.iadd, 1) := by decide +kernel
theorem dL_law_570 : decode cL_law 570 = .ok (.iaload, 1) := by decide +kernel
theorem dL_law_571 : decode cL_law 571 = .ok (.aload_n 0, 1) := by decide +kernel
theorem dL_law_572 : decode cL_law 572 = .ok (.iload_n 3, 1) := by decide +kernel
theorem dL_law_573 : decode cL_law 573 = .ok (.iconst 2, 1) := by decide +kernel
theorem dL_law_574 : decode cL_law 574 = .ok (.iadd, 1) := by decide +kernel
theorem dL_law_575 : decode cL_law 575 = .ok (.iaload, 1) := by decide +kernel
theorem dL_law_576 : decode cL_law 576 = .ok (.ifCond .eq 7, 3) := by decide +kernel
theorem dL_law_579 : decode cL_law 579 = .ok (.iconst 1, 1) := by decide +kernel
theorem dL_law_580 : decode cL_law 580 = .ok (.goto 4, 3) := by decide +kernel
theorem dL_law_583 : decode cL_law 583 = .ok (.iconst 0, 1) := by decide +kernel
theorem dL_law_584 : decode cL_law 584 = .ok (.invokevirtual 81, 3) := by decide +kernel
theorem dL_law_587 : decode cL_law 587 = .ok (.if_icmp .eq 498, 3) := by decide +kernel
theorem dL_law_590 : decode cL_law 590 = .ok (.iconst 0, 1) := by decide +kernel
theorem dL_law_591 : decode cL_law 591 = .ok (.ireturn, 1) := by decide +kernel
theorem dL_law_592 : decode cL_law 592 = .ok (.aload_n 1, 1) := by decide +kernel
theorem dL_law_593 : decode cL_law 593 = .ok (.aload_n 0, 1) := by decide +kernel
theorem dL_law_594 : decode cL_law 594 = .ok (.iload_n 3, 1) := by decide +kernel
theorem dL_law_595 : decode cL_law 595 = .ok (.iconst 1, 1) := by decide +kernel
theorem dL_law_596 : decode cL_law 596 = .ok (.iadd, 1) := by decide +kernel
theorem dL_law_597 : decode cL_law 597 = .ok (.iaload, 1) := by decide +kernel
theorem dL_law_598 : decode cL_law 598 = .ok (.aload_n 0, 1) := by decide +kernel
theorem dL_law_599 : decode cL_law 599 = .ok (.iload_n 3, 1) := by decide +kernel
theorem dL_law_600 : decode cL_law 600 = .ok (.iconst 2, 1) := by decide +kernel
theorem dL_law_601 : decode cL_law 601 = .ok (.iadd, 1) := by decide +kernel
theorem dL_law_602 : decode cL_law 602 = .ok (.iaload, 1) := by decide +kernel
theorem dL_law_603 : decode cL_law 603 = .ok (.invokevirtual 82, 3) := by decide +kernel
theorem dL_law_606 : decode cL_law 606 = .ok (.aload_n 2, 1) := by decide +kernel
theorem dL_law_607 : decode cL_law 607 = .ok (.aload_n 0, 1) := by decide +kernel
theorem dL_law_608 : decode cL_law 608 = .ok (.iload_n 3, 1) := by decide +kernel
theorem dL_law_609 : decode cL_law 609 = .ok (.iconst 1, 1) := by decide +kernel
theorem dL_law_610 : decode cL_law 610 = .ok (.iadd, 1) := by decide +kernel
theorem dL_law_611 : decode cL_law 611 = .ok (.iaload, 1) := by decide +kernel
theorem dL_law_612 : decode cL_law 612 = .ok (.aload_n 0, 1) := by decide +kernel
theorem dL_law_613 : decode cL_law 613 = .ok (.iload_n 3, 1) := by decide +kernel
theorem dL_law_614 : decode cL_law 614 = .ok (.iconst 2, 1) := by decide +kernel
theorem dL_law_615 : decode cL_law 615 = .ok (.iadd, 1) := by decide +kernel
theorem dL_law_616 : decode cL_law 616 = .ok (.iaload, 1) := by decide +kernel
theorem dL_law_617 : decode cL_law 617 = .ok (.invokevirtual 85, 3) := by decide +kernel
theorem dL_law_620 : decode cL_law 620 = .ok (.if_icmp .eq 465, 3) := by decide +kernel
theorem dL_law_623 : decode cL_law 623 = .ok (.iconst 0, 1) := by decide +kernel
theorem dL_law_624 : decode cL_law 624 = .ok (.ireturn, 1) := by decide +kernel
theorem dL_law_625 : decode cL_law 625 = .ok (.aload_n 1, 1) := by decide +kernel
theorem dL_law_626 : decode cL_law 626 = .ok (.aload_n 0, 1) := by decide +kernel
theorem dL_law_627 : decode cL_law 627 = .ok (.iload_n 3, 1) := by decide +kernel
theorem dL_law_628 : decode cL_law 628 = .ok (.iconst 1, 1) := by decide +kernel
theorem dL_law_629 : decode cL_law 629 = .ok (.iadd, 1) := by decide +kernel
theorem dL_law_630 : decode cL_law 630 = .ok (.iaload, 1) := by decide +kernel
theorem dL_law_631 : decode cL_law 631 = .ok (.ifCond .eq 7, 3) := by decide +kernel
theorem dL_law_634 : decode cL_law 634 = .ok (.iconst 1, 1) := by decide +kernel
theorem dL_law_635 : decode cL_law 635 = .ok (.goto 4, 3) := by decide +kernel
theorem dL_law_638 : decode cL_law 638 = .ok (.iconst 0, 1) := by decide +kernel
theorem dL_law_639 : decode cL_law 639 = .ok (.invokevirtual 86, 3) := by decide +kernel
theorem dL_law_642 : decode cL_law 642 = .ok (.aload_n 2, 1) := by decide +kernel
theorem dL_law_643 : decode cL_law 643 = .ok (.aload_n 0, 1) := by decide +kernel
theorem dL_law_644 : decode cL_law 644 = .ok (.iload_n 3, 1) := by decide +kernel
theorem dL_law_645 : decode cL_law 645 = .ok (.iconst 1, 1) := by decide +kernel
theorem dL_law_646 : decode cL_law 646 = .ok (.iadd, 1) := by decide +kernel
theorem dL_law_647 : decode cL_law 647 = .ok (.iaload, 1) := by decide +kernel
theorem dL_law_648 : decode cL_law 648 = .ok (.ifCond .eq 7, 3) := by decide +kernel
theorem dL_law_651 : decode cL_law 651 = .ok (.iconst 1, 1) := by decide +kernel
theorem dL_law_652 : decode cL_law 652 = .ok (.goto 4, 3) := by decide +kernel
theorem dL_law_655 : decode cL_law 655 = .ok (.iconst 0, 1) := by decide +kernel
theorem dL_law_656 : decode cL_law 656 = .ok (.invokevirtual 90, 3) := by decide +kernel
theorem dL_law_659 : decode cL_law 659 = .ok (.if_icmp .eq 426, 3) := by decide +kernel
theorem dL_law_662 : decode cL_law 662 = .ok (.iconst 0, 1) := by decide +kernel
theorem dL_law_663 : decode cL_law 663 = .ok (.ireturn, 1) := by decide +kernel
theorem dL_law_664 : decode cL_law 664 = .ok (.aload_n 1, 1) := by decide +kernel
theorem dL_law_665 : decode cL_law 665 = .ok (.aload_n 0, 1) := by decide +kernel
theorem dL_law_666 : decode cL_law 666 = .ok (.iload_n 3, 1) := by decide +kernel
theorem dL_law_667 : decode cL_law 667 = .ok (.iconst 1, 1) := by decide +kernel
theorem dL_law_668 : decode cL_law 668 = .ok (.iadd, 1) := by decide +kernel
theorem dL_law_669 : decode cL_law 669 = .ok (.iaload, 1) := by decide +kernel
theorem dL_law_670 : decode cL_law 670 = .ok (.invokevirtual 91, 3) := by decide +kernel
theorem dL_law_673 : decode cL_law 673 = .ok (.aload_n 2, 1) := by decide +kernel
theorem dL_law_674 : decode cL_law 674 = .ok (.aload_n 0, 1) := by decide +kernel
theorem dL_law_675 : decode cL_law 675 = .ok (.iload_n 3, 1) := by decide +kernel
theorem dL_law_676 : decode cL_law 676 = .ok (.iconst 1, 1) := by decide +kernel
theorem dL_law_677 : decode cL_law 677 = .ok (.iadd, 1) := by decide +kernel
theorem dL_law_678 : decode cL_law 678 = .ok (.iaload, 1) := by decide +kernel
theorem dL_law_679 : decode cL_law 679 = .ok (.invokevirtual 94, 3) := by decide +kernel
theorem dL_law_682 : decode cL_law 682 = .ok (.if_icmp .eq 403, 3) := by decide +kernel
theorem dL_law_685 : decode cL_law 685 = .ok (.iconst 0, 1) := by decide +kernel
theorem dL_law_686 : decode cL_law 686 = .ok (.ireturn, 1) := by decide +kernel
theorem dL_law_687 : decode cL_law 687 = .ok (.aload_n 1, 1) := by decide +kernel
theorem dL_law_688 : decode cL_law 688 = .ok (.aload_n 0, 1) := by decide +kernel
theorem dL_law_689 : decode cL_law 689 = .ok (.iload_n 3, 1) := by decide +kernel
theorem dL_law_690 : decode cL_law 690 = .ok (.iconst 1, 1) := by decide +kernel
theorem dL_law_691 : decode cL_law 691 = .ok (.iadd, 1) := by decide +kernel
theorem dL_law_692 : decode cL_law 692 = .ok (.iaload, 1) := by decide +kernel
theorem dL_law_693 : decode cL_law 693 = .ok (.aload_n 0, 1) := by decide +kernel
theorem dL_law_694 : decode cL_law 694 = .ok (.iload_n 3, 1) := by decide +kernel
theorem dL_law_695 : decode cL_law 695 = .ok (.iconst 2, 1) := by decide +kernel
theorem dL_law_696 : decode cL_law 696 = .ok (.iadd, 1) := by decide +kernel
theorem dL_law_697 : decode cL_law 697 = .ok (.iaload, 1) := by decide +kernel
theorem dL_law_698 : decode cL_law 698 = .ok (.invokevirtual 95, 3) := by decide +kernel
theorem dL_law_701 : decode cL_law 701 = .ok (.aload_n 2, 1) := by decide +kernel
theorem dL_law_702 : decode cL_law 702 = .ok (.aload_n 0, 1) := by decide +kernel
theorem dL_law_703 : decode cL_law 703 = .ok (.iload_n 3, 1) := by decide +kernel
theorem dL_law_704 : decode cL_law 704 = .ok (.iconst 1, 1) := by decide +kernel
theorem dL_law_705 : decode cL_law 705 = .ok (.iadd, 1) := by decide +kernel
theorem dL_law_706 : decode cL_law 706 = .ok (.iaload, 1) := by decide +kernel
theorem dL_law_707 : decode cL_law 707 = .ok (.aload_n 0, 1) := by decide +kernel
theorem dL_law_708 : decode cL_law 708 = .ok (.iload_n 3, 1) := by decide +kernel
theorem dL_law_709 : decode cL_law 709 = .ok (.iconst 2, 1) := by decide +kernel
theorem dL_law_710 : decode cL_law 710 = .ok (.iadd, 1) := by decide +kernel
theorem dL_law_711 : decode cL_law 711 = .ok (.iaload, 1) := by decide +kernel
theorem dL_law_712 : decode cL_law 712 = .ok (.invokevirtual 98, 3) := by decide +kernel
theorem dL_law_715 : decode cL_law 715 = .ok (.if_icmp .eq 370, 3) := by decide +kernel
theorem dL_law_718 : decode cL_law 718 = .ok (.iconst 0, 1) := by decide +kernel
theorem dL_law_719 : decode cL_law 719 = .ok (.ireturn, 1) := by decide +kernel
theorem dL_law_720 : decode cL_law 720 = .ok (.aload_n 1, 1) := by decide +kernel
theorem dL_law_721 : decode cL_law 721 = .ok (.aload_n 0, 1) := by decide +kernel
theorem dL_law_722 : decode cL_law 722 = .ok (.iload_n 3, 1) := by decide +kernel
theorem dL_law_723 : decode cL_law 723 = .ok (.iconst 1, 1) := by decide +kernel
theorem dL_law_724 : decode cL_law 724 = .ok (.iadd, 1) := by decide +kernel
theorem dL_law_725 : decode cL_law 725 = .ok (.iaload, 1) := by decide +kernel
theorem dL_law_726 : decode cL_law 726 = .ok (.aload_n 0, 1) := by decide +kernel
theorem dL_law_727 : decode cL_law 727 = .ok (.iload_n 3, 1) := by decide +kernel
theorem dL_law_728 : decode cL_law 728 = .ok (.iconst 2, 1) := by decide +kernel
theorem dL_law_729 : decode cL_law 729 = .ok (.iadd, 1) := by decide +kernel
theorem dL_law_730 : decode cL_law 730 = .ok (.iaload, 1) := by decide +kernel
theorem dL_law_731 : decode cL_law 731 = .ok (.ifCond .eq 7, 3) := by decide +kernel
theorem dL_law_734 : decode cL_law 734 = .ok (.iconst 1, 1) := by decide +kernel
theorem dL_law_735 : decode cL_law 735 = .ok (.goto 4, 3) := by decide +kernel
theorem dL_law_738 : decode cL_law 738 = .ok (.iconst 0, 1) := by decide +kernel
theorem dL_law_739 : decode cL_law 739 = .ok (.invokevirtual 99, 3) := by decide +kernel
theorem dL_law_742 : decode cL_law 742 = .ok (.aload_n 2, 1) := by decide +kernel
theorem dL_law_743 : decode cL_law 743 = .ok (.aload_n 0, 1) := by decide +kernel
theorem dL_law_744 : decode cL_law 744 = .ok (.iload_n 3, 1) := by decide +kernel
theorem dL_law_745 : decode cL_law 745 = .ok (.iconst 1, 1) := by decide +kernel
theorem dL_law_746 : decode cL_law 746 = .ok (.iadd, 1) := by decide +kernel
theorem dL_law_747 : decode cL_law 747 = .ok (.iaload, 1) := by decide +kernel
theorem dL_law_748 : decode cL_law 748 = .ok (.aload_n 0, 1) := by decide +kernel
theorem dL_law_749 : decode cL_law 749 = .ok (.iload_n 3, 1) := by decide +kernel
theorem dL_law_750 : decode cL_law 750 = .ok (.iconst 2, 1) := by decide +kernel
theorem dL_law_751 : decode cL_law 751 = .ok (.iadd, 1) := by decide +kernel
theorem dL_law_752 : decode cL_law 752 = .ok (.iaload, 1) := by decide +kernel
theorem dL_law_753 : decode cL_law 753 = .ok (.ifCond .eq 7, 3) := by decide +kernel
theorem dL_law_756 : decode cL_law 756 = .ok (.iconst 1, 1) := by decide +kernel
theorem dL_law_757 : decode cL_law 757 = .ok (.goto 4, 3) := by decide +kernel
theorem dL_law_760 : decode cL_law 760 = .ok (.iconst 0, 1) := by decide +kernel
theorem dL_law_761 : decode cL_law 761 = .ok (.invokevirtual 102, 3) := by decide +kernel
theorem dL_law_764 : decode cL_law 764 = .ok (.if_icmp .eq 321, 3) := by decide +kernel
theorem dL_law_767 : decode cL_law 767 = .ok (.iconst 0, 1) := by decide +kernel
theorem dL_law_768 : decode cL_law 768 = .ok (.ireturn, 1) := by decide +kernel
theorem dL_law_769 : decode cL_law 769 = .ok (.aload_n 1, 1) := by decide +kernel
theorem dL_law_770 : decode cL_law 770 = .ok (.aload_n 0, 1) := by decide +kernel
theorem dL_law_771 : decode cL_law 771 = .ok (.iload_n 3, 1) := by decide +kernel
theorem dL_law_772 : decode cL_law 772 = .ok (.iconst 1, 1) := by decide +kernel
theorem dL_law_773 : decode cL_law 773 = .ok (.iadd, 1) := by decide +kernel
theorem dL_law_774 : decode cL_law 774 = .ok (.iaload, 1) := by decide +kernel
theorem dL_law_775 : decode cL_law 775 = .ok (.aload_n 0, 1) := by decide +kernel
theorem dL_law_776 : decode cL_law 776 = .ok (.iload_n 3, 1) := by decide +kernel
theorem dL_law_777 : decode cL_law 777 = .ok (.iconst 2, 1) := by decide +kernel
theorem dL_law_778 : decode cL_law 778 = .ok (.iadd, 1) := by decide +kernel
theorem dL_law_779 : decode cL_law 779 = .ok (.iaload, 1) := by decide +kernel
theorem dL_law_780 : decode cL_law 780 = .ok (.aload_n 0, 1) := by decide +kernel
theorem dL_law_781 : decode cL_law 781 = .ok (.iload_n 3, 1) := by decide +kernel
theorem dL_law_782 : decode cL_law 782 = .ok (.iconst 3, 1) := by decide +kernel
theorem dL_law_783 : decode cL_law 783 = .ok (.iadd, 1) := by decide +kernel
theorem dL_law_784 : decode cL_law 784 = .ok (.iaload, 1) := by decide +kernel
theorem dL_law_785 : decode cL_law 785 = .ok (.invokevirtual 103, 3) := by decide +kernel
theorem dL_law_788 : decode cL_law 788 = .ok (.aload_n 2, 1) := by decide +kernel
theorem dL_law_789 : decode cL_law 789 = .ok (.aload_n 0, 1) := by decide +kernel
theorem dL_law_790 : decode cL_law 790 = .ok (.iload_n 3, 1) := by decide +kernel
theorem dL_law_791 : decode cL_law 791 = .ok (.iconst 1, 1) := by decide +kernel
theorem dL_law_792 : decode cL_law 792 = .ok (.iadd, 1) := by decide +kernel
theorem dL_law_793 : decode cL_law 793 = .ok (.iaload, 1) := by decide +kernel
theorem dL_law_794 : decode cL_law 794 = .ok (.aload_n 0, 1) := by decide +kernel
theorem dL_law_795 : decode cL_law 795 = .ok (.iload_n 3, 1) := by decide +kernel
theorem dL_law_796 : decode cL_law 796 = .ok (.iconst 2, 1) := by decide +kernel
theorem dL_law_797 : decode cL_law 797 = .ok (.iadd, 1) := by decide +kernel
theorem dL_law_798 : decode cL_law 798 = .ok (.iaload, 1) := by decide +kernel
theorem dL_law_799 : decode cL_law 799 = .ok (.aload_n 0, 1) := by decide +kernel
theorem dL_law_800 : decode cL_law 800 = .ok (.iload_n 3, 1) := by decide +kernel
theorem dL_law_801 : decode cL_law 801 = .ok (.iconst 3, 1) := by decide +kernel
theorem dL_law_802 : decode cL_law 802 = .ok (.iadd, 1) := by decide +kernel
theorem dL_law_803 : decode cL_law 803 = .ok (.iaload, 1) := by decide +kernel
theorem dL_law_804 : decode cL_law 804 = .ok (.invokevirtual 106, 3) := by decide +kernel
theorem dL_law_807 : decode cL_law 807 = .ok (.if_icmp .eq 278, 3) := by decide +kernel
theorem dL_law_810 : decode cL_law 810 = .ok (.iconst 0, 1) := by decide +kernel
theorem dL_law_811 : decode cL_law 811 = .ok (.ireturn, 1) := by decide +kernel
theorem dL_law_812 : decode cL_law 812 = .ok (.aload_n 1, 1) := by decide +kernel
theorem dL_law_813 : decode cL_law 813 = .ok (.invokevirtual 107, 3) := by decide +kernel
theorem dL_law_816 : decode cL_law 816 = .ok (.aload_n 2, 1) := by decide +kernel
theorem dL_law_817 : decode cL_law 817 = .ok (.invokevirtual 110, 3) := by decide +kernel
theorem dL_law_820 : decode cL_law 820 = .ok (.if_icmp .eq 265, 3) := by decide +kernel
theorem dL_law_823 : decode cL_law 823 = .ok (.iconst 0, 1) := by decide +kernel
theorem dL_law_824 : decode cL_law 824 = .ok (.ireturn, 1) := by decide +kernel
theorem dL_law_825 : decode cL_law 825 = .ok (.aload_n 1, 1) := by decide +kernel
theorem dL_law_826 : decode cL_law 826 = .ok (.aload_n 0, 1) := by decide +kernel
theorem dL_law_827 : decode cL_law 827 = .ok (.iload_n 3, 1) := by decide +kernel
theorem dL_law_828 : decode cL_law 828 = .ok (.iconst 1, 1) := by decide +kernel
theorem dL_law_829 : decode cL_law 829 = .ok (.iadd, 1) := by decide +kernel
theorem dL_law_830 : decode cL_law 830 = .ok (.iaload, 1) := by decide +kernel
theorem dL_law_831 : decode cL_law 831 = .ok (.invokevirtual 111, 3) := by decide +kernel
theorem dL_law_834 : decode cL_law 834 = .ok (.aload_n 2, 1) := by decide +kernel
theorem dL_law_835 : decode cL_law 835 = .ok (.aload_n 0, 1) := by decide +kernel
theorem dL_law_836 : decode cL_law 836 = .ok (.iload_n 3, 1) := by decide +kernel
theorem dL_law_837 : decode cL_law 837 = .ok (.iconst 1, 1) := by decide +kernel
theorem dL_law_838 : decode cL_law 838 = .ok (.iadd, 1) := by decide +kernel
theorem dL_law_839 : decode cL_law 839 = .ok (.iaload, 1) := by decide +kernel
theorem dL_law_840 : decode cL_law 840 = .ok (.invokevirtual 114, 3) := by decide +kernel
theorem dL_law_843 : decode cL_law 843 = .ok (.if_icmp .eq 242, 3) := by decide +kernel
theorem dL_law_846 : decode cL_law 846 = .ok (.iconst 0, 1) := by decide +kernel
theorem dL_law_847 : decode cL_law 847 = .ok (.ireturn, 1) := by decide +kernel
theorem dL_law_848 : decode cL_law 848 = .ok (.aload_n 1, 1) := by decide +kernel
theorem dL_law_849 : decode cL_law 849 = .ok (.aload_n 0, 1) := by decide +kernel
theorem dL_law_850 : decode cL_law 850 = .ok (.iload_n 3, 1) := by decide +kernel
theorem dL_law_851 : decode cL_law 851 = .ok (.iconst 1, 1) := by decide +kernel
theorem dL_law_852 : decode cL_law 852 = .ok (.iadd, 1) := by decide +kernel
theorem dL_law_853 : decode cL_law 853 = .ok (.iaload, 1) := by decide +kernel
theorem dL_law_854 : decode cL_law 854 = .ok (.invokevirtual 115, 3) := by decide +kernel
theorem dL_law_857 : decode cL_law 857 = .ok (.aload_n 2, 1) := by decide +kernel
theorem dL_law_858 : decode cL_law 858 = .ok (.aload_n 0, 1) := by decide +kernel
theorem dL_law_859 : decode cL_law 859 = .ok (.iload_n 3, 1) := by decide +kernel
theorem dL_law_860 : decode cL_law 860 = .ok (.iconst 1, 1) := by decide +kernel
theorem dL_law_861 : decode cL_law 861 = .ok (.iadd, 1) := by decide +kernel
theorem dL_law_862 : decode cL_law 862 = .ok (.iaload, 1) := by decide +kernel
theorem dL_law_863 : decode cL_law 863 = .ok (.invokevirtual 118, 3) := by decide +kernel
theorem dL_law_866 : decode cL_law 866 = .ok (.if_icmp .eq 219, 3) := by decide +kernel
theorem dL_law_869 : decode cL_law 869 = .ok (.iconst 0, 1) := by decide +kernel
theorem dL_law_870 : decode cL_law 870 = .ok (.ireturn, 1) := by decide +kernel
theorem dL_law_871 : decode cL_law 871 = .ok (.aload_n 1, 1) := by decide +kernel
theorem dL_law_872 : decode cL_law 872 = .ok (.aload_n 0, 1) := by decide +kernel
theorem dL_law_873 : decode cL_law 873 = .ok (.iload_n 3, 1) := by decide +kernel
theorem dL_law_874 : decode cL_law 874 = .ok (.iconst 1, 1) := by decide +kernel
theorem dL_law_875 : decode cL_law 875 = .ok (.iadd, 1) := by decide +kernel
theorem dL_law_876 : decode cL_law 876 = .ok (.iaload, 1) := by decide +kernel
theorem dL_law_877 : decode cL_law 877 = .ok (.aload_n 0, 1) := by decide +kernel
theorem dL_law_878 : decode cL_law 878 = .ok (.iload_n 3, 1) := by decide +kernel
theorem dL_law_879 : decode cL_law 879 = .ok (.iconst 2, 1) := by decide +kernel
theorem dL_law_880 : decode cL_law 880 = .ok (.iadd, 1) := by decide +kernel
theorem dL_law_881 : decode cL_law 881 = .ok (.iaload, 1) := by decide +kernel
theorem dL_law_882 : decode cL_law 882 = .ok (.aload_n 0, 1) := by decide +kernel
theorem dL_law_883 : decode cL_law 883 = .ok (.iload_n 3, 1) := by decide +kernel
theorem dL_law_884 : decode cL_law 884 = .ok (.iconst 3, 1) := by decide +kernel
theorem dL_law_885 : decode cL_law 885 = .ok (.iadd, 1) := by decide +kernel
theorem dL_law_886 : decode cL_law 886 = .ok (.iaload, 1) := by decide +kernel
theorem dL_law_887 : decode cL_law 887 = .ok (.aload_n 0, 1) := by decide +kernel
theorem dL_law_888 : decode cL_law 888 = .ok (.iload_n 3, 1) := by decide +kernel
theorem dL_law_889 : decode cL_law 889 = .ok (.iconst 4, 1) := by decide +kernel
theorem dL_law_890 : decode cL_law 890 = .ok (.iadd, 1) := by decide +kernel
theorem dL_law_891 : decode cL_law 891 = .ok (.iaload, 1) := by decide +kernel
theorem dL_law_892 : decode cL_law 892 = .ok (.aload_n 0, 1) := by decide +kernel
theorem dL_law_893 : decode cL_law 893 = .ok (.iload_n 3, 1) := by decide +kernel
theorem dL_law_894 : decode cL_law 894 = .ok (.iconst 5, 1) := by decide +kernel
theorem dL_law_895 : decode cL_law 895 = .ok (.iadd, 1) := by decide +kernel
theorem dL_law_896 : decode cL_law 896 = .ok (.iaload, 1) := by decide +kernel
theorem dL_law_897 : decode cL_law 897 = .ok (.aload_n 0, 1) := by decide +kernel
theorem dL_law_898 : decode cL_law 898 = .ok (.iload_n 3, 1) := by decide +kernel
theorem dL_law_899 : decode cL_law 899 = .ok (.bipush 6, 2) := by decide +kernel
theorem dL_law_901 : decode cL_law 901 = .ok (.iadd, 1) := by decide +kernel
theorem dL_law_902 : decode cL_law 902 = .ok (.iaload, 1) := by decide +kernel
theorem dL_law_903 : decode cL_law 903 = .ok (.ifCond .eq 7, 3) := by decide +kernel
theorem dL_law_906 : decode cL_law 906 = .ok (.iconst 1, 1) := by decide +kernel
theorem dL_law_907 : decode cL_law 907 = .ok (.goto 4, 3) := by decide +kernel
theorem dL_law_910 : decode cL_law 910 = .ok (.iconst 0, 1) := by decide +kernel
theorem dL_law_911 : decode cL_law 911 = .ok (.invokevirtual 119, 3) := by decide +kernel
theorem dL_law_914 : decode cL_law 914 = .ok (.aload_n 2, 1) := by decide +kernel
theorem dL_law_915 : decode cL_law 915 = .ok (.aload_n 0, 1) := by decide +kernel
theorem dL_law_916 : decode cL_law 916 = .ok (.iload_n 3, 1) := by decide +kernel
theorem dL_law_917 : decode cL_law 917 = .ok (.iconst 1, 1) := by decide +kernel
theorem dL_law_918 : decode cL_law 918 = .ok (.iadd, 1) := by decide +kernel
theorem dL_law_919 : decode cL_law 919 = .ok (.iaload, 1) := by decide +kernel
theorem dL_law_920 : decode cL_law 920 = .ok (.aload_n 0, 1) := by decide +kernel
theorem dL_law_921 : decode cL_law 921 = .ok (.iload_n 3, 1) := by decide +kernel
theorem dL_law_922 : decode cL_law 922 = .ok (.iconst 2, 1) := by decide +kernel
theorem dL_law_923 : decode cL_law 923 = .ok (.iadd, 1) := by decide +kernel
theorem dL_law_924 : decode cL_law 924 = .ok (.iaload, 1) := by decide +kernel
theorem dL_law_925 : decode cL_law 925 = .ok (.aload_n 0, 1) := by decide +kernel
theorem dL_law_926 : decode cL_law 926 = .ok (.iload_n 3, 1) := by decide +kernel
theorem dL_law_927 : decode cL_law 927 = .ok (.iconst 3, 1) := by decide +kernel
theorem dL_law_928 : decode cL_law 928 = .ok (.iadd, 1) := by decide +kernel
theorem dL_law_929 : decode cL_law 929 = .ok (.iaload, 1) := by decide +kernel
theorem dL_law_930 : decode cL_law 930 = .ok (.aload_n 0, 1) := by decide +kernel
theorem dL_law_931 : decode cL_law 931 = .ok (.iload_n 3, 1) := by decide +kernel
theorem dL_law_932 : decode cL_law 932 = .ok (.iconst 4, 1) := by decide +kernel
theorem dL_law_933 : decode cL_law 933 = .ok (.iadd, 1) := by decide +kernel
theorem dL_law_934 : decode cL_law 934 = .ok (.iaload, 1) := by decide +kernel
theorem dL_law_935 : decode cL_law 935 = .ok (.aload_n 0, 1) := by decide +kernel
theorem dL_law_936 : decode cL_law 936 = .ok (.iload_n 3, 1) := by decide +kernel
theorem dL_law_937 : decode cL_law 937 = .ok (.iconst 5, 1) := by decide +kernel
theorem dL_law_938 : decode cL_law 938 = .ok (.iadd, 1) := by decide +kernel
theorem dL_law_939 : decode cL_law 939 = .ok (.iaload, 1) := by decide +kernel
theorem dL_law_940 : decode cL_law 940 = .ok (.aload_n 0, 1) := by decide +kernel
theorem dL_law_941 : decode cL_law 941 = .ok (.iload_n 3, 1) := by decide +kernel
theorem dL_law_942 : decode cL_law 942 = .ok (.bipush 6, 2) := by decide +kernel
theorem dL_law_944 : decode cL_law 944 = .ok (.iadd, 1) := by decide +kernel
theorem dL_law_945 : decode cL_law 945 = .ok (.iaload, 1) := by decide +kernel
theorem dL_law_946 : decode cL_law 946 = .ok (.ifCond .eq 7, 3) := by decide +kernel
theorem dL_law_949 : decode cL_law 949 = .ok (.iconst 1, 1) := by decide +kernel
theorem dL_law_950 : decode cL_law 950 = .ok (.goto 4, 3) := by decide +kernel
theorem dL_law_953 : decode cL_law 953 = .ok (.iconst 0, 1) := by decide +kernel
theorem dL_law_954 : decode cL_law 954 = .ok (.invokevirtual 123, 3) := by decide +kernel
theorem dL_law_957 : decode cL_law 957 = .ok (.if_icmp .eq 128, 3) := by decide +kernel
theorem dL_law_960 : decode cL_law 960 = .ok (.iconst 0, 1) := by decide +kernel
theorem dL_law_961 : decode cL_law 961 = .ok (.ireturn, 1) := by decide +kernel
theorem dL_law_962 : decode cL_law 962 = .ok (.aload_n 1, 1) := by decide +kernel
theorem dL_law_963 : decode cL_law 963 = .ok (.aload_n 0, 1) := by decide +kernel
theorem dL_law_964 : decode cL_law 964 = .ok (.iload_n 3, 1) := by decide +kernel
theorem dL_law_965 : decode cL_law 965 = .ok (.iconst 1, 1) := by decide +kernel
theorem dL_law_966 : decode cL_law 966 = .ok (.iadd, 1) := by decide +kernel
theorem dL_law_967 : decode cL_law 967 = .ok (.iaload, 1) := by decide +kernel
theorem dL_law_968 : decode cL_law 968 = .ok (.i2l, 1) := by decide +kernel
theorem dL_law_969 : decode cL_law 969 = .ok (.bipush 32, 2) := by decide +kernel
theorem dL_law_971 : decode cL_law 971 = .ok (.lshl, 1) := by decide +kernel
theorem dL_law_972 : decode cL_law 972 = .ok (.aload_n 0, 1) := by decide +kernel
theorem dL_law_973 : decode cL_law 973 = .ok (.iload_n 3, 1) := by decide +kernel
theorem dL_law_974 : decode cL_law 974 = .ok (.iconst 2, 1) := by decide +kernel
theorem dL_law_975 : decode cL_law 975 = .ok (.iadd, 1) := by decide +kernel
theorem dL_law_976 : decode cL_law 976 = .ok (.iaload, 1) := by decide +kernel
theorem dL_law_977 : decode cL_law 977 = .ok (.i2l, 1) := by decide +kernel
theorem dL_law_978 : decode cL_law 978 = .ok (.ldc2_w 124, 3) := by decide +kernel
theorem dL_law_981 : decode cL_law 981 = .ok (.land, 1) := by decide +kernel
theorem dL_law_982 : decode cL_law 982 = .ok (.lor, 1) := by decide +kernel
theorem dL_law_983 : decode cL_law 983 = .ok (.invokevirtual 126, 3) := by decide +kernel
theorem dL_law_986 : decode cL_law 986 = .ok (.aload_n 2, 1) := by decide +kernel
theorem dL_law_987 : decode cL_law 987 = .ok (.aload_n 0, 1) := by decide +kernel
theorem dL_law_988 : decode cL_law 988 = .ok (.iload_n 3, 1) := by decide +kernel
theorem dL_law_989 : decode cL_law 989 = .ok (.iconst 1, 1) := by decide +kernel
theorem dL_law_990 : decode cL_law 990 = .ok (.iadd, 1) := by decide +kernel
theorem dL_law_991 : decode cL_law 991 = .ok (.iaload, 1) := by decide +kernel
theorem dL_law_992 : decode cL_law 992 = .ok (.i2l, 1) := by decide +kernel
theorem dL_law_993 : decode cL_law 993 = .ok (.bipush 32, 2) := by decide +kernel
theorem dL_law_995 : decode cL_law 995 = .ok (.lshl, 1) := by decide +kernel
theorem dL_law_996 : decode cL_law 996 = .ok (.aload_n 0, 1) := by decide +kernel
theorem dL_law_997 : decode cL_law 997 = .ok (.iload_n 3, 1) := by decide +kernel
theorem dL_law_998 : decode cL_law 998 = .ok (.iconst 2, 1) := by decide +kernel
theorem dL_law_999 : decode cL_law 999 = .ok (.iadd, 1) := by decide +kernel
theorem dL_law_1000 : decode cL_law 1000 = .ok (.iaload, 1) := by decide +kernel
theorem dL_law_1001 : decode cL_law 1001 = .ok (.i2l, 1) := by decide +kernel
theorem dL_law_1002 : decode cL_law 1002 = .ok (.ldc2_w 124, 3) := by decide +kernel
theorem dL_law_1005 : decode cL_law 1005 = .ok (.land, 1) := by decide +kernel
theorem dL_law_1006 : decode cL_law 1006 = .ok (.lor, 1) := by decide +kernel
theorem dL_law_1007 : decode cL_law 1007 = .ok (.invokevirtual 130, 3) := by decide +kernel
theorem dL_law_1010 : decode cL_law 1010 = .ok (.lcmp, 1) := by decide +kernel
theorem dL_law_1011 : decode cL_law 1011 = .ok (.ifCond .eq 74, 3) := by decide +kernel
theorem dL_law_1014 : decode cL_law 1014 = .ok (.iconst 0, 1) := by decide +kernel
theorem dL_law_1015 : decode cL_law 1015 = .ok (.ireturn, 1) := by decide +kernel
theorem dL_law_1016 : decode cL_law 1016 = .ok (.aload_n 1, 1) := by decide +kernel
theorem dL_law_1017 : decode cL_law 1017 = .ok (.aload_n 0, 1) := by decide +kernel
theorem dL_law_1018 : decode cL_law 1018 = .ok (.iload_n 3, 1) := by decide +kernel
theorem dL_law_1019 : decode cL_law 1019 = .ok (.iconst 1, 1) := by decide +kernel
theorem dL_law_1020 : decode cL_law 1020 = .ok (.iadd, 1) := by decide +kernel
theorem dL_law_1021 : decode cL_law 1021 = .ok (.iaload, 1) := by decide +kernel
theorem dL_law_1022 : decode cL_law 1022 = .ok (.invokevirtual 131, 3) := by decide +kernel
theorem dL_law_1025 : decode cL_law 1025 = .ok (.aload_n 2, 1) := by decide +kernel
theorem dL_law_1026 : decode cL_law 1026 = .ok (.aload_n 0, 1) := by decide +kernel
theorem dL_law_1027 : decode cL_law 1027 = .ok (.iload_n 3, 1) := by decide +kernel
theorem dL_law_1028 : decode cL_law 1028 = .ok (.iconst 1, 1) := by decide +kernel
theorem dL_law_1029 : decode cL_law 1029 = .ok (.iadd, 1) := by decide +kernel
theorem dL_law_1030 : decode cL_law 1030 = .ok (.iaload, 1) := by decide +kernel
theorem dL_law_1031 : decode cL_law 1031 = .ok (.invokevirtual 134, 3) := by decide +kernel
theorem dL_law_1034 : decode cL_law 1034 = .ok (.if_icmp .eq 51, 3) := by decide +kernel
theorem dL_law_1037 : decode cL_law 1037 = .ok (.iconst 0, 1) := by decide +kernel
theorem dL_law_1038 : decode cL_law 1038 = .ok (.ireturn, 1) := by decide +kernel
theorem dL_law_1039 : decode cL_law 1039 = .ok (.aload_n 1, 1) := by decide +kernel
theorem dL_law_1040 : decode cL_law 1040 = .ok (.aload_n 0, 1) := by decide +kernel
theorem dL_law_1041 : decode cL_law 1041 = .ok (.iload_n 3, 1) := by decide +kernel
theorem dL_law_1042 : decode cL_law 1042 = .ok (.iconst 1, 1) := by decide +kernel
theorem dL_law_1043 : decode cL_law 1043 = .ok (.iadd, 1) := by decide +kernel
theorem dL_law_1044 : decode cL_law 1044 = .ok (.iaload, 1) := by decide +kernel
theorem dL_law_1045 : decode cL_law 1045 = .ok (.invokevirtual 135, 3) := by decide +kernel
theorem dL_law_1048 : decode cL_law 1048 = .ok (.aload_n 2, 1) := by decide +kernel
theorem dL_law_1049 : decode cL_law 1049 = .ok (.aload_n 0, 1) := by decide +kernel
theorem dL_law_1050 : decode cL_law 1050 = .ok (.iload_n 3, 1) := by decide +kernel
theorem dL_law_1051 : decode cL_law 1051 = .ok (.iconst 1, 1) := by decide +kernel
theorem dL_law_1052 : decode cL_law 1052 = .ok (.iadd, 1) := by decide +kernel
theorem dL_law_1053 : decode cL_law 1053 = .ok (.iaload, 1) := by decide +kernel
theorem dL_law_1054 : decode cL_law 1054 = .ok (.invokevirtual 138, 3) := by decide +kernel
theorem dL_law_1057 : decode cL_law 1057 = .ok (.if_icmp .eq 28, 3) := by decide +kernel
theorem dL_law_1060 : decode cL_law 1060 = .ok (.iconst 0, 1) := by decide +kernel
theorem dL_law_1061 : decode cL_law 1061 = .ok (.ireturn, 1) := by decide +kernel
theorem dL_law_1062 : decode cL_law 1062 = .ok (.aload_n 1, 1) := by decide +kernel
theorem dL_law_1063 : decode cL_law 1063 = .ok (.aload_n 0, 1) := by decide +kernel
theorem dL_law_1064 : decode cL_law 1064 = .ok (.iload_n 3, 1) := by decide +kernel
theorem dL_law_1065 : decode cL_law 1065 = .ok (.iconst 1, 1) := by decide +kernel
theorem dL_law_1066 : decode cL_law 1066 = .ok (.iadd, 1) := by decide +kernel
theorem dL_law_1067 : decode cL_law 1067 = .ok (.iaload, 1) := by decide +kernel
theorem dL_law_1068 : decode cL_law 1068 = .ok (.invokevirtual 139, 3) := by decide +kernel
theorem dL_law_1071 : decode cL_law 1071 = .ok (.aload_n 2, 1) := by decide +kernel
theorem dL_law_1072 : decode cL_law 1072 = .ok (.aload_n 0, 1) := by decide +kernel
theorem dL_law_1073 : decode cL_law 1073 = .ok (.iload_n 3, 1) := by decide +kernel
theorem dL_law_1074 : decode cL_law 1074 = .ok (.iconst 1, 1) := by decide +kernel
theorem dL_law_1075 : decode cL_law 1075 = .ok (.iadd, 1) := by decide +kernel
theorem dL_law_1076 : decode cL_law 1076 = .ok (.iaload, 1) := by decide +kernel
theorem dL_law_1077 : decode cL_law 1077 = .ok (.invokevirtual 142, 3) := by decide +kernel
theorem dL_law_1080 : decode cL_law 1080 = .ok (.if_icmp .eq 5, 3) := by decide +kernel
theorem dL_law_1083 : decode cL_law 1083 = .ok (.iconst 0, 1) := by decide +kernel
theorem dL_law_1084 : decode cL_law 1084 = .ok (.ireturn, 1) := by decide +kernel
theorem dL_law_1085 : decode cL_law 1085 = .ok (.iinc 3 7, 3) := by decide +kernel
theorem dL_law_1088 : decode cL_law 1088 = .ok (.goto (-1070), 3) := by decide +kernel
theorem dL_law_1091 : decode cL_law 1091 = .ok (.iconst 1, 1) := by decide +kernel
theorem dL_law_1092 : decode cL_law 1092 = .ok (.ireturn, 1) := by decide +kernel
end
section
/-- the words that may be handed on to a callee -/
def mm_big : List Cond := lw_tbl.filter goodWord
theorem mm_k {w : Cond} (i : Nat) (h : tables_1[i]? = some w) (hg : goodWord w = true) : w ∈ mm_big := List.mem_filter.mpr ⟨List.mem_append_right _ (List.mem_of_getElem? h), hg⟩
theorem mm_ks {q : MethodName × Nat} (i : Nat) (h : lw_privs[i]? = some q) : Cond.selects q.1.cls q.1 q.1 ∈ mm_big := List.mem_filter.mpr ⟨List.mem_append_left _ (List.mem_map.mpr ⟨q, List.mem_of_getElem? h, rfl⟩), rfl⟩
theorem mm_in (ws : List Cond) (ps : List Nat) (hp : ws = ps.filterMap (fun i => tables_1[i]?)) (h : ws.all goodWord = true) : ∀ w ∈ ws, w ∈ mm_big := by
  intro w hw
  have h1 := List.all_eq_true.mp h w hw
  rw [hp] at hw
  obtain ⟨i, -, hi⟩ := List.mem_filterMap.mp hw
  exact mm_k i hi h1
theorem k_0 : (Jvm.Cond.initialized "CoconutShiesLaw") ∈ mm_big := mm_k 0 (by decide +kernel) rfl
theorem k_1 : (Jvm.Cond.initialized "CoconutShies") ∈ mm_big := mm_k 1 (by decide +kernel) rfl
theorem k_2 : (Jvm.Cond.initialized "CoconutShies$Text") ∈ mm_big := mm_k 2 (by decide +kernel) rfl
theorem k_3 : (Jvm.Cond.initialized "CoconutShies$Stand") ∈ mm_big := mm_k 3 (by decide +kernel) rfl
theorem k_4 : (Jvm.Cond.initialized "CoconutShies$Acts") ∈ mm_big := mm_k 4 (by decide +kernel) rfl
theorem k_5 : (Jvm.Cond.initialized "java/lang/Math") ∈ mm_big := mm_k 5 (by decide +kernel) rfl
theorem k_6 : (Jvm.Cond.initialized "CoconutShies$Sightings") ∈ mm_big := mm_k 6 (by decide +kernel) rfl
theorem k_7 : (Jvm.Cond.initialized "CoconutShies$Slots") ∈ mm_big := mm_k 7 (by decide +kernel) rfl
theorem k_8 : (Jvm.Cond.initialized "CoconutShies$Seeker") ∈ mm_big := mm_k 8 (by decide +kernel) rfl
theorem k_9 : (Jvm.Cond.initialized "CoconutShies$Parties") ∈ mm_big := mm_k 9 (by decide +kernel) rfl
theorem k_10 : (Jvm.Cond.initialized "CoconutShies$Chances") ∈ mm_big := mm_k 10 (by decide +kernel) rfl
theorem k_11 : (Jvm.Cond.initialized "CoconutShies$Booth") ∈ mm_big := mm_k 11 (by decide +kernel) rfl
theorem k_12 : (Jvm.Cond.initialized "CoconutShiesModel") ∈ mm_big := mm_k 12 (by decide +kernel) rfl
theorem k_13 : (Jvm.Cond.initialized "java/lang/System") ∈ mm_big := mm_k 13 (by decide +kernel) rfl
theorem k_14 : (Jvm.Cond.initialized "java/lang/Integer") ∈ mm_big := mm_k 14 (by decide +kernel) rfl
theorem k_15 : (Jvm.Cond.classLink "CoconutShiesLaw" (7 : Nat) "CoconutShies") ∈ mm_big := mm_k 15 (by decide +kernel) rfl
theorem k_16 : (Jvm.Cond.instantiable "CoconutShies" (11 : Nat)) ∈ mm_big := mm_k 16 (by decide +kernel) rfl
theorem k_17 : (Jvm.Cond.methodLink "CoconutShiesLaw" (9 : Nat) ({ cls := "CoconutShies", name := "<init>", desc := "()V" } : Jvm.MethodName)) ∈ mm_big := mm_k 17 (by decide +kernel) rfl
theorem k_18 : (Jvm.Cond.instanceMethod ({ cls := "CoconutShies", name := "<init>", desc := "()V" } : Jvm.MethodName)) ∈ mm_big := mm_k 18 (by decide +kernel) rfl
theorem k_19 : (Jvm.Cond.code ({ cls := "CoconutShies", name := "<init>", desc := "()V" } : Jvm.MethodName) prog_1_method_1_code (1 : Nat) (Option.none : Option Jvm.ClassFile.FieldType)) ∈ mm_big := mm_k 19 (by decide +kernel) rfl
theorem k_20 : (Jvm.Cond.methodLink "CoconutShies" (1 : Nat) ({ cls := "java/lang/Object", name := "<init>", desc := "()V" } : Jvm.MethodName)) ∈ mm_big := mm_k 20 (by decide +kernel) rfl
theorem k_21 : (Jvm.Cond.instanceMethod ({ cls := "java/lang/Object", name := "<init>", desc := "()V" } : Jvm.MethodName)) ∈ mm_big := mm_k 21 (by decide +kernel) rfl
theorem k_22 : (Jvm.Cond.code ({ cls := "java/lang/Object", name := "<init>", desc := "()V" } : Jvm.MethodName) object_method_1_code (1 : Nat) (Option.none : Option Jvm.ClassFile.FieldType)) ∈ mm_big := mm_k 22 (by decide +kernel) rfl
theorem k_23 : (Jvm.Cond.classLink "CoconutShies" (7 : Nat) "CoconutShies$Text") ∈ mm_big := mm_k 23 (by decide +kernel) rfl
theorem k_24 : (Jvm.Cond.instantiable "CoconutShies$Text" (2 : Nat)) ∈ mm_big := mm_k 24 (by decide +kernel) rfl
theorem k_26 : (Jvm.Cond.instanceMethod ({ cls := "CoconutShies$Text", name := "<init>", desc := "()V" } : Jvm.MethodName)) ∈ mm_big := mm_k 26 (by decide +kernel) rfl
theorem k_27 : (Jvm.Cond.code ({ cls := "CoconutShies$Text", name := "<init>", desc := "()V" } : Jvm.MethodName) prog_10_method_1_code (1 : Nat) (Option.none : Option Jvm.ClassFile.FieldType)) ∈ mm_big := mm_k 27 (by decide +kernel) rfl
theorem k_28 : (Jvm.Cond.methodLink "CoconutShies$Text" (3 : Nat) ({ cls := "java/lang/Object", name := "<init>", desc := "()V" } : Jvm.MethodName)) ∈ mm_big := mm_k 28 (by decide +kernel) rfl
theorem k_29 : (Jvm.Cond.fieldLink "CoconutShies$Text" (9 : Nat) "CoconutShies$Text" "bytes" "[I") ∈ mm_big := mm_k 29 (by decide +kernel) rfl
theorem k_30 : (Jvm.Cond.fieldLink "CoconutShies$Text" (15 : Nat) "CoconutShies$Text" "length" "I") ∈ mm_big := mm_k 30 (by decide +kernel) rfl
theorem k_31 : (Jvm.Cond.fieldLink "CoconutShies" (83 : Nat) "CoconutShies$Text" "length" "I") ∈ mm_big := mm_k 31 (by decide +kernel) rfl
theorem k_32 : (Jvm.Cond.fieldLink "CoconutShies$Booth" (65 : Nat) "CoconutShies$Text" "length" "I") ∈ mm_big := mm_k 32 (by decide +kernel) rfl
theorem k_38 : (Jvm.Cond.arrayClass Jvm.ClassFile.FieldType.int) ∈ mm_big := mm_k 38 (by decide +kernel) rfl
theorem k_39 : (Jvm.Cond.classLink "CoconutShies" (16 : Nat) "CoconutShies$Stand") ∈ mm_big := mm_k 39 (by decide +kernel) rfl
theorem k_40 : (Jvm.Cond.instantiable "CoconutShies$Stand" (7 : Nat)) ∈ mm_big := mm_k 40 (by decide +kernel) rfl
theorem k_42 : (Jvm.Cond.instanceMethod ({ cls := "CoconutShies$Stand", name := "<init>", desc := "()V" } : Jvm.MethodName)) ∈ mm_big := mm_k 42 (by decide +kernel) rfl
theorem k_43 : (Jvm.Cond.code ({ cls := "CoconutShies$Stand", name := "<init>", desc := "()V" } : Jvm.MethodName) prog_9_method_1_code (1 : Nat) (Option.none : Option Jvm.ClassFile.FieldType)) ∈ mm_big := mm_k 43 (by decide +kernel) rfl
theorem k_44 : (Jvm.Cond.methodLink "CoconutShies$Stand" (3 : Nat) ({ cls := "java/lang/Object", name := "<init>", desc := "()V" } : Jvm.MethodName)) ∈ mm_big := mm_k 44 (by decide +kernel) rfl
theorem k_45 : (Jvm.Cond.fieldLink "CoconutShies$Stand" (9 : Nat) "CoconutShies$Stand" "loose" "[I") ∈ mm_big := mm_k 45 (by decide +kernel) rfl
theorem k_46 : (Jvm.Cond.fieldLink "CoconutShies" (138 : Nat) "CoconutShies$Stand" "loose" "[I") ∈ mm_big := mm_k 46 (by decide +kernel) rfl
theorem k_47 : (Jvm.Cond.fieldLink "CoconutShies$Stand" (15 : Nat) "CoconutShies$Stand" "hits" "[I") ∈ mm_big := mm_k 47 (by decide +kernel) rfl
theorem k_48 : (Jvm.Cond.fieldLink "CoconutShies" (141 : Nat) "CoconutShies$Stand" "hits" "[I") ∈ mm_big := mm_k 48 (by decide +kernel) rfl
theorem k_49 : (Jvm.Cond.fieldLink "CoconutShies$Stand" (18 : Nat) "CoconutShies$Stand" "down" "I") ∈ mm_big := mm_k 49 (by decide +kernel) rfl
theorem k_50 : (Jvm.Cond.fieldLink "CoconutShies$Seeker" (36 : Nat) "CoconutShies$Stand" "down" "I") ∈ mm_big := mm_k 50 (by decide +kernel) rfl
theorem k_51 : (Jvm.Cond.fieldLink "CoconutShies" (114 : Nat) "CoconutShies$Stand" "down" "I") ∈ mm_big := mm_k 51 (by decide +kernel) rfl
theorem k_52 : (Jvm.Cond.fieldLink "CoconutShies$Stand" (22 : Nat) "CoconutShies$Stand" "halved" "I") ∈ mm_big := mm_k 52 (by decide +kernel) rfl
theorem k_53 : (Jvm.Cond.fieldLink "CoconutShies" (144 : Nat) "CoconutShies$Stand" "halved" "I") ∈ mm_big := mm_k 53 (by decide +kernel) rfl
theorem k_54 : (Jvm.Cond.fieldLink "CoconutShies$Stand" (25 : Nat) "CoconutShies$Stand" "nailed" "I") ∈ mm_big := mm_k 54 (by decide +kernel) rfl
theorem k_55 : (Jvm.Cond.fieldLink "CoconutShies" (151 : Nat) "CoconutShies$Stand" "nailed" "I") ∈ mm_big := mm_k 55 (by decide +kernel) rfl
theorem k_56 : (Jvm.Cond.fieldLink "CoconutShies$Seeker" (83 : Nat) "CoconutShies$Stand" "nailed" "I") ∈ mm_big := mm_k 56 (by decide +kernel) rfl
theorem k_57 : (Jvm.Cond.fieldLink "CoconutShies$Stand" (28 : Nat) "CoconutShies$Stand" "wind" "I") ∈ mm_big := mm_k 57 (by decide +kernel) rfl
theorem k_58 : (Jvm.Cond.fieldLink "CoconutShies" (108 : Nat) "CoconutShies$Stand" "wind" "I") ∈ mm_big := mm_k 58 (by decide +kernel) rfl
theorem k_59 : (Jvm.Cond.fieldLink "CoconutShies$Stand" (31 : Nat) "CoconutShies$Stand" "paid" "I") ∈ mm_big := mm_k 59 (by decide +kernel) rfl
theorem k_60 : (Jvm.Cond.fieldLink "CoconutShies" (111 : Nat) "CoconutShies$Stand" "paid" "I") ∈ mm_big := mm_k 60 (by decide +kernel) rfl
theorem k_61 : (Jvm.Cond.fieldLink "CoconutShies$Seeker" (114 : Nat) "CoconutShies$Stand" "paid" "I") ∈ mm_big := mm_k 61 (by decide +kernel) rfl
theorem k_77 : (Jvm.Cond.classLink "CoconutShies" (23 : Nat) "CoconutShies$Acts") ∈ mm_big := mm_k 77 (by decide +kernel) rfl
theorem k_78 : (Jvm.Cond.instantiable "CoconutShies$Acts" (3 : Nat)) ∈ mm_big := mm_k 78 (by decide +kernel) rfl
theorem k_80 : (Jvm.Cond.instanceMethod ({ cls := "CoconutShies$Acts", name := "<init>", desc := "()V" } : Jvm.MethodName)) ∈ mm_big := mm_k 80 (by decide +kernel) rfl
theorem k_81 : (Jvm.Cond.code ({ cls := "CoconutShies$Acts", name := "<init>", desc := "()V" } : Jvm.MethodName) prog_2_method_1_code (1 : Nat) (Option.none : Option Jvm.ClassFile.FieldType)) ∈ mm_big := mm_k 81 (by decide +kernel) rfl
theorem k_82 : (Jvm.Cond.methodLink "CoconutShies$Acts" (3 : Nat) ({ cls := "java/lang/Object", name := "<init>", desc := "()V" } : Jvm.MethodName)) ∈ mm_big := mm_k 82 (by decide +kernel) rfl
theorem k_84 : (Jvm.Cond.static ({ cls := "CoconutShies", name := "newStands", desc := "(I)[LCoconutShies$Stand;" } : Jvm.MethodName)) ∈ mm_big := mm_k 84 (by decide +kernel) rfl
theorem k_85 : (Jvm.Cond.code ({ cls := "CoconutShies", name := "newStands", desc := "(I)[LCoconutShies$Stand;" } : Jvm.MethodName) prog_1_method_35_code (3 : Nat) (Option.some (Jvm.ClassFile.FieldType.array (Jvm.ClassFile.FieldType.object "CoconutShies$Stand")))) ∈ mm_big := mm_k 85 (by decide +kernel) rfl
theorem k_86 : (Jvm.Cond.methodLink "CoconutShies" (299 : Nat) ({ cls := "java/lang/Math", name := "max", desc := "(II)I" } : Jvm.MethodName)) ∈ mm_big := mm_k 86 (by decide +kernel) rfl
theorem k_87 : (Jvm.Cond.static ({ cls := "java/lang/Math", name := "max", desc := "(II)I" } : Jvm.MethodName)) ∈ mm_big := mm_k 87 (by decide +kernel) rfl
theorem k_88 : (Jvm.Cond.code ({ cls := "java/lang/Math", name := "max", desc := "(II)I" } : Jvm.MethodName) prog_14_method_65_code (2 : Nat) (Option.some Jvm.ClassFile.FieldType.int)) ∈ mm_big := mm_k 88 (by decide +kernel) rfl
theorem k_90 : (Jvm.Cond.fieldLink "CoconutShies$Acts" (13 : Nat) "CoconutShies$Acts" "before" "[LCoconutShies$Stand;") ∈ mm_big := mm_k 90 (by decide +kernel) rfl
theorem k_91 : (Jvm.Cond.fieldLink "CoconutShies$Acts" (19 : Nat) "CoconutShies$Acts" "first" "I") ∈ mm_big := mm_k 91 (by decide +kernel) rfl
theorem k_92 : (Jvm.Cond.fieldLink "CoconutShies$Acts" (23 : Nat) "CoconutShies$Acts" "count" "I") ∈ mm_big := mm_k 92 (by decide +kernel) rfl
theorem k_93 : (Jvm.Cond.fieldLink "CoconutShies" (117 : Nat) "CoconutShies$Acts" "count" "I") ∈ mm_big := mm_k 93 (by decide +kernel) rfl
theorem k_101 : (Jvm.Cond.classLink "CoconutShies" (30 : Nat) "CoconutShies$Sightings") ∈ mm_big := mm_k 101 (by decide +kernel) rfl
theorem k_102 : (Jvm.Cond.instantiable "CoconutShies$Sightings" (4 : Nat)) ∈ mm_big := mm_k 102 (by decide +kernel) rfl
theorem k_104 : (Jvm.Cond.instanceMethod ({ cls := "CoconutShies$Sightings", name := "<init>", desc := "()V" } : Jvm.MethodName)) ∈ mm_big := mm_k 104 (by decide +kernel) rfl
theorem k_105 : (Jvm.Cond.code ({ cls := "CoconutShies$Sightings", name := "<init>", desc := "()V" } : Jvm.MethodName) prog_7_method_1_code (1 : Nat) (Option.none : Option Jvm.ClassFile.FieldType)) ∈ mm_big := mm_k 105 (by decide +kernel) rfl
theorem k_106 : (Jvm.Cond.methodLink "CoconutShies$Sightings" (3 : Nat) ({ cls := "java/lang/Object", name := "<init>", desc := "()V" } : Jvm.MethodName)) ∈ mm_big := mm_k 106 (by decide +kernel) rfl
theorem k_107 : (Jvm.Cond.fieldLink "CoconutShies$Sightings" (9 : Nat) "CoconutShies$Sightings" "husks" "[I") ∈ mm_big := mm_k 107 (by decide +kernel) rfl
theorem k_108 : (Jvm.Cond.fieldLink "CoconutShies$Sightings" (15 : Nat) "CoconutShies$Sightings" "forces" "[I") ∈ mm_big := mm_k 108 (by decide +kernel) rfl
theorem k_109 : (Jvm.Cond.fieldLink "CoconutShies$Sightings" (18 : Nat) "CoconutShies$Sightings" "fell" "[I") ∈ mm_big := mm_k 109 (by decide +kernel) rfl
theorem k_110 : (Jvm.Cond.fieldLink "CoconutShies$Sightings" (21 : Nat) "CoconutShies$Sightings" "count" "I") ∈ mm_big := mm_k 110 (by decide +kernel) rfl
theorem k_111 : (Jvm.Cond.fieldLink "CoconutShies" (120 : Nat) "CoconutShies$Sightings" "count" "I") ∈ mm_big := mm_k 111 (by decide +kernel) rfl
theorem k_121 : (Jvm.Cond.classLink "CoconutShies" (37 : Nat) "CoconutShies$Slots") ∈ mm_big := mm_k 121 (by decide +kernel) rfl
theorem k_122 : (Jvm.Cond.instantiable "CoconutShies$Slots" (2 : Nat)) ∈ mm_big := mm_k 122 (by decide +kernel) rfl
theorem k_124 : (Jvm.Cond.instanceMethod ({ cls := "CoconutShies$Slots", name := "<init>", desc := "()V" } : Jvm.MethodName)) ∈ mm_big := mm_k 124 (by decide +kernel) rfl
theorem k_125 : (Jvm.Cond.code ({ cls := "CoconutShies$Slots", name := "<init>", desc := "()V" } : Jvm.MethodName) prog_8_method_1_code (1 : Nat) (Option.none : Option Jvm.ClassFile.FieldType)) ∈ mm_big := mm_k 125 (by decide +kernel) rfl
theorem k_126 : (Jvm.Cond.methodLink "CoconutShies$Slots" (3 : Nat) ({ cls := "java/lang/Object", name := "<init>", desc := "()V" } : Jvm.MethodName)) ∈ mm_big := mm_k 126 (by decide +kernel) rfl
theorem k_128 : (Jvm.Cond.fieldLink "CoconutShies$Slots" (13 : Nat) "CoconutShies$Slots" "kept" "[LCoconutShies$Stand;") ∈ mm_big := mm_k 128 (by decide +kernel) rfl
theorem k_129 : (Jvm.Cond.fieldLink "CoconutShies$Slots" (19 : Nat) "CoconutShies$Slots" "used" "[Z") ∈ mm_big := mm_k 129 (by decide +kernel) rfl
theorem k_135 : (Jvm.Cond.arrayClass Jvm.ClassFile.FieldType.boolean) ∈ mm_big := mm_k 135 (by decide +kernel) rfl
theorem k_136 : (Jvm.Cond.classLink "CoconutShies" (44 : Nat) "CoconutShies$Seeker") ∈ mm_big := mm_k 136 (by decide +kernel) rfl
theorem k_137 : (Jvm.Cond.instantiable "CoconutShies$Seeker" (3 : Nat)) ∈ mm_big := mm_k 137 (by decide +kernel) rfl
theorem k_139 : (Jvm.Cond.instanceMethod ({ cls := "CoconutShies$Seeker", name := "<init>", desc := "()V" } : Jvm.MethodName)) ∈ mm_big := mm_k 139 (by decide +kernel) rfl
theorem k_140 : (Jvm.Cond.code ({ cls := "CoconutShies$Seeker", name := "<init>", desc := "()V" } : Jvm.MethodName) prog_6_method_1_code (1 : Nat) (Option.none : Option Jvm.ClassFile.FieldType)) ∈ mm_big := mm_k 140 (by decide +kernel) rfl
theorem k_141 : (Jvm.Cond.methodLink "CoconutShies$Seeker" (3 : Nat) ({ cls := "java/lang/Object", name := "<init>", desc := "()V" } : Jvm.MethodName)) ∈ mm_big := mm_k 141 (by decide +kernel) rfl
theorem k_143 : (Jvm.Cond.fieldLink "CoconutShies$Seeker" (13 : Nat) "CoconutShies$Seeker" "tries" "[LCoconutShies$Stand;") ∈ mm_big := mm_k 143 (by decide +kernel) rfl
theorem k_144 : (Jvm.Cond.fieldLink "CoconutShies$Seeker" (19 : Nat) "CoconutShies$Seeker" "mostDown" "I") ∈ mm_big := mm_k 144 (by decide +kernel) rfl
theorem k_145 : (Jvm.Cond.fieldLink "CoconutShies" (222 : Nat) "CoconutShies$Seeker" "mostDown" "I") ∈ mm_big := mm_k 145 (by decide +kernel) rfl
theorem k_146 : (Jvm.Cond.fieldLink "CoconutShies$Seeker" (23 : Nat) "CoconutShies$Seeker" "firstFigures" "I") ∈ mm_big := mm_k 146 (by decide +kernel) rfl
theorem k_147 : (Jvm.Cond.fieldLink "CoconutShies" (219 : Nat) "CoconutShies$Seeker" "firstFigures" "I") ∈ mm_big := mm_k 147 (by decide +kernel) rfl
theorem k_155 : (Jvm.Cond.classLink "CoconutShies" (51 : Nat) "CoconutShies$Parties") ∈ mm_big := mm_k 155 (by decide +kernel) rfl
theorem k_156 : (Jvm.Cond.instantiable "CoconutShies$Parties" (5 : Nat)) ∈ mm_big := mm_k 156 (by decide +kernel) rfl
theorem k_158 : (Jvm.Cond.instanceMethod ({ cls := "CoconutShies$Parties", name := "<init>", desc := "()V" } : Jvm.MethodName)) ∈ mm_big := mm_k 158 (by decide +kernel) rfl
theorem k_159 : (Jvm.Cond.code ({ cls := "CoconutShies$Parties", name := "<init>", desc := "()V" } : Jvm.MethodName) prog_5_method_1_code (1 : Nat) (Option.none : Option Jvm.ClassFile.FieldType)) ∈ mm_big := mm_k 159 (by decide +kernel) rfl
theorem k_160 : (Jvm.Cond.methodLink "CoconutShies$Parties" (3 : Nat) ({ cls := "java/lang/Object", name := "<init>", desc := "()V" } : Jvm.MethodName)) ∈ mm_big := mm_k 160 (by decide +kernel) rfl
theorem k_161 : (Jvm.Cond.classLink "CoconutShies$Parties" (18 : Nat) "CoconutShies$Stand") ∈ mm_big := mm_k 161 (by decide +kernel) rfl
theorem k_163 : (Jvm.Cond.fieldLink "CoconutShies$Parties" (11 : Nat) "CoconutShies$Parties" "worthToOne" "[I") ∈ mm_big := mm_k 163 (by decide +kernel) rfl
theorem k_164 : (Jvm.Cond.fieldLink "CoconutShies$Parties" (15 : Nat) "CoconutShies$Parties" "worthToOther" "[I") ∈ mm_big := mm_k 164 (by decide +kernel) rfl
theorem k_165 : (Jvm.Cond.fieldLink "CoconutShies$Parties" (21 : Nat) "CoconutShies$Parties" "tried" "LCoconutShies$Stand;") ∈ mm_big := mm_k 165 (by decide +kernel) rfl
theorem k_166 : (Jvm.Cond.fieldLink "CoconutShies$Parties" (25 : Nat) "CoconutShies$Parties" "count" "I") ∈ mm_big := mm_k 166 (by decide +kernel) rfl
theorem k_167 : (Jvm.Cond.fieldLink "CoconutShies" (255 : Nat) "CoconutShies$Parties" "count" "I") ∈ mm_big := mm_k 167 (by decide +kernel) rfl
theorem k_168 : (Jvm.Cond.fieldLink "CoconutShies$Parties" (29 : Nat) "CoconutShies$Parties" "first" "I") ∈ mm_big := mm_k 168 (by decide +kernel) rfl
theorem k_169 : (Jvm.Cond.fieldLink "CoconutShies" (256 : Nat) "CoconutShies$Parties" "first" "I") ∈ mm_big := mm_k 169 (by decide +kernel) rfl
theorem k_181 : (Jvm.Cond.classLink "CoconutShies" (58 : Nat) "CoconutShies$Chances") ∈ mm_big := mm_k 181 (by decide +kernel) rfl
theorem k_182 : (Jvm.Cond.instantiable "CoconutShies$Chances" (4 : Nat)) ∈ mm_big := mm_k 182 (by decide +kernel) rfl
theorem k_184 : (Jvm.Cond.instanceMethod ({ cls := "CoconutShies$Chances", name := "<init>", desc := "()V" } : Jvm.MethodName)) ∈ mm_big := mm_k 184 (by decide +kernel) rfl
theorem k_185 : (Jvm.Cond.code ({ cls := "CoconutShies$Chances", name := "<init>", desc := "()V" } : Jvm.MethodName) prog_4_method_1_code (1 : Nat) (Option.none : Option Jvm.ClassFile.FieldType)) ∈ mm_big := mm_k 185 (by decide +kernel) rfl
theorem k_186 : (Jvm.Cond.methodLink "CoconutShies$Chances" (3 : Nat) ({ cls := "java/lang/Object", name := "<init>", desc := "()V" } : Jvm.MethodName)) ∈ mm_big := mm_k 186 (by decide +kernel) rfl
theorem k_188 : (Jvm.Cond.fieldLink "CoconutShies$Chances" (13 : Nat) "CoconutShies$Chances" "tries" "[LCoconutShies$Stand;") ∈ mm_big := mm_k 188 (by decide +kernel) rfl
theorem k_189 : (Jvm.Cond.fieldLink "CoconutShies$Chances" (19 : Nat) "CoconutShies$Chances" "thrower" "I") ∈ mm_big := mm_k 189 (by decide +kernel) rfl
theorem k_190 : (Jvm.Cond.fieldLink "CoconutShies" (262 : Nat) "CoconutShies$Chances" "thrower" "I") ∈ mm_big := mm_k 190 (by decide +kernel) rfl
theorem k_191 : (Jvm.Cond.fieldLink "CoconutShies$Chances" (23 : Nat) "CoconutShies$Chances" "place" "I") ∈ mm_big := mm_k 191 (by decide +kernel) rfl
theorem k_192 : (Jvm.Cond.fieldLink "CoconutShies" (265 : Nat) "CoconutShies$Chances" "place" "I") ∈ mm_big := mm_k 192 (by decide +kernel) rfl
theorem k_193 : (Jvm.Cond.fieldLink "CoconutShies$Chances" (26 : Nat) "CoconutShies$Chances" "tenths" "I") ∈ mm_big := mm_k 193 (by decide +kernel) rfl
theorem k_194 : (Jvm.Cond.fieldLink "CoconutShies" (267 : Nat) "CoconutShies$Chances" "tenths" "I") ∈ mm_big := mm_k 194 (by decide +kernel) rfl
theorem k_204 : (Jvm.Cond.classLink "CoconutShies" (65 : Nat) "CoconutShies$Booth") ∈ mm_big := mm_k 204 (by decide +kernel) rfl
theorem k_205 : (Jvm.Cond.instantiable "CoconutShies$Booth" (14 : Nat)) ∈ mm_big := mm_k 205 (by decide +kernel) rfl
theorem k_207 : (Jvm.Cond.instanceMethod ({ cls := "CoconutShies$Booth", name := "<init>", desc := "()V" } : Jvm.MethodName)) ∈ mm_big := mm_k 207 (by decide +kernel) rfl
theorem k_208 : (Jvm.Cond.code ({ cls := "CoconutShies$Booth", name := "<init>", desc := "()V" } : Jvm.MethodName) prog_3_method_1_code (1 : Nat) (Option.none : Option Jvm.ClassFile.FieldType)) ∈ mm_big := mm_k 208 (by decide +kernel) rfl
theorem k_209 : (Jvm.Cond.methodLink "CoconutShies$Booth" (3 : Nat) ({ cls := "java/lang/Object", name := "<init>", desc := "()V" } : Jvm.MethodName)) ∈ mm_big := mm_k 209 (by decide +kernel) rfl
theorem k_210 : (Jvm.Cond.fieldLink "CoconutShies$Booth" (9 : Nat) "CoconutShies$Booth" "place" "[I") ∈ mm_big := mm_k 210 (by decide +kernel) rfl
theorem k_211 : (Jvm.Cond.fieldLink "CoconutShies" (124 : Nat) "CoconutShies$Booth" "place" "[I") ∈ mm_big := mm_k 211 (by decide +kernel) rfl
theorem k_212 : (Jvm.Cond.fieldLink "CoconutShies$Booth" (15 : Nat) "CoconutShies$Booth" "hold" "[I") ∈ mm_big := mm_k 212 (by decide +kernel) rfl
theorem k_213 : (Jvm.Cond.fieldLink "CoconutShies$Stand" (64 : Nat) "CoconutShies$Booth" "hold" "[I") ∈ mm_big := mm_k 213 (by decide +kernel) rfl
theorem k_214 : (Jvm.Cond.fieldLink "CoconutShies" (128 : Nat) "CoconutShies$Booth" "hold" "[I") ∈ mm_big := mm_k 214 (by decide +kernel) rfl
theorem k_215 : (Jvm.Cond.fieldLink "CoconutShies$Booth" (18 : Nat) "CoconutShies$Booth" "huskKind" "[I") ∈ mm_big := mm_k 215 (by decide +kernel) rfl
theorem k_216 : (Jvm.Cond.fieldLink "CoconutShies$Stand" (45 : Nat) "CoconutShies$Booth" "huskKind" "[I") ∈ mm_big := mm_k 216 (by decide +kernel) rfl
theorem k_217 : (Jvm.Cond.fieldLink "CoconutShies" (131 : Nat) "CoconutShies$Booth" "huskKind" "[I") ∈ mm_big := mm_k 217 (by decide +kernel) rfl
theorem k_218 : (Jvm.Cond.fieldLink "CoconutShies$Booth" (21 : Nat) "CoconutShies$Booth" "aim" "[I") ∈ mm_big := mm_k 218 (by decide +kernel) rfl
theorem k_219 : (Jvm.Cond.fieldLink "CoconutShies" (157 : Nat) "CoconutShies$Booth" "aim" "[I") ∈ mm_big := mm_k 219 (by decide +kernel) rfl
theorem k_220 : (Jvm.Cond.fieldLink "CoconutShies$Booth" (24 : Nat) "CoconutShies$Booth" "force" "[I") ∈ mm_big := mm_k 220 (by decide +kernel) rfl
theorem k_221 : (Jvm.Cond.fieldLink "CoconutShies" (160 : Nat) "CoconutShies$Booth" "force" "[I") ∈ mm_big := mm_k 221 (by decide +kernel) rfl
theorem k_222 : (Jvm.Cond.fieldLink "CoconutShies$Booth" (27 : Nat) "CoconutShies$Booth" "throwerKind" "[I") ∈ mm_big := mm_k 222 (by decide +kernel) rfl
theorem k_223 : (Jvm.Cond.fieldLink "CoconutShies" (163 : Nat) "CoconutShies$Booth" "throwerKind" "[I") ∈ mm_big := mm_k 223 (by decide +kernel) rfl
theorem k_224 : (Jvm.Cond.fieldLink "CoconutShies$Booth" (30 : Nat) "CoconutShies$Booth" "lawOf" "[I") ∈ mm_big := mm_k 224 (by decide +kernel) rfl
theorem k_225 : (Jvm.Cond.fieldLink "CoconutShies$Stand" (108 : Nat) "CoconutShies$Booth" "lawOf" "[I") ∈ mm_big := mm_k 225 (by decide +kernel) rfl
theorem k_226 : (Jvm.Cond.fieldLink "CoconutShies$Booth" (33 : Nat) "CoconutShies$Booth" "lawFor" "[I") ∈ mm_big := mm_k 226 (by decide +kernel) rfl
theorem k_227 : (Jvm.Cond.fieldLink "CoconutShies$Stand" (111 : Nat) "CoconutShies$Booth" "lawFor" "[I") ∈ mm_big := mm_k 227 (by decide +kernel) rfl
theorem k_228 : (Jvm.Cond.fieldLink "CoconutShies$Booth" (36 : Nat) "CoconutShies$Booth" "lawKind" "[I") ∈ mm_big := mm_k 228 (by decide +kernel) rfl
theorem k_229 : (Jvm.Cond.fieldLink "CoconutShies$Stand" (114 : Nat) "CoconutShies$Booth" "lawKind" "[I") ∈ mm_big := mm_k 229 (by decide +kernel) rfl
theorem k_230 : (Jvm.Cond.fieldLink "CoconutShies$Booth" (39 : Nat) "CoconutShies$Booth" "husks" "I") ∈ mm_big := mm_k 230 (by decide +kernel) rfl
theorem k_231 : (Jvm.Cond.fieldLink "CoconutShies$Parties" (32 : Nat) "CoconutShies$Booth" "husks" "I") ∈ mm_big := mm_k 231 (by decide +kernel) rfl
theorem k_232 : (Jvm.Cond.fieldLink "CoconutShies$Stand" (42 : Nat) "CoconutShies$Booth" "husks" "I") ∈ mm_big := mm_k 232 (by decide +kernel) rfl
theorem k_233 : (Jvm.Cond.fieldLink "CoconutShies$Seeker" (52 : Nat) "CoconutShies$Booth" "husks" "I") ∈ mm_big := mm_k 233 (by decide +kernel) rfl
theorem k_234 : (Jvm.Cond.fieldLink "CoconutShies" (99 : Nat) "CoconutShies$Booth" "husks" "I") ∈ mm_big := mm_k 234 (by decide +kernel) rfl
theorem k_235 : (Jvm.Cond.fieldLink "CoconutShies$Booth" (43 : Nat) "CoconutShies$Booth" "throwers" "I") ∈ mm_big := mm_k 235 (by decide +kernel) rfl
theorem k_236 : (Jvm.Cond.fieldLink "CoconutShies$Seeker" (47 : Nat) "CoconutShies$Booth" "throwers" "I") ∈ mm_big := mm_k 236 (by decide +kernel) rfl
theorem k_237 : (Jvm.Cond.fieldLink "CoconutShies" (102 : Nat) "CoconutShies$Booth" "throwers" "I") ∈ mm_big := mm_k 237 (by decide +kernel) rfl
theorem k_238 : (Jvm.Cond.fieldLink "CoconutShies$Booth" (46 : Nat) "CoconutShies$Booth" "laws" "I") ∈ mm_big := mm_k 238 (by decide +kernel) rfl
theorem k_239 : (Jvm.Cond.fieldLink "CoconutShies" (105 : Nat) "CoconutShies$Booth" "laws" "I") ∈ mm_big := mm_k 239 (by decide +kernel) rfl
theorem k_240 : (Jvm.Cond.fieldLink "CoconutShies$Stand" (105 : Nat) "CoconutShies$Booth" "laws" "I") ∈ mm_big := mm_k 240 (by decide +kernel) rfl
theorem k_241 : (Jvm.Cond.fieldLink "CoconutShies$Booth" (49 : Nat) "CoconutShies$Booth" "windAtFirst" "I") ∈ mm_big := mm_k 241 (by decide +kernel) rfl
theorem k_242 : (Jvm.Cond.fieldLink "CoconutShies$Stand" (34 : Nat) "CoconutShies$Booth" "windAtFirst" "I") ∈ mm_big := mm_k 242 (by decide +kernel) rfl
theorem k_243 : (Jvm.Cond.fieldLink "CoconutShies$Booth" (52 : Nat) "CoconutShies$Booth" "paidAtFirst" "I") ∈ mm_big := mm_k 243 (by decide +kernel) rfl
theorem k_244 : (Jvm.Cond.fieldLink "CoconutShies$Stand" (39 : Nat) "CoconutShies$Booth" "paidAtFirst" "I") ∈ mm_big := mm_k 244 (by decide +kernel) rfl
theorem k_274 : (Jvm.Cond.fieldLink "CoconutShies" (10 : Nat) "CoconutShies" "text" "LCoconutShies$Text;") ∈ mm_big := mm_k 274 (by decide +kernel) rfl
theorem k_275 : (Jvm.Cond.fieldLink "CoconutShies" (19 : Nat) "CoconutShies" "stand" "LCoconutShies$Stand;") ∈ mm_big := mm_k 275 (by decide +kernel) rfl
theorem k_276 : (Jvm.Cond.fieldLink "CoconutShies" (26 : Nat) "CoconutShies" "acts" "LCoconutShies$Acts;") ∈ mm_big := mm_k 276 (by decide +kernel) rfl
theorem k_277 : (Jvm.Cond.fieldLink "CoconutShies" (33 : Nat) "CoconutShies" "sightings" "LCoconutShies$Sightings;") ∈ mm_big := mm_k 277 (by decide +kernel) rfl
theorem k_278 : (Jvm.Cond.fieldLink "CoconutShies" (40 : Nat) "CoconutShies" "slots" "LCoconutShies$Slots;") ∈ mm_big := mm_k 278 (by decide +kernel) rfl
theorem k_279 : (Jvm.Cond.fieldLink "CoconutShies" (47 : Nat) "CoconutShies" "seeker" "LCoconutShies$Seeker;") ∈ mm_big := mm_k 279 (by decide +kernel) rfl
theorem k_280 : (Jvm.Cond.fieldLink "CoconutShies" (54 : Nat) "CoconutShies" "parties" "LCoconutShies$Parties;") ∈ mm_big := mm_k 280 (by decide +kernel) rfl
theorem k_281 : (Jvm.Cond.fieldLink "CoconutShies" (61 : Nat) "CoconutShies" "chances" "LCoconutShies$Chances;") ∈ mm_big := mm_k 281 (by decide +kernel) rfl
theorem k_282 : (Jvm.Cond.fieldLink "CoconutShies" (68 : Nat) "CoconutShies" "booth" "LCoconutShies$Booth;") ∈ mm_big := mm_k 282 (by decide +kernel) rfl
theorem k_283 : (Jvm.Cond.fieldLink "CoconutShies" (72 : Nat) "CoconutShies" "draft" "LCoconutShies$Booth;") ∈ mm_big := mm_k 283 (by decide +kernel) rfl
theorem k_284 : (Jvm.Cond.fieldLink "CoconutShies" (75 : Nat) "CoconutShies" "seedNow" "J") ∈ mm_big := mm_k 284 (by decide +kernel) rfl
theorem k_308 : (Jvm.Cond.methodLink "CoconutShiesLaw" (13 : Nat) ({ cls := "CoconutShies", name := "write", desc := "(I)I" } : Jvm.MethodName)) ∈ mm_big := mm_k 308 (by decide +kernel) rfl
theorem k_309 : (Jvm.Cond.instanceMethod ({ cls := "CoconutShies", name := "write", desc := "(I)I" } : Jvm.MethodName)) ∈ mm_big := mm_k 309 (by decide +kernel) rfl
theorem k_310 : (Jvm.Cond.selects "CoconutShies" ({ cls := "CoconutShies", name := "write", desc := "(I)I" } : Jvm.MethodName) ({ cls := "CoconutShies", name := "write", desc := "(I)I" } : Jvm.MethodName)) ∈ mm_big := mm_k 310 (by decide +kernel) rfl
theorem k_311 : (Jvm.Cond.code ({ cls := "CoconutShies", name := "write", desc := "(I)I" } : Jvm.MethodName) prog_1_method_2_code (2 : Nat) (Option.some Jvm.ClassFile.FieldType.int)) ∈ mm_big := mm_k 311 (by decide +kernel) rfl
theorem k_312 : (Jvm.Cond.methodLink "CoconutShies" (79 : Nat) ({ cls := "CoconutShies$Text", name := "append", desc := "(I)Z" } : Jvm.MethodName)) ∈ mm_big := mm_k 312 (by decide +kernel) rfl
theorem k_313 : (Jvm.Cond.instanceMethod ({ cls := "CoconutShies$Text", name := "append", desc := "(I)Z" } : Jvm.MethodName)) ∈ mm_big := mm_k 313 (by decide +kernel) rfl
theorem k_314 : (Jvm.Cond.selects "CoconutShies$Text" ({ cls := "CoconutShies$Text", name := "append", desc := "(I)Z" } : Jvm.MethodName) ({ cls := "CoconutShies$Text", name := "append", desc := "(I)Z" } : Jvm.MethodName)) ∈ mm_big := mm_k 314 (by decide +kernel) rfl
theorem k_315 : (Jvm.Cond.code ({ cls := "CoconutShies$Text", name := "append", desc := "(I)Z" } : Jvm.MethodName) prog_10_method_2_code (2 : Nat) (Option.some Jvm.ClassFile.FieldType.boolean)) ∈ mm_big := mm_k 315 (by decide +kernel) rfl
theorem k_316 : (Jvm.Cond.methodLink "CoconutShiesLaw" (18 : Nat) ({ cls := "CoconutShies", name := "wipe", desc := "()I" } : Jvm.MethodName)) ∈ mm_big := mm_k 316 (by decide +kernel) rfl
theorem k_317 : (Jvm.Cond.instanceMethod ({ cls := "CoconutShies", name := "wipe", desc := "()I" } : Jvm.MethodName)) ∈ mm_big := mm_k 317 (by decide +kernel) rfl
theorem k_318 : (Jvm.Cond.selects "CoconutShies" ({ cls := "CoconutShies", name := "wipe", desc := "()I" } : Jvm.MethodName) ({ cls := "CoconutShies", name := "wipe", desc := "()I" } : Jvm.MethodName)) ∈ mm_big := mm_k 318 (by decide +kernel) rfl
theorem k_319 : (Jvm.Cond.code ({ cls := "CoconutShies", name := "wipe", desc := "()I" } : Jvm.MethodName) prog_1_method_3_code (2 : Nat) (Option.some Jvm.ClassFile.FieldType.int)) ∈ mm_big := mm_k 319 (by decide +kernel) rfl
theorem k_320 : (Jvm.Cond.methodLink "CoconutShiesLaw" (23 : Nat) ({ cls := "CoconutShies", name := "fault", desc := "()I" } : Jvm.MethodName)) ∈ mm_big := mm_k 320 (by decide +kernel) rfl
theorem k_321 : (Jvm.Cond.instanceMethod ({ cls := "CoconutShies", name := "fault", desc := "()I" } : Jvm.MethodName)) ∈ mm_big := mm_k 321 (by decide +kernel) rfl
theorem k_322 : (Jvm.Cond.selects "CoconutShies" ({ cls := "CoconutShies", name := "fault", desc := "()I" } : Jvm.MethodName) ({ cls := "CoconutShies", name := "fault", desc := "()I" } : Jvm.MethodName)) ∈ mm_big := mm_k 322 (by decide +kernel) rfl
theorem k_323 : (Jvm.Cond.code ({ cls := "CoconutShies", name := "fault", desc := "()I" } : Jvm.MethodName) prog_1_method_4_code (1 : Nat) (Option.some Jvm.ClassFile.FieldType.int)) ∈ mm_big := mm_k 323 (by decide +kernel) rfl
theorem k_324 : (Jvm.Cond.methodLink "CoconutShies" (87 : Nat) ({ cls := "CoconutShies$Booth", name := "readFrom", desc := "(LCoconutShies$Text;)I" } : Jvm.MethodName)) ∈ mm_big := mm_k 324 (by decide +kernel) rfl
theorem k_325 : (Jvm.Cond.instanceMethod ({ cls := "CoconutShies$Booth", name := "readFrom", desc := "(LCoconutShies$Text;)I" } : Jvm.MethodName)) ∈ mm_big := mm_k 325 (by decide +kernel) rfl
theorem k_326 : (Jvm.Cond.selects "CoconutShies$Booth" ({ cls := "CoconutShies$Booth", name := "readFrom", desc := "(LCoconutShies$Text;)I" } : Jvm.MethodName) ({ cls := "CoconutShies$Booth", name := "readFrom", desc := "(LCoconutShies$Text;)I" } : Jvm.MethodName)) ∈ mm_big := mm_k 326 (by decide +kernel) rfl
theorem k_327 : (Jvm.Cond.code ({ cls := "CoconutShies$Booth", name := "readFrom", desc := "(LCoconutShies$Text;)I" } : Jvm.MethodName) prog_3_method_4_code (4 : Nat) (Option.some Jvm.ClassFile.FieldType.int)) ∈ mm_big := mm_k 327 (by decide +kernel) rfl
theorem k_328 : (Jvm.Cond.methodLink "CoconutShies$Booth" (55 : Nat) ({ cls := "CoconutShies$Text", name := "letterAt", desc := "(I)I" } : Jvm.MethodName)) ∈ mm_big := mm_k 328 (by decide +kernel) rfl
theorem k_329 : (Jvm.Cond.instanceMethod ({ cls := "CoconutShies$Text", name := "letterAt", desc := "(I)I" } : Jvm.MethodName)) ∈ mm_big := mm_k 329 (by decide +kernel) rfl
theorem k_330 : (Jvm.Cond.selects "CoconutShies$Text" ({ cls := "CoconutShies$Text", name := "letterAt", desc := "(I)I" } : Jvm.MethodName) ({ cls := "CoconutShies$Text", name := "letterAt", desc := "(I)I" } : Jvm.MethodName)) ∈ mm_big := mm_k 330 (by decide +kernel) rfl
theorem k_331 : (Jvm.Cond.code ({ cls := "CoconutShies$Text", name := "letterAt", desc := "(I)I" } : Jvm.MethodName) prog_10_method_3_code (2 : Nat) (Option.some Jvm.ClassFile.FieldType.int)) ∈ mm_big := mm_k 331 (by decide +kernel) rfl
theorem k_332 : (Jvm.Cond.methodLink "CoconutShies$Booth" (61 : Nat) ({ cls := "CoconutShies$Text", name := "figureAt", desc := "(III)I" } : Jvm.MethodName)) ∈ mm_big := mm_k 332 (by decide +kernel) rfl
theorem k_333 : (Jvm.Cond.instanceMethod ({ cls := "CoconutShies$Text", name := "figureAt", desc := "(III)I" } : Jvm.MethodName)) ∈ mm_big := mm_k 333 (by decide +kernel) rfl
theorem k_334 : (Jvm.Cond.selects "CoconutShies$Text" ({ cls := "CoconutShies$Text", name := "figureAt", desc := "(III)I" } : Jvm.MethodName) ({ cls := "CoconutShies$Text", name := "figureAt", desc := "(III)I" } : Jvm.MethodName)) ∈ mm_big := mm_k 334 (by decide +kernel) rfl
theorem k_335 : (Jvm.Cond.code ({ cls := "CoconutShies$Text", name := "figureAt", desc := "(III)I" } : Jvm.MethodName) prog_10_method_4_code (5 : Nat) (Option.some Jvm.ClassFile.FieldType.int)) ∈ mm_big := mm_k 335 (by decide +kernel) rfl
theorem k_336 : (Jvm.Cond.methodLink "CoconutShies$Text" (19 : Nat) ({ cls := "CoconutShies$Text", name := "letterAt", desc := "(I)I" } : Jvm.MethodName)) ∈ mm_big := mm_k 336 (by decide +kernel) rfl
theorem k_337 : (Jvm.Cond.methodLink "CoconutShies$Booth" (68 : Nat) ({ cls := "CoconutShies$Booth", name := "readPart", desc := "(LCoconutShies$Text;I)I" } : Jvm.MethodName)) ∈ mm_big := mm_k 337 (by decide +kernel) rfl
theorem k_339 : (Jvm.Cond.instanceMethod ({ cls := "CoconutShies$Booth", name := "readPart", desc := "(LCoconutShies$Text;I)I" } : Jvm.MethodName)) ∈ mm_big := mm_k 339 (by decide +kernel) rfl
theorem k_340 : (Jvm.Cond.code ({ cls := "CoconutShies$Booth", name := "readPart", desc := "(LCoconutShies$Text;I)I" } : Jvm.MethodName) prog_3_method_5_code (3 : Nat) (Option.some Jvm.ClassFile.FieldType.int)) ∈ mm_big := mm_k 340 (by decide +kernel) rfl
theorem k_341 : (Jvm.Cond.methodLink "CoconutShies$Booth" (72 : Nat) ({ cls := "CoconutShies$Booth", name := "readHusk", desc := "(LCoconutShies$Text;I)I" } : Jvm.MethodName)) ∈ mm_big := mm_k 341 (by decide +kernel) rfl
theorem k_343 : (Jvm.Cond.instanceMethod ({ cls := "CoconutShies$Booth", name := "readHusk", desc := "(LCoconutShies$Text;I)I" } : Jvm.MethodName)) ∈ mm_big := mm_k 343 (by decide +kernel) rfl
theorem k_344 : (Jvm.Cond.code ({ cls := "CoconutShies$Booth", name := "readHusk", desc := "(LCoconutShies$Text;I)I" } : Jvm.MethodName) prog_3_method_6_code (6 : Nat) (Option.some Jvm.ClassFile.FieldType.int)) ∈ mm_big := mm_k 344 (by decide +kernel) rfl
theorem k_345 : (Jvm.Cond.methodLink "CoconutShies$Booth" (81 : Nat) ({ cls := "CoconutShies$Booth", name := "huskAt", desc := "(I)I" } : Jvm.MethodName)) ∈ mm_big := mm_k 345 (by decide +kernel) rfl
theorem k_346 : (Jvm.Cond.instanceMethod ({ cls := "CoconutShies$Booth", name := "huskAt", desc := "(I)I" } : Jvm.MethodName)) ∈ mm_big := mm_k 346 (by decide +kernel) rfl
theorem k_347 : (Jvm.Cond.selects "CoconutShies$Booth" ({ cls := "CoconutShies$Booth", name := "huskAt", desc := "(I)I" } : Jvm.MethodName) ({ cls := "CoconutShies$Booth", name := "huskAt", desc := "(I)I" } : Jvm.MethodName)) ∈ mm_big := mm_k 347 (by decide +kernel) rfl
theorem k_348 : (Jvm.Cond.code ({ cls := "CoconutShies$Booth", name := "huskAt", desc := "(I)I" } : Jvm.MethodName) prog_3_method_9_code (3 : Nat) (Option.some Jvm.ClassFile.FieldType.int)) ∈ mm_big := mm_k 348 (by decide +kernel) rfl
theorem k_349 : (Jvm.Cond.methodLink "CoconutShies$Booth" (75 : Nat) ({ cls := "CoconutShies$Booth", name := "readThrower", desc := "(LCoconutShies$Text;I)I" } : Jvm.MethodName)) ∈ mm_big := mm_k 349 (by decide +kernel) rfl
theorem k_351 : (Jvm.Cond.instanceMethod ({ cls := "CoconutShies$Booth", name := "readThrower", desc := "(LCoconutShies$Text;I)I" } : Jvm.MethodName)) ∈ mm_big := mm_k 351 (by decide +kernel) rfl
theorem k_352 : (Jvm.Cond.code ({ cls := "CoconutShies$Booth", name := "readThrower", desc := "(LCoconutShies$Text;I)I" } : Jvm.MethodName) prog_3_method_7_code (6 : Nat) (Option.some Jvm.ClassFile.FieldType.int)) ∈ mm_big := mm_k 352 (by decide +kernel) rfl
theorem k_353 : (Jvm.Cond.methodLink "CoconutShies$Booth" (78 : Nat) ({ cls := "CoconutShies$Booth", name := "readLaw", desc := "(LCoconutShies$Text;I)I" } : Jvm.MethodName)) ∈ mm_big := mm_k 353 (by decide +kernel) rfl
theorem k_355 : (Jvm.Cond.instanceMethod ({ cls := "CoconutShies$Booth", name := "readLaw", desc := "(LCoconutShies$Text;I)I" } : Jvm.MethodName)) ∈ mm_big := mm_k 355 (by decide +kernel) rfl
theorem k_356 : (Jvm.Cond.code ({ cls := "CoconutShies$Booth", name := "readLaw", desc := "(LCoconutShies$Text;I)I" } : Jvm.MethodName) prog_3_method_8_code (6 : Nat) (Option.some Jvm.ClassFile.FieldType.int)) ∈ mm_big := mm_k 356 (by decide +kernel) rfl
theorem k_357 : (Jvm.Cond.methodLink "CoconutShiesLaw" (27 : Nat) ({ cls := "CoconutShies", name := "fair", desc := "()I" } : Jvm.MethodName)) ∈ mm_big := mm_k 357 (by decide +kernel) rfl
theorem k_358 : (Jvm.Cond.instanceMethod ({ cls := "CoconutShies", name := "fair", desc := "()I" } : Jvm.MethodName)) ∈ mm_big := mm_k 358 (by decide +kernel) rfl
theorem k_359 : (Jvm.Cond.selects "CoconutShies" ({ cls := "CoconutShies", name := "fair", desc := "()I" } : Jvm.MethodName) ({ cls := "CoconutShies", name := "fair", desc := "()I" } : Jvm.MethodName)) ∈ mm_big := mm_k 359 (by decide +kernel) rfl
theorem k_360 : (Jvm.Cond.code ({ cls := "CoconutShies", name := "fair", desc := "()I" } : Jvm.MethodName) prog_1_method_5_code (2 : Nat) (Option.some Jvm.ClassFile.FieldType.int)) ∈ mm_big := mm_k 360 (by decide +kernel) rfl
theorem k_361 : (Jvm.Cond.methodLink "CoconutShies" (91 : Nat) ({ cls := "CoconutShies$Stand", name := "makeAnew", desc := "(LCoconutShies$Booth;)V" } : Jvm.MethodName)) ∈ mm_big := mm_k 361 (by decide +kernel) rfl
theorem k_362 : (Jvm.Cond.instanceMethod ({ cls := "CoconutShies$Stand", name := "makeAnew", desc := "(LCoconutShies$Booth;)V" } : Jvm.MethodName)) ∈ mm_big := mm_k 362 (by decide +kernel) rfl
theorem k_363 : (Jvm.Cond.selects "CoconutShies$Stand" ({ cls := "CoconutShies$Stand", name := "makeAnew", desc := "(LCoconutShies$Booth;)V" } : Jvm.MethodName) ({ cls := "CoconutShies$Stand", name := "makeAnew", desc := "(LCoconutShies$Booth;)V" } : Jvm.MethodName)) ∈ mm_big := mm_k 363 (by decide +kernel) rfl
theorem k_364 : (Jvm.Cond.code ({ cls := "CoconutShies$Stand", name := "makeAnew", desc := "(LCoconutShies$Booth;)V" } : Jvm.MethodName) prog_9_method_2_code (3 : Nat) (Option.none : Option Jvm.ClassFile.FieldType)) ∈ mm_big := mm_k 364 (by decide +kernel) rfl
theorem k_365 : (Jvm.Cond.methodLink "CoconutShies" (95 : Nat) ({ cls := "CoconutShies$Acts", name := "forgetAll", desc := "()V" } : Jvm.MethodName)) ∈ mm_big := mm_k 365 (by decide +kernel) rfl
theorem k_366 : (Jvm.Cond.instanceMethod ({ cls := "CoconutShies$Acts", name := "forgetAll", desc := "()V" } : Jvm.MethodName)) ∈ mm_big := mm_k 366 (by decide +kernel) rfl
theorem k_367 : (Jvm.Cond.selects "CoconutShies$Acts" ({ cls := "CoconutShies$Acts", name := "forgetAll", desc := "()V" } : Jvm.MethodName) ({ cls := "CoconutShies$Acts", name := "forgetAll", desc := "()V" } : Jvm.MethodName)) ∈ mm_big := mm_k 367 (by decide +kernel) rfl
theorem k_368 : (Jvm.Cond.code ({ cls := "CoconutShies$Acts", name := "forgetAll", desc := "()V" } : Jvm.MethodName) prog_2_method_4_code (1 : Nat) (Option.none : Option Jvm.ClassFile.FieldType)) ∈ mm_big := mm_k 368 (by decide +kernel) rfl
theorem k_369 : (Jvm.Cond.methodLink "CoconutShies" (98 : Nat) ({ cls := "CoconutShies$Slots", name := "forgetAll", desc := "()V" } : Jvm.MethodName)) ∈ mm_big := mm_k 369 (by decide +kernel) rfl
theorem k_370 : (Jvm.Cond.instanceMethod ({ cls := "CoconutShies$Slots", name := "forgetAll", desc := "()V" } : Jvm.MethodName)) ∈ mm_big := mm_k 370 (by decide +kernel) rfl
theorem k_371 : (Jvm.Cond.selects "CoconutShies$Slots" ({ cls := "CoconutShies$Slots", name := "forgetAll", desc := "()V" } : Jvm.MethodName) ({ cls := "CoconutShies$Slots", name := "forgetAll", desc := "()V" } : Jvm.MethodName)) ∈ mm_big := mm_k 371 (by decide +kernel) rfl
theorem k_372 : (Jvm.Cond.code ({ cls := "CoconutShies$Slots", name := "forgetAll", desc := "()V" } : Jvm.MethodName) prog_8_method_4_code (2 : Nat) (Option.none : Option Jvm.ClassFile.FieldType)) ∈ mm_big := mm_k 372 (by decide +kernel) rfl
theorem k_373 : (Jvm.Cond.methodLink "CoconutShiesLaw" (31 : Nat) ({ cls := "CoconutShies", name := "about", desc := "(I)I" } : Jvm.MethodName)) ∈ mm_big := mm_k 373 (by decide +kernel) rfl
theorem k_374 : (Jvm.Cond.instanceMethod ({ cls := "CoconutShies", name := "about", desc := "(I)I" } : Jvm.MethodName)) ∈ mm_big := mm_k 374 (by decide +kernel) rfl
theorem k_375 : (Jvm.Cond.selects "CoconutShies" ({ cls := "CoconutShies", name := "about", desc := "(I)I" } : Jvm.MethodName) ({ cls := "CoconutShies", name := "about", desc := "(I)I" } : Jvm.MethodName)) ∈ mm_big := mm_k 375 (by decide +kernel) rfl
theorem k_376 : (Jvm.Cond.code ({ cls := "CoconutShies", name := "about", desc := "(I)I" } : Jvm.MethodName) prog_1_method_6_code (2 : Nat) (Option.some Jvm.ClassFile.FieldType.int)) ∈ mm_big := mm_k 376 (by decide +kernel) rfl
theorem k_377 : (Jvm.Cond.methodLink "CoconutShiesLaw" (35 : Nat) ({ cls := "CoconutShies", name := "husk", desc := "(II)I" } : Jvm.MethodName)) ∈ mm_big := mm_k 377 (by decide +kernel) rfl
theorem k_378 : (Jvm.Cond.instanceMethod ({ cls := "CoconutShies", name := "husk", desc := "(II)I" } : Jvm.MethodName)) ∈ mm_big := mm_k 378 (by decide +kernel) rfl
theorem k_379 : (Jvm.Cond.selects "CoconutShies" ({ cls := "CoconutShies", name := "husk", desc := "(II)I" } : Jvm.MethodName) ({ cls := "CoconutShies", name := "husk", desc := "(II)I" } : Jvm.MethodName)) ∈ mm_big := mm_k 379 (by decide +kernel) rfl
theorem k_380 : (Jvm.Cond.code ({ cls := "CoconutShies", name := "husk", desc := "(II)I" } : Jvm.MethodName) prog_1_method_7_code (3 : Nat) (Option.some Jvm.ClassFile.FieldType.int)) ∈ mm_big := mm_k 380 (by decide +kernel) rfl
theorem k_381 : (Jvm.Cond.methodLink "CoconutShies" (121 : Nat) ({ cls := "CoconutShies$Booth", name := "isHusk", desc := "(I)Z" } : Jvm.MethodName)) ∈ mm_big := mm_k 381 (by decide +kernel) rfl
theorem k_382 : (Jvm.Cond.instanceMethod ({ cls := "CoconutShies$Booth", name := "isHusk", desc := "(I)Z" } : Jvm.MethodName)) ∈ mm_big := mm_k 382 (by decide +kernel) rfl
theorem k_383 : (Jvm.Cond.selects "CoconutShies$Booth" ({ cls := "CoconutShies$Booth", name := "isHusk", desc := "(I)Z" } : Jvm.MethodName) ({ cls := "CoconutShies$Booth", name := "isHusk", desc := "(I)Z" } : Jvm.MethodName)) ∈ mm_big := mm_k 383 (by decide +kernel) rfl
theorem k_384 : (Jvm.Cond.code ({ cls := "CoconutShies$Booth", name := "isHusk", desc := "(I)Z" } : Jvm.MethodName) prog_3_method_2_code (2 : Nat) (Option.some Jvm.ClassFile.FieldType.boolean)) ∈ mm_big := mm_k 384 (by decide +kernel) rfl
theorem k_385 : (Jvm.Cond.methodLink "CoconutShies" (134 : Nat) ({ cls := "CoconutShies$Stand", name := "firmness", desc := "(LCoconutShies$Booth;I)I" } : Jvm.MethodName)) ∈ mm_big := mm_k 385 (by decide +kernel) rfl
theorem k_386 : (Jvm.Cond.instanceMethod ({ cls := "CoconutShies$Stand", name := "firmness", desc := "(LCoconutShies$Booth;I)I" } : Jvm.MethodName)) ∈ mm_big := mm_k 386 (by decide +kernel) rfl
theorem k_387 : (Jvm.Cond.selects "CoconutShies$Stand" ({ cls := "CoconutShies$Stand", name := "firmness", desc := "(LCoconutShies$Booth;I)I" } : Jvm.MethodName) ({ cls := "CoconutShies$Stand", name := "firmness", desc := "(LCoconutShies$Booth;I)I" } : Jvm.MethodName)) ∈ mm_big := mm_k 387 (by decide +kernel) rfl
theorem k_388 : (Jvm.Cond.code ({ cls := "CoconutShies$Stand", name := "firmness", desc := "(LCoconutShies$Booth;I)I" } : Jvm.MethodName) prog_9_method_6_code (4 : Nat) (Option.some Jvm.ClassFile.FieldType.int)) ∈ mm_big := mm_k 388 (by decide +kernel) rfl
theorem k_390 : (Jvm.Cond.static ({ cls := "CoconutShies", name := "bit", desc := "(II)I" } : Jvm.MethodName)) ∈ mm_big := mm_k 390 (by decide +kernel) rfl
theorem k_391 : (Jvm.Cond.code ({ cls := "CoconutShies", name := "bit", desc := "(II)I" } : Jvm.MethodName) prog_1_method_34_code (2 : Nat) (Option.some Jvm.ClassFile.FieldType.int)) ∈ mm_big := mm_k 391 (by decide +kernel) rfl
theorem k_392 : (Jvm.Cond.methodLink "CoconutShies$Stand" (67 : Nat) ({ cls := "java/lang/Math", name := "max", desc := "(II)I" } : Jvm.MethodName)) ∈ mm_big := mm_k 392 (by decide +kernel) rfl
theorem k_393 : (Jvm.Cond.methodLink "CoconutShies" (147 : Nat) ({ cls := "CoconutShies", name := "bit", desc := "(II)I" } : Jvm.MethodName)) ∈ mm_big := mm_k 393 (by decide +kernel) rfl
theorem k_394 : (Jvm.Cond.methodLink "CoconutShiesLaw" (40 : Nat) ({ cls := "CoconutShies", name := "thrower", desc := "(II)I" } : Jvm.MethodName)) ∈ mm_big := mm_k 394 (by decide +kernel) rfl
theorem k_395 : (Jvm.Cond.instanceMethod ({ cls := "CoconutShies", name := "thrower", desc := "(II)I" } : Jvm.MethodName)) ∈ mm_big := mm_k 395 (by decide +kernel) rfl
theorem k_396 : (Jvm.Cond.selects "CoconutShies" ({ cls := "CoconutShies", name := "thrower", desc := "(II)I" } : Jvm.MethodName) ({ cls := "CoconutShies", name := "thrower", desc := "(II)I" } : Jvm.MethodName)) ∈ mm_big := mm_k 396 (by decide +kernel) rfl
theorem k_397 : (Jvm.Cond.code ({ cls := "CoconutShies", name := "thrower", desc := "(II)I" } : Jvm.MethodName) prog_1_method_8_code (3 : Nat) (Option.some Jvm.ClassFile.FieldType.int)) ∈ mm_big := mm_k 397 (by decide +kernel) rfl
theorem k_398 : (Jvm.Cond.methodLink "CoconutShies" (154 : Nat) ({ cls := "CoconutShies$Booth", name := "isThrower", desc := "(I)Z" } : Jvm.MethodName)) ∈ mm_big := mm_k 398 (by decide +kernel) rfl
theorem k_399 : (Jvm.Cond.instanceMethod ({ cls := "CoconutShies$Booth", name := "isThrower", desc := "(I)Z" } : Jvm.MethodName)) ∈ mm_big := mm_k 399 (by decide +kernel) rfl
theorem k_400 : (Jvm.Cond.selects "CoconutShies$Booth" ({ cls := "CoconutShies$Booth", name := "isThrower", desc := "(I)Z" } : Jvm.MethodName) ({ cls := "CoconutShies$Booth", name := "isThrower", desc := "(I)Z" } : Jvm.MethodName)) ∈ mm_big := mm_k 400 (by decide +kernel) rfl
theorem k_401 : (Jvm.Cond.code ({ cls := "CoconutShies$Booth", name := "isThrower", desc := "(I)Z" } : Jvm.MethodName) prog_3_method_3_code (2 : Nat) (Option.some Jvm.ClassFile.FieldType.boolean)) ∈ mm_big := mm_k 401 (by decide +kernel) rfl
theorem k_402 : (Jvm.Cond.methodLink "CoconutShies" (166 : Nat) ({ cls := "CoconutShies$Booth", name := "loosensBy", desc := "(I)I" } : Jvm.MethodName)) ∈ mm_big := mm_k 402 (by decide +kernel) rfl
theorem k_403 : (Jvm.Cond.instanceMethod ({ cls := "CoconutShies$Booth", name := "loosensBy", desc := "(I)I" } : Jvm.MethodName)) ∈ mm_big := mm_k 403 (by decide +kernel) rfl
theorem k_404 : (Jvm.Cond.selects "CoconutShies$Booth" ({ cls := "CoconutShies$Booth", name := "loosensBy", desc := "(I)I" } : Jvm.MethodName) ({ cls := "CoconutShies$Booth", name := "loosensBy", desc := "(I)I" } : Jvm.MethodName)) ∈ mm_big := mm_k 404 (by decide +kernel) rfl
theorem k_405 : (Jvm.Cond.code ({ cls := "CoconutShies$Booth", name := "loosensBy", desc := "(I)I" } : Jvm.MethodName) prog_3_method_10_code (2 : Nat) (Option.some Jvm.ClassFile.FieldType.int)) ∈ mm_big := mm_k 405 (by decide +kernel) rfl
theorem k_406 : (Jvm.Cond.methodLink "CoconutShiesLaw" (44 : Nat) ({ cls := "CoconutShies", name := "lands", desc := "(III)I" } : Jvm.MethodName)) ∈ mm_big := mm_k 406 (by decide +kernel) rfl
theorem k_407 : (Jvm.Cond.instanceMethod ({ cls := "CoconutShies", name := "lands", desc := "(III)I" } : Jvm.MethodName)) ∈ mm_big := mm_k 407 (by decide +kernel) rfl
theorem k_408 : (Jvm.Cond.selects "CoconutShies" ({ cls := "CoconutShies", name := "lands", desc := "(III)I" } : Jvm.MethodName) ({ cls := "CoconutShies", name := "lands", desc := "(III)I" } : Jvm.MethodName)) ∈ mm_big := mm_k 408 (by decide +kernel) rfl
theorem k_409 : (Jvm.Cond.code ({ cls := "CoconutShies", name := "lands", desc := "(III)I" } : Jvm.MethodName) prog_1_method_9_code (5 : Nat) (Option.some Jvm.ClassFile.FieldType.int)) ∈ mm_big := mm_k 409 (by decide +kernel) rfl
theorem k_410 : (Jvm.Cond.methodLink "CoconutShies" (170 : Nat) ({ cls := "CoconutShies", name := "refusalOfThrow", desc := "(III)I" } : Jvm.MethodName)) ∈ mm_big := mm_k 410 (by decide +kernel) rfl
theorem k_412 : (Jvm.Cond.instanceMethod ({ cls := "CoconutShies", name := "refusalOfThrow", desc := "(III)I" } : Jvm.MethodName)) ∈ mm_big := mm_k 412 (by decide +kernel) rfl
theorem k_413 : (Jvm.Cond.code ({ cls := "CoconutShies", name := "refusalOfThrow", desc := "(III)I" } : Jvm.MethodName) prog_1_method_32_code (4 : Nat) (Option.some Jvm.ClassFile.FieldType.int)) ∈ mm_big := mm_k 413 (by decide +kernel) rfl
theorem k_414 : (Jvm.Cond.methodLink "CoconutShies" (259 : Nat) ({ cls := "CoconutShies", name := "isPlace", desc := "(I)Z" } : Jvm.MethodName)) ∈ mm_big := mm_k 414 (by decide +kernel) rfl
theorem k_415 : (Jvm.Cond.static ({ cls := "CoconutShies", name := "isPlace", desc := "(I)Z" } : Jvm.MethodName)) ∈ mm_big := mm_k 415 (by decide +kernel) rfl
theorem k_416 : (Jvm.Cond.code ({ cls := "CoconutShies", name := "isPlace", desc := "(I)Z" } : Jvm.MethodName) prog_1_method_33_code (1 : Nat) (Option.some Jvm.ClassFile.FieldType.boolean)) ∈ mm_big := mm_k 416 (by decide +kernel) rfl
theorem k_417 : (Jvm.Cond.methodLink "CoconutShies" (174 : Nat) ({ cls := "CoconutShies$Booth", name := "landing", desc := "(IIII)I" } : Jvm.MethodName)) ∈ mm_big := mm_k 417 (by decide +kernel) rfl
theorem k_418 : (Jvm.Cond.instanceMethod ({ cls := "CoconutShies$Booth", name := "landing", desc := "(IIII)I" } : Jvm.MethodName)) ∈ mm_big := mm_k 418 (by decide +kernel) rfl
theorem k_419 : (Jvm.Cond.selects "CoconutShies$Booth" ({ cls := "CoconutShies$Booth", name := "landing", desc := "(IIII)I" } : Jvm.MethodName) ({ cls := "CoconutShies$Booth", name := "landing", desc := "(IIII)I" } : Jvm.MethodName)) ∈ mm_big := mm_k 419 (by decide +kernel) rfl
theorem k_420 : (Jvm.Cond.code ({ cls := "CoconutShies$Booth", name := "landing", desc := "(IIII)I" } : Jvm.MethodName) prog_3_method_11_code (6 : Nat) (Option.some Jvm.ClassFile.FieldType.int)) ∈ mm_big := mm_k 420 (by decide +kernel) rfl
theorem k_421 : (Jvm.Cond.methodLink "CoconutShies$Booth" (84 : Nat) ({ cls := "CoconutShies$Booth", name := "astray", desc := "(II)I" } : Jvm.MethodName)) ∈ mm_big := mm_k 421 (by decide +kernel) rfl
theorem k_423 : (Jvm.Cond.instanceMethod ({ cls := "CoconutShies$Booth", name := "astray", desc := "(II)I" } : Jvm.MethodName)) ∈ mm_big := mm_k 423 (by decide +kernel) rfl
theorem k_424 : (Jvm.Cond.code ({ cls := "CoconutShies$Booth", name := "astray", desc := "(II)I" } : Jvm.MethodName) prog_3_method_13_code (5 : Nat) (Option.some Jvm.ClassFile.FieldType.int)) ∈ mm_big := mm_k 424 (by decide +kernel) rfl
theorem k_425 : (Jvm.Cond.methodLink "CoconutShies$Booth" (88 : Nat) ({ cls := "CoconutShies$Booth", name := "drift", desc := "(II)I" } : Jvm.MethodName)) ∈ mm_big := mm_k 425 (by decide +kernel) rfl
theorem k_427 : (Jvm.Cond.instanceMethod ({ cls := "CoconutShies$Booth", name := "drift", desc := "(II)I" } : Jvm.MethodName)) ∈ mm_big := mm_k 427 (by decide +kernel) rfl
theorem k_428 : (Jvm.Cond.code ({ cls := "CoconutShies$Booth", name := "drift", desc := "(II)I" } : Jvm.MethodName) prog_3_method_14_code (3 : Nat) (Option.some Jvm.ClassFile.FieldType.int)) ∈ mm_big := mm_k 428 (by decide +kernel) rfl
theorem k_430 : (Jvm.Cond.methodLink "CoconutShiesLaw" (49 : Nat) ({ cls := "CoconutShies", name := "toss", desc := "(III)I" } : Jvm.MethodName)) ∈ mm_big := mm_k 430 (by decide +kernel) rfl
theorem k_431 : (Jvm.Cond.instanceMethod ({ cls := "CoconutShies", name := "toss", desc := "(III)I" } : Jvm.MethodName)) ∈ mm_big := mm_k 431 (by decide +kernel) rfl
theorem k_432 : (Jvm.Cond.selects "CoconutShies" ({ cls := "CoconutShies", name := "toss", desc := "(III)I" } : Jvm.MethodName) ({ cls := "CoconutShies", name := "toss", desc := "(III)I" } : Jvm.MethodName)) ∈ mm_big := mm_k 432 (by decide +kernel) rfl
theorem k_433 : (Jvm.Cond.code ({ cls := "CoconutShies", name := "toss", desc := "(III)I" } : Jvm.MethodName) prog_1_method_10_code (5 : Nat) (Option.some Jvm.ClassFile.FieldType.int)) ∈ mm_big := mm_k 433 (by decide +kernel) rfl
theorem k_434 : (Jvm.Cond.methodLink "CoconutShies" (178 : Nat) ({ cls := "CoconutShies$Acts", name := "remember", desc := "(LCoconutShies$Stand;)V" } : Jvm.MethodName)) ∈ mm_big := mm_k 434 (by decide +kernel) rfl
theorem k_435 : (Jvm.Cond.instanceMethod ({ cls := "CoconutShies$Acts", name := "remember", desc := "(LCoconutShies$Stand;)V" } : Jvm.MethodName)) ∈ mm_big := mm_k 435 (by decide +kernel) rfl
theorem k_436 : (Jvm.Cond.selects "CoconutShies$Acts" ({ cls := "CoconutShies$Acts", name := "remember", desc := "(LCoconutShies$Stand;)V" } : Jvm.MethodName) ({ cls := "CoconutShies$Acts", name := "remember", desc := "(LCoconutShies$Stand;)V" } : Jvm.MethodName)) ∈ mm_big := mm_k 436 (by decide +kernel) rfl
theorem k_437 : (Jvm.Cond.code ({ cls := "CoconutShies$Acts", name := "remember", desc := "(LCoconutShies$Stand;)V" } : Jvm.MethodName) prog_2_method_2_code (2 : Nat) (Option.none : Option Jvm.ClassFile.FieldType)) ∈ mm_big := mm_k 437 (by decide +kernel) rfl
theorem k_438 : (Jvm.Cond.methodLink "CoconutShies$Acts" (26 : Nat) ({ cls := "CoconutShies$Stand", name := "becomeAs", desc := "(LCoconutShies$Stand;)V" } : Jvm.MethodName)) ∈ mm_big := mm_k 438 (by decide +kernel) rfl
theorem k_439 : (Jvm.Cond.instanceMethod ({ cls := "CoconutShies$Stand", name := "becomeAs", desc := "(LCoconutShies$Stand;)V" } : Jvm.MethodName)) ∈ mm_big := mm_k 439 (by decide +kernel) rfl
theorem k_440 : (Jvm.Cond.selects "CoconutShies$Stand" ({ cls := "CoconutShies$Stand", name := "becomeAs", desc := "(LCoconutShies$Stand;)V" } : Jvm.MethodName) ({ cls := "CoconutShies$Stand", name := "becomeAs", desc := "(LCoconutShies$Stand;)V" } : Jvm.MethodName)) ∈ mm_big := mm_k 440 (by decide +kernel) rfl
theorem k_441 : (Jvm.Cond.code ({ cls := "CoconutShies$Stand", name := "becomeAs", desc := "(LCoconutShies$Stand;)V" } : Jvm.MethodName) prog_9_method_3_code (2 : Nat) (Option.none : Option Jvm.ClassFile.FieldType)) ∈ mm_big := mm_k 441 (by decide +kernel) rfl
theorem k_442 : (Jvm.Cond.methodLink "CoconutShies$Stand" (48 : Nat) ({ cls := "java/lang/System", name := "arraycopy", desc := "(Ljava/lang/Object;ILjava/lang/Object;II)V" } : Jvm.MethodName)) ∈ mm_big := mm_k 442 (by decide +kernel) rfl
theorem k_443 : (Jvm.Cond.static ({ cls := "java/lang/System", name := "arraycopy", desc := "(Ljava/lang/Object;ILjava/lang/Object;II)V" } : Jvm.MethodName)) ∈ mm_big := mm_k 443 (by decide +kernel) rfl
theorem k_444 : (Jvm.Cond.native ({ cls := "java/lang/System", name := "arraycopy", desc := "(Ljava/lang/Object;ILjava/lang/Object;II)V" } : Jvm.MethodName)) ∈ mm_big := mm_k 444 (by decide +kernel) rfl
theorem k_445 : (Jvm.Cond.methodLink "CoconutShies" (182 : Nat) ({ cls := "CoconutShies$Stand", name := "throwBy", desc := "(LCoconutShies$Booth;III)I" } : Jvm.MethodName)) ∈ mm_big := mm_k 445 (by decide +kernel) rfl
theorem k_446 : (Jvm.Cond.instanceMethod ({ cls := "CoconutShies$Stand", name := "throwBy", desc := "(LCoconutShies$Booth;III)I" } : Jvm.MethodName)) ∈ mm_big := mm_k 446 (by decide +kernel) rfl
theorem k_447 : (Jvm.Cond.selects "CoconutShies$Stand" ({ cls := "CoconutShies$Stand", name := "throwBy", desc := "(LCoconutShies$Booth;III)I" } : Jvm.MethodName) ({ cls := "CoconutShies$Stand", name := "throwBy", desc := "(LCoconutShies$Booth;III)I" } : Jvm.MethodName)) ∈ mm_big := mm_k 447 (by decide +kernel) rfl
theorem k_448 : (Jvm.Cond.code ({ cls := "CoconutShies$Stand", name := "throwBy", desc := "(LCoconutShies$Booth;III)I" } : Jvm.MethodName) prog_9_method_10_code (6 : Nat) (Option.some Jvm.ClassFile.FieldType.int)) ∈ mm_big := mm_k 448 (by decide +kernel) rfl
theorem k_449 : (Jvm.Cond.methodLink "CoconutShies$Stand" (79 : Nat) ({ cls := "CoconutShies$Booth", name := "landing", desc := "(IIII)I" } : Jvm.MethodName)) ∈ mm_big := mm_k 449 (by decide +kernel) rfl
theorem k_450 : (Jvm.Cond.methodLink "CoconutShies$Stand" (83 : Nat) ({ cls := "CoconutShies$Booth", name := "huskAt", desc := "(I)I" } : Jvm.MethodName)) ∈ mm_big := mm_k 450 (by decide +kernel) rfl
theorem k_451 : (Jvm.Cond.methodLink "CoconutShies$Stand" (72 : Nat) ({ cls := "CoconutShies$Stand", name := "isUp", desc := "(I)Z" } : Jvm.MethodName)) ∈ mm_big := mm_k 451 (by decide +kernel) rfl
theorem k_452 : (Jvm.Cond.instanceMethod ({ cls := "CoconutShies$Stand", name := "isUp", desc := "(I)Z" } : Jvm.MethodName)) ∈ mm_big := mm_k 452 (by decide +kernel) rfl
theorem k_453 : (Jvm.Cond.selects "CoconutShies$Stand" ({ cls := "CoconutShies$Stand", name := "isUp", desc := "(I)Z" } : Jvm.MethodName) ({ cls := "CoconutShies$Stand", name := "isUp", desc := "(I)Z" } : Jvm.MethodName)) ∈ mm_big := mm_k 453 (by decide +kernel) rfl
theorem k_454 : (Jvm.Cond.code ({ cls := "CoconutShies$Stand", name := "isUp", desc := "(I)Z" } : Jvm.MethodName) prog_9_method_4_code (2 : Nat) (Option.some Jvm.ClassFile.FieldType.boolean)) ∈ mm_big := mm_k 454 (by decide +kernel) rfl
theorem k_455 : (Jvm.Cond.methodLink "CoconutShies$Stand" (86 : Nat) ({ cls := "CoconutShies$Stand", name := "strike", desc := "(LCoconutShies$Booth;II)I" } : Jvm.MethodName)) ∈ mm_big := mm_k 455 (by decide +kernel) rfl
theorem k_456 : (Jvm.Cond.instanceMethod ({ cls := "CoconutShies$Stand", name := "strike", desc := "(LCoconutShies$Booth;II)I" } : Jvm.MethodName)) ∈ mm_big := mm_k 456 (by decide +kernel) rfl
theorem k_457 : (Jvm.Cond.selects "CoconutShies$Stand" ({ cls := "CoconutShies$Stand", name := "strike", desc := "(LCoconutShies$Booth;II)I" } : Jvm.MethodName) ({ cls := "CoconutShies$Stand", name := "strike", desc := "(LCoconutShies$Booth;II)I" } : Jvm.MethodName)) ∈ mm_big := mm_k 457 (by decide +kernel) rfl
theorem k_458 : (Jvm.Cond.code ({ cls := "CoconutShies$Stand", name := "strike", desc := "(LCoconutShies$Booth;II)I" } : Jvm.MethodName) prog_9_method_12_code (4 : Nat) (Option.some Jvm.ClassFile.FieldType.int)) ∈ mm_big := mm_k 458 (by decide +kernel) rfl
theorem k_459 : (Jvm.Cond.methodLink "CoconutShies$Stand" (94 : Nat) ({ cls := "CoconutShies$Booth", name := "loosensBy", desc := "(I)I" } : Jvm.MethodName)) ∈ mm_big := mm_k 459 (by decide +kernel) rfl
theorem k_460 : (Jvm.Cond.methodLink "CoconutShies$Stand" (97 : Nat) ({ cls := "CoconutShies$Stand", name := "firmness", desc := "(LCoconutShies$Booth;I)I" } : Jvm.MethodName)) ∈ mm_big := mm_k 460 (by decide +kernel) rfl
theorem k_461 : (Jvm.Cond.methodLink "CoconutShies$Stand" (101 : Nat) ({ cls := "CoconutShies$Stand", name := "fall", desc := "(LCoconutShies$Booth;LCoconutShies$Stand;III)I" } : Jvm.MethodName)) ∈ mm_big := mm_k 461 (by decide +kernel) rfl
theorem k_462 : (Jvm.Cond.static ({ cls := "CoconutShies$Stand", name := "fall", desc := "(LCoconutShies$Booth;LCoconutShies$Stand;III)I" } : Jvm.MethodName)) ∈ mm_big := mm_k 462 (by decide +kernel) rfl
theorem k_463 : (Jvm.Cond.code ({ cls := "CoconutShies$Stand", name := "fall", desc := "(LCoconutShies$Booth;LCoconutShies$Stand;III)I" } : Jvm.MethodName) prog_9_method_13_code (8 : Nat) (Option.some Jvm.ClassFile.FieldType.int)) ∈ mm_big := mm_k 463 (by decide +kernel) rfl
theorem k_464 : (Jvm.Cond.methodLink "CoconutShies$Stand" (117 : Nat) ({ cls := "CoconutShies$Stand", name := "setUp", desc := "(I)Z" } : Jvm.MethodName)) ∈ mm_big := mm_k 464 (by decide +kernel) rfl
theorem k_465 : (Jvm.Cond.instanceMethod ({ cls := "CoconutShies$Stand", name := "setUp", desc := "(I)Z" } : Jvm.MethodName)) ∈ mm_big := mm_k 465 (by decide +kernel) rfl
theorem k_466 : (Jvm.Cond.selects "CoconutShies$Stand" ({ cls := "CoconutShies$Stand", name := "setUp", desc := "(I)Z" } : Jvm.MethodName) ({ cls := "CoconutShies$Stand", name := "setUp", desc := "(I)Z" } : Jvm.MethodName)) ∈ mm_big := mm_k 466 (by decide +kernel) rfl
theorem k_467 : (Jvm.Cond.code ({ cls := "CoconutShies$Stand", name := "setUp", desc := "(I)Z" } : Jvm.MethodName) prog_9_method_7_code (2 : Nat) (Option.some Jvm.ClassFile.FieldType.boolean)) ∈ mm_big := mm_k 467 (by decide +kernel) rfl
theorem k_468 : (Jvm.Cond.methodLink "CoconutShiesLaw" (53 : Nat) ({ cls := "CoconutShies", name := "set", desc := "(I)I" } : Jvm.MethodName)) ∈ mm_big := mm_k 468 (by decide +kernel) rfl
theorem k_469 : (Jvm.Cond.instanceMethod ({ cls := "CoconutShies", name := "set", desc := "(I)I" } : Jvm.MethodName)) ∈ mm_big := mm_k 469 (by decide +kernel) rfl
theorem k_470 : (Jvm.Cond.selects "CoconutShies" ({ cls := "CoconutShies", name := "set", desc := "(I)I" } : Jvm.MethodName) ({ cls := "CoconutShies", name := "set", desc := "(I)I" } : Jvm.MethodName)) ∈ mm_big := mm_k 470 (by decide +kernel) rfl
theorem k_471 : (Jvm.Cond.code ({ cls := "CoconutShies", name := "set", desc := "(I)I" } : Jvm.MethodName) prog_1_method_11_code (2 : Nat) (Option.some Jvm.ClassFile.FieldType.int)) ∈ mm_big := mm_k 471 (by decide +kernel) rfl
theorem k_472 : (Jvm.Cond.methodLink "CoconutShies" (186 : Nat) ({ cls := "CoconutShies$Stand", name := "isUp", desc := "(I)Z" } : Jvm.MethodName)) ∈ mm_big := mm_k 472 (by decide +kernel) rfl
theorem k_473 : (Jvm.Cond.methodLink "CoconutShies" (189 : Nat) ({ cls := "CoconutShies$Stand", name := "setUp", desc := "(I)Z" } : Jvm.MethodName)) ∈ mm_big := mm_k 473 (by decide +kernel) rfl
theorem k_474 : (Jvm.Cond.methodLink "CoconutShiesLaw" (57 : Nat) ({ cls := "CoconutShies", name := "nail", desc := "(I)I" } : Jvm.MethodName)) ∈ mm_big := mm_k 474 (by decide +kernel) rfl
theorem k_475 : (Jvm.Cond.instanceMethod ({ cls := "CoconutShies", name := "nail", desc := "(I)I" } : Jvm.MethodName)) ∈ mm_big := mm_k 475 (by decide +kernel) rfl
theorem k_476 : (Jvm.Cond.selects "CoconutShies" ({ cls := "CoconutShies", name := "nail", desc := "(I)I" } : Jvm.MethodName) ({ cls := "CoconutShies", name := "nail", desc := "(I)I" } : Jvm.MethodName)) ∈ mm_big := mm_k 476 (by decide +kernel) rfl
theorem k_477 : (Jvm.Cond.code ({ cls := "CoconutShies", name := "nail", desc := "(I)I" } : Jvm.MethodName) prog_1_method_12_code (2 : Nat) (Option.some Jvm.ClassFile.FieldType.int)) ∈ mm_big := mm_k 477 (by decide +kernel) rfl
theorem k_478 : (Jvm.Cond.methodLink "CoconutShies" (192 : Nat) ({ cls := "CoconutShies$Stand", name := "turnNail", desc := "(I)Z" } : Jvm.MethodName)) ∈ mm_big := mm_k 478 (by decide +kernel) rfl
theorem k_479 : (Jvm.Cond.instanceMethod ({ cls := "CoconutShies$Stand", name := "turnNail", desc := "(I)Z" } : Jvm.MethodName)) ∈ mm_big := mm_k 479 (by decide +kernel) rfl
theorem k_480 : (Jvm.Cond.selects "CoconutShies$Stand" ({ cls := "CoconutShies$Stand", name := "turnNail", desc := "(I)Z" } : Jvm.MethodName) ({ cls := "CoconutShies$Stand", name := "turnNail", desc := "(I)Z" } : Jvm.MethodName)) ∈ mm_big := mm_k 480 (by decide +kernel) rfl
theorem k_481 : (Jvm.Cond.code ({ cls := "CoconutShies$Stand", name := "turnNail", desc := "(I)Z" } : Jvm.MethodName) prog_9_method_8_code (2 : Nat) (Option.some Jvm.ClassFile.FieldType.boolean)) ∈ mm_big := mm_k 481 (by decide +kernel) rfl
theorem k_482 : (Jvm.Cond.methodLink "CoconutShiesLaw" (61 : Nat) ({ cls := "CoconutShies", name := "pay", desc := "()I" } : Jvm.MethodName)) ∈ mm_big := mm_k 482 (by decide +kernel) rfl
theorem k_483 : (Jvm.Cond.instanceMethod ({ cls := "CoconutShies", name := "pay", desc := "()I" } : Jvm.MethodName)) ∈ mm_big := mm_k 483 (by decide +kernel) rfl
theorem k_484 : (Jvm.Cond.selects "CoconutShies" ({ cls := "CoconutShies", name := "pay", desc := "()I" } : Jvm.MethodName) ({ cls := "CoconutShies", name := "pay", desc := "()I" } : Jvm.MethodName)) ∈ mm_big := mm_k 484 (by decide +kernel) rfl
theorem k_485 : (Jvm.Cond.code ({ cls := "CoconutShies", name := "pay", desc := "()I" } : Jvm.MethodName) prog_1_method_13_code (1 : Nat) (Option.some Jvm.ClassFile.FieldType.int)) ∈ mm_big := mm_k 485 (by decide +kernel) rfl
theorem k_486 : (Jvm.Cond.methodLink "CoconutShies" (195 : Nat) ({ cls := "CoconutShies$Stand", name := "takePenny", desc := "()Z" } : Jvm.MethodName)) ∈ mm_big := mm_k 486 (by decide +kernel) rfl
theorem k_487 : (Jvm.Cond.instanceMethod ({ cls := "CoconutShies$Stand", name := "takePenny", desc := "()Z" } : Jvm.MethodName)) ∈ mm_big := mm_k 487 (by decide +kernel) rfl
theorem k_488 : (Jvm.Cond.selects "CoconutShies$Stand" ({ cls := "CoconutShies$Stand", name := "takePenny", desc := "()Z" } : Jvm.MethodName) ({ cls := "CoconutShies$Stand", name := "takePenny", desc := "()Z" } : Jvm.MethodName)) ∈ mm_big := mm_k 488 (by decide +kernel) rfl
theorem k_489 : (Jvm.Cond.code ({ cls := "CoconutShies$Stand", name := "takePenny", desc := "()Z" } : Jvm.MethodName) prog_9_method_9_code (1 : Nat) (Option.some Jvm.ClassFile.FieldType.boolean)) ∈ mm_big := mm_k 489 (by decide +kernel) rfl
theorem k_490 : (Jvm.Cond.methodLink "CoconutShies$Stand" (76 : Nat) ({ cls := "java/lang/Math", name := "min", desc := "(II)I" } : Jvm.MethodName)) ∈ mm_big := mm_k 490 (by decide +kernel) rfl
theorem k_491 : (Jvm.Cond.static ({ cls := "java/lang/Math", name := "min", desc := "(II)I" } : Jvm.MethodName)) ∈ mm_big := mm_k 491 (by decide +kernel) rfl
theorem k_492 : (Jvm.Cond.code ({ cls := "java/lang/Math", name := "min", desc := "(II)I" } : Jvm.MethodName) prog_14_method_69_code (2 : Nat) (Option.some Jvm.ClassFile.FieldType.int)) ∈ mm_big := mm_k 492 (by decide +kernel) rfl
theorem k_493 : (Jvm.Cond.methodLink "CoconutShiesLaw" (65 : Nat) ({ cls := "CoconutShies", name := "blow", desc := "(I)I" } : Jvm.MethodName)) ∈ mm_big := mm_k 493 (by decide +kernel) rfl
theorem k_494 : (Jvm.Cond.instanceMethod ({ cls := "CoconutShies", name := "blow", desc := "(I)I" } : Jvm.MethodName)) ∈ mm_big := mm_k 494 (by decide +kernel) rfl
theorem k_495 : (Jvm.Cond.selects "CoconutShies" ({ cls := "CoconutShies", name := "blow", desc := "(I)I" } : Jvm.MethodName) ({ cls := "CoconutShies", name := "blow", desc := "(I)I" } : Jvm.MethodName)) ∈ mm_big := mm_k 495 (by decide +kernel) rfl
theorem k_496 : (Jvm.Cond.code ({ cls := "CoconutShies", name := "blow", desc := "(I)I" } : Jvm.MethodName) prog_1_method_14_code (3 : Nat) (Option.some Jvm.ClassFile.FieldType.int)) ∈ mm_big := mm_k 496 (by decide +kernel) rfl
theorem k_497 : (Jvm.Cond.methodLink "CoconutShiesLaw" (69 : Nat) ({ cls := "CoconutShies", name := "undo", desc := "()I" } : Jvm.MethodName)) ∈ mm_big := mm_k 497 (by decide +kernel) rfl
theorem k_498 : (Jvm.Cond.instanceMethod ({ cls := "CoconutShies", name := "undo", desc := "()I" } : Jvm.MethodName)) ∈ mm_big := mm_k 498 (by decide +kernel) rfl
theorem k_499 : (Jvm.Cond.selects "CoconutShies" ({ cls := "CoconutShies", name := "undo", desc := "()I" } : Jvm.MethodName) ({ cls := "CoconutShies", name := "undo", desc := "()I" } : Jvm.MethodName)) ∈ mm_big := mm_k 499 (by decide +kernel) rfl
theorem k_500 : (Jvm.Cond.code ({ cls := "CoconutShies", name := "undo", desc := "()I" } : Jvm.MethodName) prog_1_method_15_code (1 : Nat) (Option.some Jvm.ClassFile.FieldType.int)) ∈ mm_big := mm_k 500 (by decide +kernel) rfl
theorem k_501 : (Jvm.Cond.methodLink "CoconutShies" (199 : Nat) ({ cls := "CoconutShies$Acts", name := "takeBack", desc := "(LCoconutShies$Stand;)Z" } : Jvm.MethodName)) ∈ mm_big := mm_k 501 (by decide +kernel) rfl
theorem k_502 : (Jvm.Cond.instanceMethod ({ cls := "CoconutShies$Acts", name := "takeBack", desc := "(LCoconutShies$Stand;)Z" } : Jvm.MethodName)) ∈ mm_big := mm_k 502 (by decide +kernel) rfl
theorem k_503 : (Jvm.Cond.selects "CoconutShies$Acts" ({ cls := "CoconutShies$Acts", name := "takeBack", desc := "(LCoconutShies$Stand;)Z" } : Jvm.MethodName) ({ cls := "CoconutShies$Acts", name := "takeBack", desc := "(LCoconutShies$Stand;)Z" } : Jvm.MethodName)) ∈ mm_big := mm_k 503 (by decide +kernel) rfl
theorem k_504 : (Jvm.Cond.code ({ cls := "CoconutShies$Acts", name := "takeBack", desc := "(LCoconutShies$Stand;)Z" } : Jvm.MethodName) prog_2_method_3_code (2 : Nat) (Option.some Jvm.ClassFile.FieldType.boolean)) ∈ mm_big := mm_k 504 (by decide +kernel) rfl
theorem k_505 : (Jvm.Cond.methodLink "CoconutShiesLaw" (73 : Nat) ({ cls := "CoconutShies", name := "felled", desc := "(III)I" } : Jvm.MethodName)) ∈ mm_big := mm_k 505 (by decide +kernel) rfl
theorem k_506 : (Jvm.Cond.instanceMethod ({ cls := "CoconutShies", name := "felled", desc := "(III)I" } : Jvm.MethodName)) ∈ mm_big := mm_k 506 (by decide +kernel) rfl
theorem k_507 : (Jvm.Cond.selects "CoconutShies" ({ cls := "CoconutShies", name := "felled", desc := "(III)I" } : Jvm.MethodName) ({ cls := "CoconutShies", name := "felled", desc := "(III)I" } : Jvm.MethodName)) ∈ mm_big := mm_k 507 (by decide +kernel) rfl
theorem k_508 : (Jvm.Cond.code ({ cls := "CoconutShies", name := "felled", desc := "(III)I" } : Jvm.MethodName) prog_1_method_16_code (5 : Nat) (Option.some Jvm.ClassFile.FieldType.int)) ∈ mm_big := mm_k 508 (by decide +kernel) rfl
theorem k_509 : (Jvm.Cond.methodLink "CoconutShies" (203 : Nat) ({ cls := "CoconutShies$Seeker", name := "downBehind", desc := "(LCoconutShies$Booth;LCoconutShies$Stand;III)I" } : Jvm.MethodName)) ∈ mm_big := mm_k 509 (by decide +kernel) rfl
theorem k_510 : (Jvm.Cond.instanceMethod ({ cls := "CoconutShies$Seeker", name := "downBehind", desc := "(LCoconutShies$Booth;LCoconutShies$Stand;III)I" } : Jvm.MethodName)) ∈ mm_big := mm_k 510 (by decide +kernel) rfl
theorem k_511 : (Jvm.Cond.selects "CoconutShies$Seeker" ({ cls := "CoconutShies$Seeker", name := "downBehind", desc := "(LCoconutShies$Booth;LCoconutShies$Stand;III)I" } : Jvm.MethodName) ({ cls := "CoconutShies$Seeker", name := "downBehind", desc := "(LCoconutShies$Booth;LCoconutShies$Stand;III)I" } : Jvm.MethodName)) ∈ mm_big := mm_k 511 (by decide +kernel) rfl
theorem k_512 : (Jvm.Cond.code ({ cls := "CoconutShies$Seeker", name := "downBehind", desc := "(LCoconutShies$Booth;LCoconutShies$Stand;III)I" } : Jvm.MethodName) prog_6_method_2_code (6 : Nat) (Option.some Jvm.ClassFile.FieldType.int)) ∈ mm_big := mm_k 512 (by decide +kernel) rfl
theorem k_513 : (Jvm.Cond.methodLink "CoconutShies$Seeker" (26 : Nat) ({ cls := "CoconutShies$Stand", name := "becomeAs", desc := "(LCoconutShies$Stand;)V" } : Jvm.MethodName)) ∈ mm_big := mm_k 513 (by decide +kernel) rfl
theorem k_514 : (Jvm.Cond.methodLink "CoconutShies$Seeker" (32 : Nat) ({ cls := "CoconutShies$Stand", name := "throwBy", desc := "(LCoconutShies$Booth;III)I" } : Jvm.MethodName)) ∈ mm_big := mm_k 514 (by decide +kernel) rfl
theorem k_515 : (Jvm.Cond.methodLink "CoconutShiesLaw" (77 : Nat) ({ cls := "CoconutShies", name := "fewest", desc := "(IZ)I" } : Jvm.MethodName)) ∈ mm_big := mm_k 515 (by decide +kernel) rfl
theorem k_516 : (Jvm.Cond.instanceMethod ({ cls := "CoconutShies", name := "fewest", desc := "(IZ)I" } : Jvm.MethodName)) ∈ mm_big := mm_k 516 (by decide +kernel) rfl
theorem k_517 : (Jvm.Cond.selects "CoconutShies" ({ cls := "CoconutShies", name := "fewest", desc := "(IZ)I" } : Jvm.MethodName) ({ cls := "CoconutShies", name := "fewest", desc := "(IZ)I" } : Jvm.MethodName)) ∈ mm_big := mm_k 517 (by decide +kernel) rfl
theorem k_518 : (Jvm.Cond.code ({ cls := "CoconutShies", name := "fewest", desc := "(IZ)I" } : Jvm.MethodName) prog_1_method_17_code (5 : Nat) (Option.some Jvm.ClassFile.FieldType.int)) ∈ mm_big := mm_k 518 (by decide +kernel) rfl
theorem k_519 : (Jvm.Cond.methodLink "CoconutShies" (207 : Nat) ({ cls := "CoconutShies$Seeker", name := "firstRow", desc := "(LCoconutShies$Booth;LCoconutShies$Stand;II)I" } : Jvm.MethodName)) ∈ mm_big := mm_k 519 (by decide +kernel) rfl
theorem k_520 : (Jvm.Cond.instanceMethod ({ cls := "CoconutShies$Seeker", name := "firstRow", desc := "(LCoconutShies$Booth;LCoconutShies$Stand;II)I" } : Jvm.MethodName)) ∈ mm_big := mm_k 520 (by decide +kernel) rfl
theorem k_521 : (Jvm.Cond.selects "CoconutShies$Seeker" ({ cls := "CoconutShies$Seeker", name := "firstRow", desc := "(LCoconutShies$Booth;LCoconutShies$Stand;II)I" } : Jvm.MethodName) ({ cls := "CoconutShies$Seeker", name := "firstRow", desc := "(LCoconutShies$Booth;LCoconutShies$Stand;II)I" } : Jvm.MethodName)) ∈ mm_big := mm_k 521 (by decide +kernel) rfl
theorem k_522 : (Jvm.Cond.code ({ cls := "CoconutShies$Seeker", name := "firstRow", desc := "(LCoconutShies$Booth;LCoconutShies$Stand;II)I" } : Jvm.MethodName) prog_6_method_3_code (5 : Nat) (Option.some Jvm.ClassFile.FieldType.int)) ∈ mm_big := mm_k 522 (by decide +kernel) rfl
theorem k_523 : (Jvm.Cond.methodLink "CoconutShies$Seeker" (39 : Nat) ({ cls := "CoconutShies$Seeker", name := "rowFrom", desc := "([LCoconutShies$Stand;LCoconutShies$Booth;III)I" } : Jvm.MethodName)) ∈ mm_big := mm_k 523 (by decide +kernel) rfl
theorem k_524 : (Jvm.Cond.static ({ cls := "CoconutShies$Seeker", name := "rowFrom", desc := "([LCoconutShies$Stand;LCoconutShies$Booth;III)I" } : Jvm.MethodName)) ∈ mm_big := mm_k 524 (by decide +kernel) rfl
theorem k_525 : (Jvm.Cond.code ({ cls := "CoconutShies$Seeker", name := "rowFrom", desc := "([LCoconutShies$Stand;LCoconutShies$Booth;III)I" } : Jvm.MethodName) prog_6_method_4_code (9 : Nat) (Option.some Jvm.ClassFile.FieldType.int)) ∈ mm_big := mm_k 525 (by decide +kernel) rfl
theorem k_526 : (Jvm.Cond.methodLink "CoconutShies$Seeker" (43 : Nat) ({ cls := "CoconutShies$Stand", name := "isUp", desc := "(I)Z" } : Jvm.MethodName)) ∈ mm_big := mm_k 526 (by decide +kernel) rfl
theorem k_527 : (Jvm.Cond.methodLink "CoconutShies$Seeker" (55 : Nat) ({ cls := "CoconutShies$Stand", name := "canBeThrownAt", desc := "(LCoconutShies$Booth;II)Z" } : Jvm.MethodName)) ∈ mm_big := mm_k 527 (by decide +kernel) rfl
theorem k_528 : (Jvm.Cond.instanceMethod ({ cls := "CoconutShies$Stand", name := "canBeThrownAt", desc := "(LCoconutShies$Booth;II)Z" } : Jvm.MethodName)) ∈ mm_big := mm_k 528 (by decide +kernel) rfl
theorem k_529 : (Jvm.Cond.selects "CoconutShies$Stand" ({ cls := "CoconutShies$Stand", name := "canBeThrownAt", desc := "(LCoconutShies$Booth;II)Z" } : Jvm.MethodName) ({ cls := "CoconutShies$Stand", name := "canBeThrownAt", desc := "(LCoconutShies$Booth;II)Z" } : Jvm.MethodName)) ∈ mm_big := mm_k 529 (by decide +kernel) rfl
theorem k_530 : (Jvm.Cond.code ({ cls := "CoconutShies$Stand", name := "canBeThrownAt", desc := "(LCoconutShies$Booth;II)Z" } : Jvm.MethodName) prog_9_method_11_code (4 : Nat) (Option.some Jvm.ClassFile.FieldType.boolean)) ∈ mm_big := mm_k 530 (by decide +kernel) rfl
theorem k_531 : (Jvm.Cond.methodLink "CoconutShies$Stand" (90 : Nat) ({ cls := "CoconutShies$Booth", name := "reaches", desc := "(III)Z" } : Jvm.MethodName)) ∈ mm_big := mm_k 531 (by decide +kernel) rfl
theorem k_532 : (Jvm.Cond.instanceMethod ({ cls := "CoconutShies$Booth", name := "reaches", desc := "(III)Z" } : Jvm.MethodName)) ∈ mm_big := mm_k 532 (by decide +kernel) rfl
theorem k_533 : (Jvm.Cond.selects "CoconutShies$Booth" ({ cls := "CoconutShies$Booth", name := "reaches", desc := "(III)Z" } : Jvm.MethodName) ({ cls := "CoconutShies$Booth", name := "reaches", desc := "(III)Z" } : Jvm.MethodName)) ∈ mm_big := mm_k 533 (by decide +kernel) rfl
theorem k_534 : (Jvm.Cond.code ({ cls := "CoconutShies$Booth", name := "reaches", desc := "(III)Z" } : Jvm.MethodName) prog_3_method_12_code (4 : Nat) (Option.some Jvm.ClassFile.FieldType.boolean)) ∈ mm_big := mm_k 534 (by decide +kernel) rfl
theorem k_535 : (Jvm.Cond.methodLink "CoconutShies$Seeker" (59 : Nat) ({ cls := "CoconutShies$Stand", name := "strike", desc := "(LCoconutShies$Booth;II)I" } : Jvm.MethodName)) ∈ mm_big := mm_k 535 (by decide +kernel) rfl
theorem k_537 : (Jvm.Cond.static ({ cls := "CoconutShies", name := "hundreds", desc := "(I)I" } : Jvm.MethodName)) ∈ mm_big := mm_k 537 (by decide +kernel) rfl
theorem k_538 : (Jvm.Cond.code ({ cls := "CoconutShies", name := "hundreds", desc := "(I)I" } : Jvm.MethodName) prog_1_method_37_code (1 : Nat) (Option.some Jvm.ClassFile.FieldType.int)) ∈ mm_big := mm_k 538 (by decide +kernel) rfl
theorem k_539 : (Jvm.Cond.fieldLink "CoconutShies" (307 : Nat) "CoconutShies" "HUNDREDS" "[I") ∈ mm_big := mm_k 539 (by decide +kernel) rfl
theorem k_541 : (Jvm.Cond.methodLink "CoconutShiesLaw" (82 : Nat) ({ cls := "CoconutShies", name := "winds", desc := "(II)I" } : Jvm.MethodName)) ∈ mm_big := mm_k 541 (by decide +kernel) rfl
theorem k_542 : (Jvm.Cond.instanceMethod ({ cls := "CoconutShies", name := "winds", desc := "(II)I" } : Jvm.MethodName)) ∈ mm_big := mm_k 542 (by decide +kernel) rfl
theorem k_543 : (Jvm.Cond.selects "CoconutShies" ({ cls := "CoconutShies", name := "winds", desc := "(II)I" } : Jvm.MethodName) ({ cls := "CoconutShies", name := "winds", desc := "(II)I" } : Jvm.MethodName)) ∈ mm_big := mm_k 543 (by decide +kernel) rfl
theorem k_544 : (Jvm.Cond.code ({ cls := "CoconutShies", name := "winds", desc := "(II)I" } : Jvm.MethodName) prog_1_method_18_code (5 : Nat) (Option.some Jvm.ClassFile.FieldType.int)) ∈ mm_big := mm_k 544 (by decide +kernel) rfl
theorem k_545 : (Jvm.Cond.methodLink "CoconutShies" (211 : Nat) ({ cls := "CoconutShies$Booth", name := "reaches", desc := "(III)Z" } : Jvm.MethodName)) ∈ mm_big := mm_k 545 (by decide +kernel) rfl
theorem k_546 : (Jvm.Cond.methodLink "CoconutShiesLaw" (86 : Nat) ({ cls := "CoconutShies", name := "match", desc := "(Z)I" } : Jvm.MethodName)) ∈ mm_big := mm_k 546 (by decide +kernel) rfl
theorem k_547 : (Jvm.Cond.instanceMethod ({ cls := "CoconutShies", name := "match", desc := "(Z)I" } : Jvm.MethodName)) ∈ mm_big := mm_k 547 (by decide +kernel) rfl
theorem k_548 : (Jvm.Cond.selects "CoconutShies" ({ cls := "CoconutShies", name := "match", desc := "(Z)I" } : Jvm.MethodName) ({ cls := "CoconutShies", name := "match", desc := "(Z)I" } : Jvm.MethodName)) ∈ mm_big := mm_k 548 (by decide +kernel) rfl
theorem k_549 : (Jvm.Cond.code ({ cls := "CoconutShies", name := "match", desc := "(Z)I" } : Jvm.MethodName) prog_1_method_19_code (2 : Nat) (Option.some Jvm.ClassFile.FieldType.int)) ∈ mm_big := mm_k 549 (by decide +kernel) rfl
theorem k_550 : (Jvm.Cond.methodLink "CoconutShies" (215 : Nat) ({ cls := "CoconutShies$Seeker", name := "matchAmong", desc := "(LCoconutShies$Booth;LCoconutShies$Stand;I)I" } : Jvm.MethodName)) ∈ mm_big := mm_k 550 (by decide +kernel) rfl
theorem k_551 : (Jvm.Cond.instanceMethod ({ cls := "CoconutShies$Seeker", name := "matchAmong", desc := "(LCoconutShies$Booth;LCoconutShies$Stand;I)I" } : Jvm.MethodName)) ∈ mm_big := mm_k 551 (by decide +kernel) rfl
theorem k_552 : (Jvm.Cond.selects "CoconutShies$Seeker" ({ cls := "CoconutShies$Seeker", name := "matchAmong", desc := "(LCoconutShies$Booth;LCoconutShies$Stand;I)I" } : Jvm.MethodName) ({ cls := "CoconutShies$Seeker", name := "matchAmong", desc := "(LCoconutShies$Booth;LCoconutShies$Stand;I)I" } : Jvm.MethodName)) ∈ mm_big := mm_k 552 (by decide +kernel) rfl
theorem k_553 : (Jvm.Cond.code ({ cls := "CoconutShies$Seeker", name := "matchAmong", desc := "(LCoconutShies$Booth;LCoconutShies$Stand;I)I" } : Jvm.MethodName) prog_6_method_5_code (4 : Nat) (Option.some Jvm.ClassFile.FieldType.int)) ∈ mm_big := mm_k 553 (by decide +kernel) rfl
theorem k_554 : (Jvm.Cond.methodLink "CoconutShies$Seeker" (67 : Nat) ({ cls := "CoconutShies$Seeker", name := "matchFrom", desc := "(LCoconutShies$Seeker;LCoconutShies$Booth;III)V" } : Jvm.MethodName)) ∈ mm_big := mm_k 554 (by decide +kernel) rfl
theorem k_555 : (Jvm.Cond.static ({ cls := "CoconutShies$Seeker", name := "matchFrom", desc := "(LCoconutShies$Seeker;LCoconutShies$Booth;III)V" } : Jvm.MethodName)) ∈ mm_big := mm_k 555 (by decide +kernel) rfl
theorem k_556 : (Jvm.Cond.code ({ cls := "CoconutShies$Seeker", name := "matchFrom", desc := "(LCoconutShies$Seeker;LCoconutShies$Booth;III)V" } : Jvm.MethodName) prog_6_method_6_code (8 : Nat) (Option.none : Option Jvm.ClassFile.FieldType)) ∈ mm_big := mm_k 556 (by decide +kernel) rfl
theorem k_557 : (Jvm.Cond.methodLink "CoconutShies$Seeker" (71 : Nat) ({ cls := "CoconutShies$Stand", name := "howManyDown", desc := "()I" } : Jvm.MethodName)) ∈ mm_big := mm_k 557 (by decide +kernel) rfl
theorem k_558 : (Jvm.Cond.instanceMethod ({ cls := "CoconutShies$Stand", name := "howManyDown", desc := "()I" } : Jvm.MethodName)) ∈ mm_big := mm_k 558 (by decide +kernel) rfl
theorem k_559 : (Jvm.Cond.selects "CoconutShies$Stand" ({ cls := "CoconutShies$Stand", name := "howManyDown", desc := "()I" } : Jvm.MethodName) ({ cls := "CoconutShies$Stand", name := "howManyDown", desc := "()I" } : Jvm.MethodName)) ∈ mm_big := mm_k 559 (by decide +kernel) rfl
theorem k_560 : (Jvm.Cond.code ({ cls := "CoconutShies$Stand", name := "howManyDown", desc := "()I" } : Jvm.MethodName) prog_9_method_5_code (1 : Nat) (Option.some Jvm.ClassFile.FieldType.int)) ∈ mm_big := mm_k 560 (by decide +kernel) rfl
theorem k_561 : (Jvm.Cond.methodLink "CoconutShies$Stand" (58 : Nat) ({ cls := "java/lang/Integer", name := "bitCount", desc := "(I)I" } : Jvm.MethodName)) ∈ mm_big := mm_k 561 (by decide +kernel) rfl
theorem k_562 : (Jvm.Cond.static ({ cls := "java/lang/Integer", name := "bitCount", desc := "(I)I" } : Jvm.MethodName)) ∈ mm_big := mm_k 562 (by decide +kernel) rfl
theorem k_563 : (Jvm.Cond.code ({ cls := "java/lang/Integer", name := "bitCount", desc := "(I)I" } : Jvm.MethodName) prog_13_method_49_code (1 : Nat) (Option.some Jvm.ClassFile.FieldType.int)) ∈ mm_big := mm_k 563 (by decide +kernel) rfl
theorem k_564 : (Jvm.Cond.constant "java/lang/Integer" (265 : Nat) (1431655765 : Int32)) ∈ mm_big := mm_k 564 (by decide +kernel) rfl
theorem k_565 : (Jvm.Cond.constant "java/lang/Integer" (266 : Nat) (858993459 : Int32)) ∈ mm_big := mm_k 565 (by decide +kernel) rfl
theorem k_566 : (Jvm.Cond.constant "java/lang/Integer" (267 : Nat) (252645135 : Int32)) ∈ mm_big := mm_k 566 (by decide +kernel) rfl
theorem k_567 : (Jvm.Cond.methodLink "CoconutShies$Seeker" (75 : Nat) ({ cls := "CoconutShies$Seeker", name := "weigh", desc := "(II)V" } : Jvm.MethodName)) ∈ mm_big := mm_k 567 (by decide +kernel) rfl
theorem k_569 : (Jvm.Cond.instanceMethod ({ cls := "CoconutShies$Seeker", name := "weigh", desc := "(II)V" } : Jvm.MethodName)) ∈ mm_big := mm_k 569 (by decide +kernel) rfl
theorem k_570 : (Jvm.Cond.code ({ cls := "CoconutShies$Seeker", name := "weigh", desc := "(II)V" } : Jvm.MethodName) prog_6_method_7_code (3 : Nat) (Option.none : Option Jvm.ClassFile.FieldType)) ∈ mm_big := mm_k 570 (by decide +kernel) rfl
theorem k_572 : (Jvm.Cond.methodLink "CoconutShiesLaw" (91 : Nat) ({ cls := "CoconutShies", name := "nails", desc := "(I)I" } : Jvm.MethodName)) ∈ mm_big := mm_k 572 (by decide +kernel) rfl
theorem k_573 : (Jvm.Cond.instanceMethod ({ cls := "CoconutShies", name := "nails", desc := "(I)I" } : Jvm.MethodName)) ∈ mm_big := mm_k 573 (by decide +kernel) rfl
theorem k_574 : (Jvm.Cond.selects "CoconutShies" ({ cls := "CoconutShies", name := "nails", desc := "(I)I" } : Jvm.MethodName) ({ cls := "CoconutShies", name := "nails", desc := "(I)I" } : Jvm.MethodName)) ∈ mm_big := mm_k 574 (by decide +kernel) rfl
theorem k_575 : (Jvm.Cond.code ({ cls := "CoconutShies", name := "nails", desc := "(I)I" } : Jvm.MethodName) prog_1_method_20_code (2 : Nat) (Option.some Jvm.ClassFile.FieldType.int)) ∈ mm_big := mm_k 575 (by decide +kernel) rfl
theorem k_576 : (Jvm.Cond.methodLink "CoconutShies" (225 : Nat) ({ cls := "CoconutShies$Seeker", name := "fewestNails", desc := "(LCoconutShies$Booth;LCoconutShies$Stand;I)I" } : Jvm.MethodName)) ∈ mm_big := mm_k 576 (by decide +kernel) rfl
theorem k_577 : (Jvm.Cond.instanceMethod ({ cls := "CoconutShies$Seeker", name := "fewestNails", desc := "(LCoconutShies$Booth;LCoconutShies$Stand;I)I" } : Jvm.MethodName)) ∈ mm_big := mm_k 577 (by decide +kernel) rfl
theorem k_578 : (Jvm.Cond.selects "CoconutShies$Seeker" ({ cls := "CoconutShies$Seeker", name := "fewestNails", desc := "(LCoconutShies$Booth;LCoconutShies$Stand;I)I" } : Jvm.MethodName) ({ cls := "CoconutShies$Seeker", name := "fewestNails", desc := "(LCoconutShies$Booth;LCoconutShies$Stand;I)I" } : Jvm.MethodName)) ∈ mm_big := mm_k 578 (by decide +kernel) rfl
theorem k_579 : (Jvm.Cond.code ({ cls := "CoconutShies$Seeker", name := "fewestNails", desc := "(LCoconutShies$Booth;LCoconutShies$Stand;I)I" } : Jvm.MethodName) prog_6_method_8_code (7 : Nat) (Option.some Jvm.ClassFile.FieldType.int)) ∈ mm_big := mm_k 579 (by decide +kernel) rfl
theorem k_580 : (Jvm.Cond.methodLink "CoconutShies$Seeker" (86 : Nat) ({ cls := "java/lang/Integer", name := "bitCount", desc := "(I)I" } : Jvm.MethodName)) ∈ mm_big := mm_k 580 (by decide +kernel) rfl
theorem k_581 : (Jvm.Cond.methodLink "CoconutShies$Seeker" (91 : Nat) ({ cls := "CoconutShies$Seeker", name := "staysUp", desc := "(LCoconutShies$Booth;LCoconutShies$Stand;II)Z" } : Jvm.MethodName)) ∈ mm_big := mm_k 581 (by decide +kernel) rfl
theorem k_583 : (Jvm.Cond.instanceMethod ({ cls := "CoconutShies$Seeker", name := "staysUp", desc := "(LCoconutShies$Booth;LCoconutShies$Stand;II)Z" } : Jvm.MethodName)) ∈ mm_big := mm_k 583 (by decide +kernel) rfl
theorem k_584 : (Jvm.Cond.code ({ cls := "CoconutShies$Seeker", name := "staysUp", desc := "(LCoconutShies$Booth;LCoconutShies$Stand;II)Z" } : Jvm.MethodName) prog_6_method_9_code (7 : Nat) (Option.some Jvm.ClassFile.FieldType.boolean)) ∈ mm_big := mm_k 584 (by decide +kernel) rfl
theorem k_585 : (Jvm.Cond.methodLink "CoconutShiesLaw" (95 : Nat) ({ cls := "CoconutShies", name := "judge", desc := "(II)I" } : Jvm.MethodName)) ∈ mm_big := mm_k 585 (by decide +kernel) rfl
theorem k_586 : (Jvm.Cond.instanceMethod ({ cls := "CoconutShies", name := "judge", desc := "(II)I" } : Jvm.MethodName)) ∈ mm_big := mm_k 586 (by decide +kernel) rfl
theorem k_587 : (Jvm.Cond.selects "CoconutShies" ({ cls := "CoconutShies", name := "judge", desc := "(II)I" } : Jvm.MethodName) ({ cls := "CoconutShies", name := "judge", desc := "(II)I" } : Jvm.MethodName)) ∈ mm_big := mm_k 587 (by decide +kernel) rfl
theorem k_588 : (Jvm.Cond.code ({ cls := "CoconutShies", name := "judge", desc := "(II)I" } : Jvm.MethodName) prog_1_method_21_code (3 : Nat) (Option.some Jvm.ClassFile.FieldType.int)) ∈ mm_big := mm_k 588 (by decide +kernel) rfl
theorem k_589 : (Jvm.Cond.methodLink "CoconutShies" (228 : Nat) ({ cls := "CoconutShies", name := "hundreds", desc := "(I)I" } : Jvm.MethodName)) ∈ mm_big := mm_k 589 (by decide +kernel) rfl
theorem k_590 : (Jvm.Cond.methodLink "CoconutShies" (231 : Nat) ({ cls := "CoconutShies$Seeker", name := "firstThatCanNotBe", desc := "(LCoconutShies$Booth;LCoconutShies$Stand;II)I" } : Jvm.MethodName)) ∈ mm_big := mm_k 590 (by decide +kernel) rfl
theorem k_591 : (Jvm.Cond.instanceMethod ({ cls := "CoconutShies$Seeker", name := "firstThatCanNotBe", desc := "(LCoconutShies$Booth;LCoconutShies$Stand;II)I" } : Jvm.MethodName)) ∈ mm_big := mm_k 591 (by decide +kernel) rfl
theorem k_592 : (Jvm.Cond.selects "CoconutShies$Seeker" ({ cls := "CoconutShies$Seeker", name := "firstThatCanNotBe", desc := "(LCoconutShies$Booth;LCoconutShies$Stand;II)I" } : Jvm.MethodName) ({ cls := "CoconutShies$Seeker", name := "firstThatCanNotBe", desc := "(LCoconutShies$Booth;LCoconutShies$Stand;II)I" } : Jvm.MethodName)) ∈ mm_big := mm_k 592 (by decide +kernel) rfl
theorem k_593 : (Jvm.Cond.code ({ cls := "CoconutShies$Seeker", name := "firstThatCanNotBe", desc := "(LCoconutShies$Booth;LCoconutShies$Stand;II)I" } : Jvm.MethodName) prog_6_method_10_code (7 : Nat) (Option.some Jvm.ClassFile.FieldType.int)) ∈ mm_big := mm_k 593 (by decide +kernel) rfl
theorem k_594 : (Jvm.Cond.methodLink "CoconutShies$Seeker" (95 : Nat) ({ cls := "CoconutShies$Seeker", name := "couldBeDone", desc := "(LCoconutShies$Booth;LCoconutShies$Stand;II)Z" } : Jvm.MethodName)) ∈ mm_big := mm_k 594 (by decide +kernel) rfl
theorem k_595 : (Jvm.Cond.static ({ cls := "CoconutShies$Seeker", name := "couldBeDone", desc := "(LCoconutShies$Booth;LCoconutShies$Stand;II)Z" } : Jvm.MethodName)) ∈ mm_big := mm_k 595 (by decide +kernel) rfl
theorem k_596 : (Jvm.Cond.code ({ cls := "CoconutShies$Seeker", name := "couldBeDone", desc := "(LCoconutShies$Booth;LCoconutShies$Stand;II)Z" } : Jvm.MethodName) prog_6_method_11_code (5 : Nat) (Option.some Jvm.ClassFile.FieldType.boolean)) ∈ mm_big := mm_k 596 (by decide +kernel) rfl
theorem k_597 : (Jvm.Cond.methodLink "CoconutShies$Seeker" (98 : Nat) ({ cls := "CoconutShies$Stand", name := "takePenny", desc := "()Z" } : Jvm.MethodName)) ∈ mm_big := mm_k 597 (by decide +kernel) rfl
theorem k_598 : (Jvm.Cond.methodLink "CoconutShies$Seeker" (102 : Nat) ({ cls := "CoconutShies$Booth", name := "isHusk", desc := "(I)Z" } : Jvm.MethodName)) ∈ mm_big := mm_k 598 (by decide +kernel) rfl
theorem k_599 : (Jvm.Cond.methodLink "CoconutShies$Seeker" (105 : Nat) ({ cls := "CoconutShies$Stand", name := "setUp", desc := "(I)Z" } : Jvm.MethodName)) ∈ mm_big := mm_k 599 (by decide +kernel) rfl
theorem k_600 : (Jvm.Cond.methodLink "CoconutShies$Seeker" (108 : Nat) ({ cls := "CoconutShies$Stand", name := "turnNail", desc := "(I)Z" } : Jvm.MethodName)) ∈ mm_big := mm_k 600 (by decide +kernel) rfl
theorem k_601 : (Jvm.Cond.methodLink "CoconutShies$Seeker" (111 : Nat) ({ cls := "CoconutShies$Booth", name := "isThrower", desc := "(I)Z" } : Jvm.MethodName)) ∈ mm_big := mm_k 601 (by decide +kernel) rfl
theorem k_602 : (Jvm.Cond.methodLink "CoconutShiesLaw" (99 : Nat) ({ cls := "CoconutShies", name := "share", desc := "(IZ)I" } : Jvm.MethodName)) ∈ mm_big := mm_k 602 (by decide +kernel) rfl
theorem k_603 : (Jvm.Cond.instanceMethod ({ cls := "CoconutShies", name := "share", desc := "(IZ)I" } : Jvm.MethodName)) ∈ mm_big := mm_k 603 (by decide +kernel) rfl
theorem k_604 : (Jvm.Cond.selects "CoconutShies" ({ cls := "CoconutShies", name := "share", desc := "(IZ)I" } : Jvm.MethodName) ({ cls := "CoconutShies", name := "share", desc := "(IZ)I" } : Jvm.MethodName)) ∈ mm_big := mm_k 604 (by decide +kernel) rfl
theorem k_605 : (Jvm.Cond.code ({ cls := "CoconutShies", name := "share", desc := "(IZ)I" } : Jvm.MethodName) prog_1_method_22_code (7 : Nat) (Option.some Jvm.ClassFile.FieldType.int)) ∈ mm_big := mm_k 605 (by decide +kernel) rfl
theorem k_606 : (Jvm.Cond.methodLink "CoconutShies" (234 : Nat) ({ cls := "java/lang/Integer", name := "bitCount", desc := "(I)I" } : Jvm.MethodName)) ∈ mm_big := mm_k 606 (by decide +kernel) rfl
theorem k_607 : (Jvm.Cond.methodLink "CoconutShies" (239 : Nat) ({ cls := "CoconutShies", name := "ordersOf", desc := "(I)I" } : Jvm.MethodName)) ∈ mm_big := mm_k 607 (by decide +kernel) rfl
theorem k_608 : (Jvm.Cond.static ({ cls := "CoconutShies", name := "ordersOf", desc := "(I)I" } : Jvm.MethodName)) ∈ mm_big := mm_k 608 (by decide +kernel) rfl
theorem k_609 : (Jvm.Cond.code ({ cls := "CoconutShies", name := "ordersOf", desc := "(I)I" } : Jvm.MethodName) prog_1_method_36_code (1 : Nat) (Option.some Jvm.ClassFile.FieldType.int)) ∈ mm_big := mm_k 609 (by decide +kernel) rfl
theorem k_610 : (Jvm.Cond.fieldLink "CoconutShies" (304 : Nat) "CoconutShies" "ORDERS" "[I") ∈ mm_big := mm_k 610 (by decide +kernel) rfl
theorem k_612 : (Jvm.Cond.methodLink "CoconutShies" (242 : Nat) ({ cls := "CoconutShies", name := "inLeastTerms", desc := "(IIZ)I" } : Jvm.MethodName)) ∈ mm_big := mm_k 612 (by decide +kernel) rfl
theorem k_613 : (Jvm.Cond.static ({ cls := "CoconutShies", name := "inLeastTerms", desc := "(IIZ)I" } : Jvm.MethodName)) ∈ mm_big := mm_k 613 (by decide +kernel) rfl
theorem k_614 : (Jvm.Cond.code ({ cls := "CoconutShies", name := "inLeastTerms", desc := "(IIZ)I" } : Jvm.MethodName) prog_1_method_38_code (4 : Nat) (Option.some Jvm.ClassFile.FieldType.int)) ∈ mm_big := mm_k 614 (by decide +kernel) rfl
theorem k_615 : (Jvm.Cond.methodLink "CoconutShies" (310 : Nat) ({ cls := "CoconutShies", name := "commonDivisor", desc := "(II)I" } : Jvm.MethodName)) ∈ mm_big := mm_k 615 (by decide +kernel) rfl
theorem k_616 : (Jvm.Cond.static ({ cls := "CoconutShies", name := "commonDivisor", desc := "(II)I" } : Jvm.MethodName)) ∈ mm_big := mm_k 616 (by decide +kernel) rfl
theorem k_617 : (Jvm.Cond.code ({ cls := "CoconutShies", name := "commonDivisor", desc := "(II)I" } : Jvm.MethodName) prog_1_method_39_code (6 : Nat) (Option.some Jvm.ClassFile.FieldType.int)) ∈ mm_big := mm_k 617 (by decide +kernel) rfl
theorem k_618 : (Jvm.Cond.methodLink "CoconutShiesLaw" (103 : Nat) ({ cls := "CoconutShies", name := "see", desc := "(III)I" } : Jvm.MethodName)) ∈ mm_big := mm_k 618 (by decide +kernel) rfl
theorem k_619 : (Jvm.Cond.instanceMethod ({ cls := "CoconutShies", name := "see", desc := "(III)I" } : Jvm.MethodName)) ∈ mm_big := mm_k 619 (by decide +kernel) rfl
theorem k_620 : (Jvm.Cond.selects "CoconutShies" ({ cls := "CoconutShies", name := "see", desc := "(III)I" } : Jvm.MethodName) ({ cls := "CoconutShies", name := "see", desc := "(III)I" } : Jvm.MethodName)) ∈ mm_big := mm_k 620 (by decide +kernel) rfl
theorem k_621 : (Jvm.Cond.code ({ cls := "CoconutShies", name := "see", desc := "(III)I" } : Jvm.MethodName) prog_1_method_23_code (4 : Nat) (Option.some Jvm.ClassFile.FieldType.int)) ∈ mm_big := mm_k 621 (by decide +kernel) rfl
theorem k_622 : (Jvm.Cond.methodLink "CoconutShies" (246 : Nat) ({ cls := "CoconutShies$Sightings", name := "append", desc := "(III)Z" } : Jvm.MethodName)) ∈ mm_big := mm_k 622 (by decide +kernel) rfl
theorem k_623 : (Jvm.Cond.instanceMethod ({ cls := "CoconutShies$Sightings", name := "append", desc := "(III)Z" } : Jvm.MethodName)) ∈ mm_big := mm_k 623 (by decide +kernel) rfl
theorem k_624 : (Jvm.Cond.selects "CoconutShies$Sightings" ({ cls := "CoconutShies$Sightings", name := "append", desc := "(III)Z" } : Jvm.MethodName) ({ cls := "CoconutShies$Sightings", name := "append", desc := "(III)Z" } : Jvm.MethodName)) ∈ mm_big := mm_k 624 (by decide +kernel) rfl
theorem k_625 : (Jvm.Cond.code ({ cls := "CoconutShies$Sightings", name := "append", desc := "(III)Z" } : Jvm.MethodName) prog_7_method_2_code (4 : Nat) (Option.some Jvm.ClassFile.FieldType.boolean)) ∈ mm_big := mm_k 625 (by decide +kernel) rfl
theorem k_626 : (Jvm.Cond.methodLink "CoconutShiesLaw" (107 : Nat) ({ cls := "CoconutShies", name := "unsee", desc := "()I" } : Jvm.MethodName)) ∈ mm_big := mm_k 626 (by decide +kernel) rfl
theorem k_627 : (Jvm.Cond.instanceMethod ({ cls := "CoconutShies", name := "unsee", desc := "()I" } : Jvm.MethodName)) ∈ mm_big := mm_k 627 (by decide +kernel) rfl
theorem k_628 : (Jvm.Cond.selects "CoconutShies" ({ cls := "CoconutShies", name := "unsee", desc := "()I" } : Jvm.MethodName) ({ cls := "CoconutShies", name := "unsee", desc := "()I" } : Jvm.MethodName)) ∈ mm_big := mm_k 628 (by decide +kernel) rfl
theorem k_629 : (Jvm.Cond.code ({ cls := "CoconutShies", name := "unsee", desc := "()I" } : Jvm.MethodName) prog_1_method_24_code (2 : Nat) (Option.some Jvm.ClassFile.FieldType.int)) ∈ mm_big := mm_k 629 (by decide +kernel) rfl
theorem k_630 : (Jvm.Cond.methodLink "CoconutShiesLaw" (111 : Nat) ({ cls := "CoconutShies", name := "holds", desc := "(I)I" } : Jvm.MethodName)) ∈ mm_big := mm_k 630 (by decide +kernel) rfl
theorem k_631 : (Jvm.Cond.instanceMethod ({ cls := "CoconutShies", name := "holds", desc := "(I)I" } : Jvm.MethodName)) ∈ mm_big := mm_k 631 (by decide +kernel) rfl
theorem k_632 : (Jvm.Cond.selects "CoconutShies" ({ cls := "CoconutShies", name := "holds", desc := "(I)I" } : Jvm.MethodName) ({ cls := "CoconutShies", name := "holds", desc := "(I)I" } : Jvm.MethodName)) ∈ mm_big := mm_k 632 (by decide +kernel) rfl
theorem k_633 : (Jvm.Cond.code ({ cls := "CoconutShies", name := "holds", desc := "(I)I" } : Jvm.MethodName) prog_1_method_25_code (2 : Nat) (Option.some Jvm.ClassFile.FieldType.int)) ∈ mm_big := mm_k 633 (by decide +kernel) rfl
theorem k_634 : (Jvm.Cond.methodLink "CoconutShies" (248 : Nat) ({ cls := "CoconutShies$Sightings", name := "holdsOf", desc := "(II)I" } : Jvm.MethodName)) ∈ mm_big := mm_k 634 (by decide +kernel) rfl
theorem k_635 : (Jvm.Cond.instanceMethod ({ cls := "CoconutShies$Sightings", name := "holdsOf", desc := "(II)I" } : Jvm.MethodName)) ∈ mm_big := mm_k 635 (by decide +kernel) rfl
theorem k_636 : (Jvm.Cond.selects "CoconutShies$Sightings" ({ cls := "CoconutShies$Sightings", name := "holdsOf", desc := "(II)I" } : Jvm.MethodName) ({ cls := "CoconutShies$Sightings", name := "holdsOf", desc := "(II)I" } : Jvm.MethodName)) ∈ mm_big := mm_k 636 (by decide +kernel) rfl
theorem k_637 : (Jvm.Cond.code ({ cls := "CoconutShies$Sightings", name := "holdsOf", desc := "(II)I" } : Jvm.MethodName) prog_7_method_3_code (5 : Nat) (Option.some Jvm.ClassFile.FieldType.int)) ∈ mm_big := mm_k 637 (by decide +kernel) rfl
theorem k_638 : (Jvm.Cond.methodLink "CoconutShies$Sightings" (25 : Nat) ({ cls := "CoconutShies$Sightings", name := "agree", desc := "(II)Z" } : Jvm.MethodName)) ∈ mm_big := mm_k 638 (by decide +kernel) rfl
theorem k_640 : (Jvm.Cond.instanceMethod ({ cls := "CoconutShies$Sightings", name := "agree", desc := "(II)Z" } : Jvm.MethodName)) ∈ mm_big := mm_k 640 (by decide +kernel) rfl
theorem k_641 : (Jvm.Cond.code ({ cls := "CoconutShies$Sightings", name := "agree", desc := "(II)Z" } : Jvm.MethodName) prog_7_method_4_code (5 : Nat) (Option.some Jvm.ClassFile.FieldType.boolean)) ∈ mm_big := mm_k 641 (by decide +kernel) rfl
theorem k_642 : (Jvm.Cond.methodLink "CoconutShiesLaw" (115 : Nat) ({ cls := "CoconutShies", name := "rests", desc := "(I)I" } : Jvm.MethodName)) ∈ mm_big := mm_k 642 (by decide +kernel) rfl
theorem k_643 : (Jvm.Cond.instanceMethod ({ cls := "CoconutShies", name := "rests", desc := "(I)I" } : Jvm.MethodName)) ∈ mm_big := mm_k 643 (by decide +kernel) rfl
theorem k_644 : (Jvm.Cond.selects "CoconutShies" ({ cls := "CoconutShies", name := "rests", desc := "(I)I" } : Jvm.MethodName) ({ cls := "CoconutShies", name := "rests", desc := "(I)I" } : Jvm.MethodName)) ∈ mm_big := mm_k 644 (by decide +kernel) rfl
theorem k_645 : (Jvm.Cond.code ({ cls := "CoconutShies", name := "rests", desc := "(I)I" } : Jvm.MethodName) prog_1_method_26_code (2 : Nat) (Option.some Jvm.ClassFile.FieldType.int)) ∈ mm_big := mm_k 645 (by decide +kernel) rfl
theorem k_646 : (Jvm.Cond.methodLink "CoconutShies" (251 : Nat) ({ cls := "CoconutShies$Parties", name := "settle", desc := "(LCoconutShies$Booth;LCoconutShies$Stand;)V" } : Jvm.MethodName)) ∈ mm_big := mm_k 646 (by decide +kernel) rfl
theorem k_647 : (Jvm.Cond.instanceMethod ({ cls := "CoconutShies$Parties", name := "settle", desc := "(LCoconutShies$Booth;LCoconutShies$Stand;)V" } : Jvm.MethodName)) ∈ mm_big := mm_k 647 (by decide +kernel) rfl
theorem k_648 : (Jvm.Cond.selects "CoconutShies$Parties" ({ cls := "CoconutShies$Parties", name := "settle", desc := "(LCoconutShies$Booth;LCoconutShies$Stand;)V" } : Jvm.MethodName) ({ cls := "CoconutShies$Parties", name := "settle", desc := "(LCoconutShies$Booth;LCoconutShies$Stand;)V" } : Jvm.MethodName)) ∈ mm_big := mm_k 648 (by decide +kernel) rfl
theorem k_649 : (Jvm.Cond.code ({ cls := "CoconutShies$Parties", name := "settle", desc := "(LCoconutShies$Booth;LCoconutShies$Stand;)V" } : Jvm.MethodName) prog_5_method_2_code (5 : Nat) (Option.none : Option Jvm.ClassFile.FieldType)) ∈ mm_big := mm_k 649 (by decide +kernel) rfl
theorem k_650 : (Jvm.Cond.methodLink "CoconutShies$Parties" (37 : Nat) ({ cls := "CoconutShies$Parties", name := "weigh", desc := "(LCoconutShies$Booth;LCoconutShies$Stand;II)V" } : Jvm.MethodName)) ∈ mm_big := mm_k 650 (by decide +kernel) rfl
theorem k_652 : (Jvm.Cond.instanceMethod ({ cls := "CoconutShies$Parties", name := "weigh", desc := "(LCoconutShies$Booth;LCoconutShies$Stand;II)V" } : Jvm.MethodName)) ∈ mm_big := mm_k 652 (by decide +kernel) rfl
theorem k_653 : (Jvm.Cond.code ({ cls := "CoconutShies$Parties", name := "weigh", desc := "(LCoconutShies$Booth;LCoconutShies$Stand;II)V" } : Jvm.MethodName) prog_5_method_3_code (7 : Nat) (Option.none : Option Jvm.ClassFile.FieldType)) ∈ mm_big := mm_k 653 (by decide +kernel) rfl
theorem k_654 : (Jvm.Cond.methodLink "CoconutShies$Parties" (45 : Nat) ({ cls := "CoconutShies$Stand", name := "becomeAs", desc := "(LCoconutShies$Stand;)V" } : Jvm.MethodName)) ∈ mm_big := mm_k 654 (by decide +kernel) rfl
theorem k_655 : (Jvm.Cond.methodLink "CoconutShies$Parties" (49 : Nat) ({ cls := "CoconutShies$Parties", name := "costOf", desc := "(LCoconutShies$Booth;II)I" } : Jvm.MethodName)) ∈ mm_big := mm_k 655 (by decide +kernel) rfl
theorem k_657 : (Jvm.Cond.instanceMethod ({ cls := "CoconutShies$Parties", name := "costOf", desc := "(LCoconutShies$Booth;II)I" } : Jvm.MethodName)) ∈ mm_big := mm_k 657 (by decide +kernel) rfl
theorem k_658 : (Jvm.Cond.code ({ cls := "CoconutShies$Parties", name := "costOf", desc := "(LCoconutShies$Booth;II)I" } : Jvm.MethodName) prog_5_method_4_code (5 : Nat) (Option.some Jvm.ClassFile.FieldType.int)) ∈ mm_big := mm_k 658 (by decide +kernel) rfl
theorem k_659 : (Jvm.Cond.methodLink "CoconutShies$Parties" (57 : Nat) ({ cls := "CoconutShies$Booth", name := "isHusk", desc := "(I)Z" } : Jvm.MethodName)) ∈ mm_big := mm_k 659 (by decide +kernel) rfl
theorem k_660 : (Jvm.Cond.methodLink "CoconutShies$Parties" (60 : Nat) ({ cls := "CoconutShies$Stand", name := "canBeThrownAt", desc := "(LCoconutShies$Booth;II)Z" } : Jvm.MethodName)) ∈ mm_big := mm_k 660 (by decide +kernel) rfl
theorem k_661 : (Jvm.Cond.methodLink "CoconutShies$Parties" (64 : Nat) ({ cls := "CoconutShies$Stand", name := "strike", desc := "(LCoconutShies$Booth;II)I" } : Jvm.MethodName)) ∈ mm_big := mm_k 661 (by decide +kernel) rfl
theorem k_662 : (Jvm.Cond.methodLink "CoconutShies$Parties" (53 : Nat) ({ cls := "CoconutShies$Stand", name := "isUp", desc := "(I)Z" } : Jvm.MethodName)) ∈ mm_big := mm_k 662 (by decide +kernel) rfl
theorem k_663 : (Jvm.Cond.methodLink "CoconutShies$Parties" (41 : Nat) ({ cls := "CoconutShies$Parties", name := "isRest", desc := "(III)Z" } : Jvm.MethodName)) ∈ mm_big := mm_k 663 (by decide +kernel) rfl
theorem k_665 : (Jvm.Cond.instanceMethod ({ cls := "CoconutShies$Parties", name := "isRest", desc := "(III)Z" } : Jvm.MethodName)) ∈ mm_big := mm_k 665 (by decide +kernel) rfl
theorem k_666 : (Jvm.Cond.code ({ cls := "CoconutShies$Parties", name := "isRest", desc := "(III)Z" } : Jvm.MethodName) prog_5_method_5_code (6 : Nat) (Option.some Jvm.ClassFile.FieldType.boolean)) ∈ mm_big := mm_k 666 (by decide +kernel) rfl
theorem k_667 : (Jvm.Cond.methodLink "CoconutShiesLaw" (119 : Nat) ({ cls := "CoconutShies", name := "odds", desc := "(IIIIIZ)I" } : Jvm.MethodName)) ∈ mm_big := mm_k 667 (by decide +kernel) rfl
theorem k_668 : (Jvm.Cond.instanceMethod ({ cls := "CoconutShies", name := "odds", desc := "(IIIIIZ)I" } : Jvm.MethodName)) ∈ mm_big := mm_k 668 (by decide +kernel) rfl
theorem k_669 : (Jvm.Cond.selects "CoconutShies" ({ cls := "CoconutShies", name := "odds", desc := "(IIIIIZ)I" } : Jvm.MethodName) ({ cls := "CoconutShies", name := "odds", desc := "(IIIIIZ)I" } : Jvm.MethodName)) ∈ mm_big := mm_k 669 (by decide +kernel) rfl
theorem k_670 : (Jvm.Cond.code ({ cls := "CoconutShies", name := "odds", desc := "(IIIIIZ)I" } : Jvm.MethodName) prog_1_method_27_code (7 : Nat) (Option.some Jvm.ClassFile.FieldType.int)) ∈ mm_big := mm_k 670 (by decide +kernel) rfl
theorem k_671 : (Jvm.Cond.methodLink "CoconutShies" (270 : Nat) ({ cls := "CoconutShies$Chances", name := "waysDown", desc := "(LCoconutShies$Booth;LCoconutShies$Stand;II)I" } : Jvm.MethodName)) ∈ mm_big := mm_k 671 (by decide +kernel) rfl
theorem k_672 : (Jvm.Cond.instanceMethod ({ cls := "CoconutShies$Chances", name := "waysDown", desc := "(LCoconutShies$Booth;LCoconutShies$Stand;II)I" } : Jvm.MethodName)) ∈ mm_big := mm_k 672 (by decide +kernel) rfl
theorem k_673 : (Jvm.Cond.selects "CoconutShies$Chances" ({ cls := "CoconutShies$Chances", name := "waysDown", desc := "(LCoconutShies$Booth;LCoconutShies$Stand;II)I" } : Jvm.MethodName) ({ cls := "CoconutShies$Chances", name := "waysDown", desc := "(LCoconutShies$Booth;LCoconutShies$Stand;II)I" } : Jvm.MethodName)) ∈ mm_big := mm_k 673 (by decide +kernel) rfl
theorem k_674 : (Jvm.Cond.code ({ cls := "CoconutShies$Chances", name := "waysDown", desc := "(LCoconutShies$Booth;LCoconutShies$Stand;II)I" } : Jvm.MethodName) prog_4_method_2_code (5 : Nat) (Option.some Jvm.ClassFile.FieldType.int)) ∈ mm_big := mm_k 674 (by decide +kernel) rfl
theorem k_675 : (Jvm.Cond.methodLink "CoconutShies$Chances" (29 : Nat) ({ cls := "CoconutShies$Stand", name := "becomeAs", desc := "(LCoconutShies$Stand;)V" } : Jvm.MethodName)) ∈ mm_big := mm_k 675 (by decide +kernel) rfl
theorem k_676 : (Jvm.Cond.methodLink "CoconutShies$Chances" (35 : Nat) ({ cls := "CoconutShies$Chances", name := "waysFrom", desc := "(LCoconutShies$Chances;LCoconutShies$Booth;III)I" } : Jvm.MethodName)) ∈ mm_big := mm_k 676 (by decide +kernel) rfl
theorem k_677 : (Jvm.Cond.static ({ cls := "CoconutShies$Chances", name := "waysFrom", desc := "(LCoconutShies$Chances;LCoconutShies$Booth;III)I" } : Jvm.MethodName)) ∈ mm_big := mm_k 677 (by decide +kernel) rfl
theorem k_678 : (Jvm.Cond.code ({ cls := "CoconutShies$Chances", name := "waysFrom", desc := "(LCoconutShies$Chances;LCoconutShies$Booth;III)I" } : Jvm.MethodName) prog_4_method_4_code (10 : Nat) (Option.some Jvm.ClassFile.FieldType.int)) ∈ mm_big := mm_k 678 (by decide +kernel) rfl
theorem k_679 : (Jvm.Cond.methodLink "CoconutShies$Chances" (39 : Nat) ({ cls := "CoconutShies$Stand", name := "isUp", desc := "(I)Z" } : Jvm.MethodName)) ∈ mm_big := mm_k 679 (by decide +kernel) rfl
theorem k_680 : (Jvm.Cond.methodLink "CoconutShies$Chances" (43 : Nat) ({ cls := "CoconutShies$Stand", name := "throwBy", desc := "(LCoconutShies$Booth;III)I" } : Jvm.MethodName)) ∈ mm_big := mm_k 680 (by decide +kernel) rfl
theorem k_681 : (Jvm.Cond.methodLink "CoconutShies" (273 : Nat) ({ cls := "CoconutShies$Chances", name := "allWays", desc := "(I)I" } : Jvm.MethodName)) ∈ mm_big := mm_k 681 (by decide +kernel) rfl
theorem k_682 : (Jvm.Cond.static ({ cls := "CoconutShies$Chances", name := "allWays", desc := "(I)I" } : Jvm.MethodName)) ∈ mm_big := mm_k 682 (by decide +kernel) rfl
theorem k_683 : (Jvm.Cond.code ({ cls := "CoconutShies$Chances", name := "allWays", desc := "(I)I" } : Jvm.MethodName) prog_4_method_3_code (3 : Nat) (Option.some Jvm.ClassFile.FieldType.int)) ∈ mm_big := mm_k 683 (by decide +kernel) rfl
theorem k_684 : (Jvm.Cond.methodLink "CoconutShiesLaw" (126 : Nat) ({ cls := "CoconutShies", name := "seed", desc := "(J)J" } : Jvm.MethodName)) ∈ mm_big := mm_k 684 (by decide +kernel) rfl
theorem k_685 : (Jvm.Cond.instanceMethod ({ cls := "CoconutShies", name := "seed", desc := "(J)J" } : Jvm.MethodName)) ∈ mm_big := mm_k 685 (by decide +kernel) rfl
theorem k_686 : (Jvm.Cond.selects "CoconutShies" ({ cls := "CoconutShies", name := "seed", desc := "(J)J" } : Jvm.MethodName) ({ cls := "CoconutShies", name := "seed", desc := "(J)J" } : Jvm.MethodName)) ∈ mm_big := mm_k 686 (by decide +kernel) rfl
theorem k_687 : (Jvm.Cond.code ({ cls := "CoconutShies", name := "seed", desc := "(J)J" } : Jvm.MethodName) prog_1_method_28_code (5 : Nat) (Option.some Jvm.ClassFile.FieldType.long)) ∈ mm_big := mm_k 687 (by decide +kernel) rfl
theorem k_688 : (Jvm.Cond.methodLink "CoconutShiesLaw" (131 : Nat) ({ cls := "CoconutShies", name := "fairs", desc := "(I)I" } : Jvm.MethodName)) ∈ mm_big := mm_k 688 (by decide +kernel) rfl
theorem k_689 : (Jvm.Cond.instanceMethod ({ cls := "CoconutShies", name := "fairs", desc := "(I)I" } : Jvm.MethodName)) ∈ mm_big := mm_k 689 (by decide +kernel) rfl
theorem k_690 : (Jvm.Cond.selects "CoconutShies" ({ cls := "CoconutShies", name := "fairs", desc := "(I)I" } : Jvm.MethodName) ({ cls := "CoconutShies", name := "fairs", desc := "(I)I" } : Jvm.MethodName)) ∈ mm_big := mm_k 690 (by decide +kernel) rfl
theorem k_691 : (Jvm.Cond.code ({ cls := "CoconutShies", name := "fairs", desc := "(I)I" } : Jvm.MethodName) prog_1_method_29_code (4 : Nat) (Option.some Jvm.ClassFile.FieldType.int)) ∈ mm_big := mm_k 691 (by decide +kernel) rfl
theorem k_692 : (Jvm.Cond.methodLink "CoconutShies" (276 : Nat) ({ cls := "CoconutShies$Chances", name := "startFrom", desc := "(LCoconutShies$Stand;)V" } : Jvm.MethodName)) ∈ mm_big := mm_k 692 (by decide +kernel) rfl
theorem k_693 : (Jvm.Cond.instanceMethod ({ cls := "CoconutShies$Chances", name := "startFrom", desc := "(LCoconutShies$Stand;)V" } : Jvm.MethodName)) ∈ mm_big := mm_k 693 (by decide +kernel) rfl
theorem k_694 : (Jvm.Cond.selects "CoconutShies$Chances" ({ cls := "CoconutShies$Chances", name := "startFrom", desc := "(LCoconutShies$Stand;)V" } : Jvm.MethodName) ({ cls := "CoconutShies$Chances", name := "startFrom", desc := "(LCoconutShies$Stand;)V" } : Jvm.MethodName)) ∈ mm_big := mm_k 694 (by decide +kernel) rfl
theorem k_695 : (Jvm.Cond.code ({ cls := "CoconutShies$Chances", name := "startFrom", desc := "(LCoconutShies$Stand;)V" } : Jvm.MethodName) prog_4_method_5_code (2 : Nat) (Option.none : Option Jvm.ClassFile.FieldType)) ∈ mm_big := mm_k 695 (by decide +kernel) rfl
theorem k_696 : (Jvm.Cond.constantLong "CoconutShies" (279 : Nat) (6364136223846793005 : Int64)) ∈ mm_big := mm_k 696 (by decide +kernel) rfl
theorem k_697 : (Jvm.Cond.constantLong "CoconutShies" (281 : Nat) (1442695040888963407 : Int64)) ∈ mm_big := mm_k 697 (by decide +kernel) rfl
theorem k_698 : (Jvm.Cond.constantLong "CoconutShies" (283 : Nat) (96 : Int64)) ∈ mm_big := mm_k 698 (by decide +kernel) rfl
theorem k_699 : (Jvm.Cond.methodLink "CoconutShies" (285 : Nat) ({ cls := "CoconutShies$Chances", name := "downBehindDrawn", desc := "(LCoconutShies$Booth;I)I" } : Jvm.MethodName)) ∈ mm_big := mm_k 699 (by decide +kernel) rfl
theorem k_700 : (Jvm.Cond.instanceMethod ({ cls := "CoconutShies$Chances", name := "downBehindDrawn", desc := "(LCoconutShies$Booth;I)I" } : Jvm.MethodName)) ∈ mm_big := mm_k 700 (by decide +kernel) rfl
theorem k_701 : (Jvm.Cond.selects "CoconutShies$Chances" ({ cls := "CoconutShies$Chances", name := "downBehindDrawn", desc := "(LCoconutShies$Booth;I)I" } : Jvm.MethodName) ({ cls := "CoconutShies$Chances", name := "downBehindDrawn", desc := "(LCoconutShies$Booth;I)I" } : Jvm.MethodName)) ∈ mm_big := mm_k 701 (by decide +kernel) rfl
theorem k_702 : (Jvm.Cond.code ({ cls := "CoconutShies$Chances", name := "downBehindDrawn", desc := "(LCoconutShies$Booth;I)I" } : Jvm.MethodName) prog_4_method_6_code (4 : Nat) (Option.some Jvm.ClassFile.FieldType.int)) ∈ mm_big := mm_k 702 (by decide +kernel) rfl
theorem k_703 : (Jvm.Cond.methodLink "CoconutShies$Chances" (47 : Nat) ({ cls := "CoconutShies$Booth", name := "isThrower", desc := "(I)Z" } : Jvm.MethodName)) ∈ mm_big := mm_k 703 (by decide +kernel) rfl
theorem k_704 : (Jvm.Cond.methodLink "CoconutShies$Chances" (52 : Nat) ({ cls := "CoconutShies$Stand", name := "howManyDown", desc := "()I" } : Jvm.MethodName)) ∈ mm_big := mm_k 704 (by decide +kernel) rfl
theorem k_705 : (Jvm.Cond.methodLink "CoconutShiesLaw" (135 : Nat) ({ cls := "CoconutShies", name := "keep", desc := "(I)I" } : Jvm.MethodName)) ∈ mm_big := mm_k 705 (by decide +kernel) rfl
theorem k_706 : (Jvm.Cond.instanceMethod ({ cls := "CoconutShies", name := "keep", desc := "(I)I" } : Jvm.MethodName)) ∈ mm_big := mm_k 706 (by decide +kernel) rfl
theorem k_707 : (Jvm.Cond.selects "CoconutShies" ({ cls := "CoconutShies", name := "keep", desc := "(I)I" } : Jvm.MethodName) ({ cls := "CoconutShies", name := "keep", desc := "(I)I" } : Jvm.MethodName)) ∈ mm_big := mm_k 707 (by decide +kernel) rfl
theorem k_708 : (Jvm.Cond.code ({ cls := "CoconutShies", name := "keep", desc := "(I)I" } : Jvm.MethodName) prog_1_method_30_code (2 : Nat) (Option.some Jvm.ClassFile.FieldType.int)) ∈ mm_big := mm_k 708 (by decide +kernel) rfl
theorem k_709 : (Jvm.Cond.methodLink "CoconutShies" (288 : Nat) ({ cls := "CoconutShies$Slots", name := "put", desc := "(ILCoconutShies$Stand;)Z" } : Jvm.MethodName)) ∈ mm_big := mm_k 709 (by decide +kernel) rfl
theorem k_710 : (Jvm.Cond.instanceMethod ({ cls := "CoconutShies$Slots", name := "put", desc := "(ILCoconutShies$Stand;)Z" } : Jvm.MethodName)) ∈ mm_big := mm_k 710 (by decide +kernel) rfl
theorem k_711 : (Jvm.Cond.selects "CoconutShies$Slots" ({ cls := "CoconutShies$Slots", name := "put", desc := "(ILCoconutShies$Stand;)Z" } : Jvm.MethodName) ({ cls := "CoconutShies$Slots", name := "put", desc := "(ILCoconutShies$Stand;)Z" } : Jvm.MethodName)) ∈ mm_big := mm_k 711 (by decide +kernel) rfl
theorem k_712 : (Jvm.Cond.code ({ cls := "CoconutShies$Slots", name := "put", desc := "(ILCoconutShies$Stand;)Z" } : Jvm.MethodName) prog_8_method_2_code (3 : Nat) (Option.some Jvm.ClassFile.FieldType.boolean)) ∈ mm_big := mm_k 712 (by decide +kernel) rfl
theorem k_713 : (Jvm.Cond.methodLink "CoconutShies$Slots" (23 : Nat) ({ cls := "CoconutShies$Stand", name := "becomeAs", desc := "(LCoconutShies$Stand;)V" } : Jvm.MethodName)) ∈ mm_big := mm_k 713 (by decide +kernel) rfl
theorem k_714 : (Jvm.Cond.methodLink "CoconutShies" (292 : Nat) ({ cls := "CoconutShies$Stand", name := "howManyDown", desc := "()I" } : Jvm.MethodName)) ∈ mm_big := mm_k 714 (by decide +kernel) rfl
theorem k_715 : (Jvm.Cond.methodLink "CoconutShiesLaw" (139 : Nat) ({ cls := "CoconutShies", name := "again", desc := "(I)I" } : Jvm.MethodName)) ∈ mm_big := mm_k 715 (by decide +kernel) rfl
theorem k_716 : (Jvm.Cond.instanceMethod ({ cls := "CoconutShies", name := "again", desc := "(I)I" } : Jvm.MethodName)) ∈ mm_big := mm_k 716 (by decide +kernel) rfl
theorem k_717 : (Jvm.Cond.selects "CoconutShies" ({ cls := "CoconutShies", name := "again", desc := "(I)I" } : Jvm.MethodName) ({ cls := "CoconutShies", name := "again", desc := "(I)I" } : Jvm.MethodName)) ∈ mm_big := mm_k 717 (by decide +kernel) rfl
theorem k_718 : (Jvm.Cond.code ({ cls := "CoconutShies", name := "again", desc := "(I)I" } : Jvm.MethodName) prog_1_method_31_code (2 : Nat) (Option.some Jvm.ClassFile.FieldType.int)) ∈ mm_big := mm_k 718 (by decide +kernel) rfl
theorem k_719 : (Jvm.Cond.methodLink "CoconutShies" (296 : Nat) ({ cls := "CoconutShies$Slots", name := "get", desc := "(ILCoconutShies$Stand;)Z" } : Jvm.MethodName)) ∈ mm_big := mm_k 719 (by decide +kernel) rfl
theorem k_720 : (Jvm.Cond.instanceMethod ({ cls := "CoconutShies$Slots", name := "get", desc := "(ILCoconutShies$Stand;)Z" } : Jvm.MethodName)) ∈ mm_big := mm_k 720 (by decide +kernel) rfl
theorem k_721 : (Jvm.Cond.selects "CoconutShies$Slots" ({ cls := "CoconutShies$Slots", name := "get", desc := "(ILCoconutShies$Stand;)Z" } : Jvm.MethodName) ({ cls := "CoconutShies$Slots", name := "get", desc := "(ILCoconutShies$Stand;)Z" } : Jvm.MethodName)) ∈ mm_big := mm_k 721 (by decide +kernel) rfl
theorem k_722 : (Jvm.Cond.code ({ cls := "CoconutShies$Slots", name := "get", desc := "(ILCoconutShies$Stand;)Z" } : Jvm.MethodName) prog_8_method_3_code (3 : Nat) (Option.some Jvm.ClassFile.FieldType.boolean)) ∈ mm_big := mm_k 722 (by decide +kernel) rfl
theorem k_723 : (Jvm.Cond.classLink "CoconutShiesLaw" (10 : Nat) "CoconutShiesModel") ∈ mm_big := mm_k 723 (by decide +kernel) rfl
theorem k_724 : (Jvm.Cond.instantiable "CoconutShiesModel" (41 : Nat)) ∈ mm_big := mm_k 724 (by decide +kernel) rfl
theorem k_725 : (Jvm.Cond.methodLink "CoconutShiesLaw" (12 : Nat) ({ cls := "CoconutShiesModel", name := "<init>", desc := "()V" } : Jvm.MethodName)) ∈ mm_big := mm_k 725 (by decide +kernel) rfl
theorem k_726 : (Jvm.Cond.instanceMethod ({ cls := "CoconutShiesModel", name := "<init>", desc := "()V" } : Jvm.MethodName)) ∈ mm_big := mm_k 726 (by decide +kernel) rfl
theorem k_727 : (Jvm.Cond.code ({ cls := "CoconutShiesModel", name := "<init>", desc := "()V" } : Jvm.MethodName) prog_12_method_1_code (1 : Nat) (Option.none : Option Jvm.ClassFile.FieldType)) ∈ mm_big := mm_k 727 (by decide +kernel) rfl
theorem k_728 : (Jvm.Cond.methodLink "CoconutShiesModel" (1 : Nat) ({ cls := "java/lang/Object", name := "<init>", desc := "()V" } : Jvm.MethodName)) ∈ mm_big := mm_k 728 (by decide +kernel) rfl
theorem k_729 : (Jvm.Cond.fieldLink "CoconutShiesModel" (71 : Nat) "CoconutShiesModel" "thrown" "I") ∈ mm_big := mm_k 729 (by decide +kernel) rfl
theorem k_730 : (Jvm.Cond.fieldLink "CoconutShiesModel" (7 : Nat) "CoconutShiesModel" "text" "[I") ∈ mm_big := mm_k 730 (by decide +kernel) rfl
theorem k_731 : (Jvm.Cond.fieldLink "CoconutShiesModel" (87 : Nat) "CoconutShiesModel" "textSize" "I") ∈ mm_big := mm_k 731 (by decide +kernel) rfl
theorem k_732 : (Jvm.Cond.fieldLink "CoconutShiesModel" (90 : Nat) "CoconutShiesModel" "place" "I") ∈ mm_big := mm_k 732 (by decide +kernel) rfl
theorem k_733 : (Jvm.Cond.fieldLink "CoconutShiesModel" (75 : Nat) "CoconutShiesModel" "husks" "I") ∈ mm_big := mm_k 733 (by decide +kernel) rfl
theorem k_734 : (Jvm.Cond.fieldLink "CoconutShiesModel" (13 : Nat) "CoconutShiesModel" "husk" "[I") ∈ mm_big := mm_k 734 (by decide +kernel) rfl
theorem k_735 : (Jvm.Cond.fieldLink "CoconutShiesModel" (82 : Nat) "CoconutShiesModel" "throwers" "I") ∈ mm_big := mm_k 735 (by decide +kernel) rfl
theorem k_736 : (Jvm.Cond.fieldLink "CoconutShiesModel" (16 : Nat) "CoconutShiesModel" "thrower" "[I") ∈ mm_big := mm_k 736 (by decide +kernel) rfl
theorem k_737 : (Jvm.Cond.fieldLink "CoconutShiesModel" (134 : Nat) "CoconutShiesModel" "laws" "I") ∈ mm_big := mm_k 737 (by decide +kernel) rfl
theorem k_738 : (Jvm.Cond.fieldLink "CoconutShiesModel" (19 : Nat) "CoconutShiesModel" "law" "[I") ∈ mm_big := mm_k 738 (by decide +kernel) rfl
theorem k_739 : (Jvm.Cond.fieldLink "CoconutShiesModel" (122 : Nat) "CoconutShiesModel" "readWind" "I") ∈ mm_big := mm_k 739 (by decide +kernel) rfl
theorem k_740 : (Jvm.Cond.fieldLink "CoconutShiesModel" (125 : Nat) "CoconutShiesModel" "readPaid" "I") ∈ mm_big := mm_k 740 (by decide +kernel) rfl
theorem k_741 : (Jvm.Cond.fieldLink "CoconutShiesModel" (95 : Nat) "CoconutShiesModel" "readHusks" "I") ∈ mm_big := mm_k 741 (by decide +kernel) rfl
theorem k_742 : (Jvm.Cond.fieldLink "CoconutShiesModel" (22 : Nat) "CoconutShiesModel" "readHusk" "[I") ∈ mm_big := mm_k 742 (by decide +kernel) rfl
theorem k_743 : (Jvm.Cond.fieldLink "CoconutShiesModel" (106 : Nat) "CoconutShiesModel" "readThrowers" "I") ∈ mm_big := mm_k 743 (by decide +kernel) rfl
theorem k_744 : (Jvm.Cond.fieldLink "CoconutShiesModel" (25 : Nat) "CoconutShiesModel" "readThrower" "[I") ∈ mm_big := mm_k 744 (by decide +kernel) rfl
theorem k_745 : (Jvm.Cond.fieldLink "CoconutShiesModel" (109 : Nat) "CoconutShiesModel" "readLaws" "I") ∈ mm_big := mm_k 745 (by decide +kernel) rfl
theorem k_746 : (Jvm.Cond.fieldLink "CoconutShiesModel" (28 : Nat) "CoconutShiesModel" "readLaw" "[I") ∈ mm_big := mm_k 746 (by decide +kernel) rfl
theorem k_747 : (Jvm.Cond.fieldLink "CoconutShiesModel" (31 : Nat) "CoconutShiesModel" "page" "[I") ∈ mm_big := mm_k 747 (by decide +kernel) rfl
theorem k_748 : (Jvm.Cond.fieldLink "CoconutShiesModel" (34 : Nat) "CoconutShiesModel" "trial" "[I") ∈ mm_big := mm_k 748 (by decide +kernel) rfl
theorem k_749 : (Jvm.Cond.fieldLink "CoconutShiesModel" (37 : Nat) "CoconutShiesModel" "base" "[I") ∈ mm_big := mm_k 749 (by decide +kernel) rfl
theorem k_750 : (Jvm.Cond.fieldLink "CoconutShiesModel" (40 : Nat) "CoconutShiesModel" "book" "[I") ∈ mm_big := mm_k 750 (by decide +kernel) rfl
theorem k_751 : (Jvm.Cond.fieldLink "CoconutShiesModel" (141 : Nat) "CoconutShiesModel" "acts" "I") ∈ mm_big := mm_k 751 (by decide +kernel) rfl
theorem k_752 : (Jvm.Cond.fieldLink "CoconutShiesModel" (43 : Nat) "CoconutShiesModel" "kept" "[I") ∈ mm_big := mm_k 752 (by decide +kernel) rfl
theorem k_753 : (Jvm.Cond.fieldLink "CoconutShiesModel" (46 : Nat) "CoconutShiesModel" "isKept" "[Z") ∈ mm_big := mm_k 753 (by decide +kernel) rfl
theorem k_754 : (Jvm.Cond.fieldLink "CoconutShiesModel" (176 : Nat) "CoconutShiesModel" "seen" "I") ∈ mm_big := mm_k 754 (by decide +kernel) rfl
theorem k_755 : (Jvm.Cond.fieldLink "CoconutShiesModel" (50 : Nat) "CoconutShiesModel" "seenHusk" "[I") ∈ mm_big := mm_k 755 (by decide +kernel) rfl
theorem k_756 : (Jvm.Cond.fieldLink "CoconutShiesModel" (53 : Nat) "CoconutShiesModel" "seenForce" "[I") ∈ mm_big := mm_k 756 (by decide +kernel) rfl
theorem k_757 : (Jvm.Cond.fieldLink "CoconutShiesModel" (56 : Nat) "CoconutShiesModel" "seenFell" "[I") ∈ mm_big := mm_k 757 (by decide +kernel) rfl
theorem k_758 : (Jvm.Cond.fieldLink "CoconutShiesModel" (269 : Nat) "CoconutShiesModel" "seed" "J") ∈ mm_big := mm_k 758 (by decide +kernel) rfl
theorem k_759 : (Jvm.Cond.fieldLink "CoconutShiesModel" (152 : Nat) "CoconutShiesModel" "fell" "I") ∈ mm_big := mm_k 759 (by decide +kernel) rfl
theorem k_760 : (Jvm.Cond.fieldLink "CoconutShiesModel" (59 : Nat) "CoconutShiesModel" "heapHusk" "[I") ∈ mm_big := mm_k 760 (by decide +kernel) rfl
theorem k_761 : (Jvm.Cond.fieldLink "CoconutShiesModel" (62 : Nat) "CoconutShiesModel" "heapLaw" "[I") ∈ mm_big := mm_k 761 (by decide +kernel) rfl
theorem k_762 : (Jvm.Cond.fieldLink "CoconutShiesModel" (206 : Nat) "CoconutShiesModel" "fewMany" "I") ∈ mm_big := mm_k 762 (by decide +kernel) rfl
theorem k_763 : (Jvm.Cond.fieldLink "CoconutShiesModel" (209 : Nat) "CoconutShiesModel" "fewRow" "I") ∈ mm_big := mm_k 763 (by decide +kernel) rfl
theorem k_764 : (Jvm.Cond.fieldLink "CoconutShiesModel" (222 : Nat) "CoconutShiesModel" "matchMany" "I") ∈ mm_big := mm_k 764 (by decide +kernel) rfl
theorem k_765 : (Jvm.Cond.fieldLink "CoconutShiesModel" (225 : Nat) "CoconutShiesModel" "matchRow" "I") ∈ mm_big := mm_k 765 (by decide +kernel) rfl
theorem k_766 : (Jvm.Cond.fieldLink "CoconutShiesModel" (258 : Nat) "CoconutShiesModel" "restMany" "I") ∈ mm_big := mm_k 766 (by decide +kernel) rfl
theorem k_767 : (Jvm.Cond.fieldLink "CoconutShiesModel" (261 : Nat) "CoconutShiesModel" "restFirst" "I") ∈ mm_big := mm_k 767 (by decide +kernel) rfl
theorem k_768 : (Jvm.Cond.fieldLink "CoconutShiesModel" (65 : Nat) "CoconutShiesModel" "worth" "[I") ∈ mm_big := mm_k 768 (by decide +kernel) rfl
theorem k_769 : (Jvm.Cond.fieldLink "CoconutShiesModel" (68 : Nat) "CoconutShiesModel" "value" "[I") ∈ mm_big := mm_k 769 (by decide +kernel) rfl
theorem k_853 : (Jvm.Cond.methodLink "CoconutShiesLaw" (17 : Nat) ({ cls := "CoconutShiesModel", name := "write", desc := "(I)I" } : Jvm.MethodName)) ∈ mm_big := mm_k 853 (by decide +kernel) rfl
theorem k_854 : (Jvm.Cond.instanceMethod ({ cls := "CoconutShiesModel", name := "write", desc := "(I)I" } : Jvm.MethodName)) ∈ mm_big := mm_k 854 (by decide +kernel) rfl
theorem k_855 : (Jvm.Cond.selects "CoconutShiesModel" ({ cls := "CoconutShiesModel", name := "write", desc := "(I)I" } : Jvm.MethodName) ({ cls := "CoconutShiesModel", name := "write", desc := "(I)I" } : Jvm.MethodName)) ∈ mm_big := mm_k 855 (by decide +kernel) rfl
theorem k_856 : (Jvm.Cond.code ({ cls := "CoconutShiesModel", name := "write", desc := "(I)I" } : Jvm.MethodName) prog_12_method_8_code (2 : Nat) (Option.some Jvm.ClassFile.FieldType.int)) ∈ mm_big := mm_k 856 (by decide +kernel) rfl
theorem k_857 : (Jvm.Cond.constantLong "CoconutShiesModel" (85 : Nat) (255 : Int64)) ∈ mm_big := mm_k 857 (by decide +kernel) rfl
theorem k_858 : (Jvm.Cond.methodLink "CoconutShiesModel" (78 : Nat) ({ cls := "CoconutShiesModel", name := "in", desc := "(JJJ)Z" } : Jvm.MethodName)) ∈ mm_big := mm_k 858 (by decide +kernel) rfl
theorem k_859 : (Jvm.Cond.static ({ cls := "CoconutShiesModel", name := "in", desc := "(JJJ)Z" } : Jvm.MethodName)) ∈ mm_big := mm_k 859 (by decide +kernel) rfl
theorem k_860 : (Jvm.Cond.code ({ cls := "CoconutShiesModel", name := "in", desc := "(JJJ)Z" } : Jvm.MethodName) prog_12_method_3_code (6 : Nat) (Option.some Jvm.ClassFile.FieldType.boolean)) ∈ mm_big := mm_k 860 (by decide +kernel) rfl
theorem k_861 : (Jvm.Cond.methodLink "CoconutShiesLaw" (22 : Nat) ({ cls := "CoconutShiesModel", name := "wipe", desc := "()I" } : Jvm.MethodName)) ∈ mm_big := mm_k 861 (by decide +kernel) rfl
theorem k_862 : (Jvm.Cond.instanceMethod ({ cls := "CoconutShiesModel", name := "wipe", desc := "()I" } : Jvm.MethodName)) ∈ mm_big := mm_k 862 (by decide +kernel) rfl
theorem k_863 : (Jvm.Cond.selects "CoconutShiesModel" ({ cls := "CoconutShiesModel", name := "wipe", desc := "()I" } : Jvm.MethodName) ({ cls := "CoconutShiesModel", name := "wipe", desc := "()I" } : Jvm.MethodName)) ∈ mm_big := mm_k 863 (by decide +kernel) rfl
theorem k_864 : (Jvm.Cond.code ({ cls := "CoconutShiesModel", name := "wipe", desc := "()I" } : Jvm.MethodName) prog_12_method_9_code (2 : Nat) (Option.some Jvm.ClassFile.FieldType.int)) ∈ mm_big := mm_k 864 (by decide +kernel) rfl
theorem k_865 : (Jvm.Cond.methodLink "CoconutShiesLaw" (26 : Nat) ({ cls := "CoconutShiesModel", name := "fault", desc := "()I" } : Jvm.MethodName)) ∈ mm_big := mm_k 865 (by decide +kernel) rfl
theorem k_866 : (Jvm.Cond.instanceMethod ({ cls := "CoconutShiesModel", name := "fault", desc := "()I" } : Jvm.MethodName)) ∈ mm_big := mm_k 866 (by decide +kernel) rfl
theorem k_867 : (Jvm.Cond.selects "CoconutShiesModel" ({ cls := "CoconutShiesModel", name := "fault", desc := "()I" } : Jvm.MethodName) ({ cls := "CoconutShiesModel", name := "fault", desc := "()I" } : Jvm.MethodName)) ∈ mm_big := mm_k 867 (by decide +kernel) rfl
theorem k_868 : (Jvm.Cond.code ({ cls := "CoconutShiesModel", name := "fault", desc := "()I" } : Jvm.MethodName) prog_12_method_17_code (1 : Nat) (Option.some Jvm.ClassFile.FieldType.int)) ∈ mm_big := mm_k 868 (by decide +kernel) rfl
theorem k_869 : (Jvm.Cond.methodLink "CoconutShiesModel" (131 : Nat) ({ cls := "CoconutShiesModel", name := "readFair", desc := "()I" } : Jvm.MethodName)) ∈ mm_big := mm_k 869 (by decide +kernel) rfl
theorem k_871 : (Jvm.Cond.instanceMethod ({ cls := "CoconutShiesModel", name := "readFair", desc := "()I" } : Jvm.MethodName)) ∈ mm_big := mm_k 871 (by decide +kernel) rfl
theorem k_872 : (Jvm.Cond.code ({ cls := "CoconutShiesModel", name := "readFair", desc := "()I" } : Jvm.MethodName) prog_12_method_16_code (1 : Nat) (Option.some Jvm.ClassFile.FieldType.int)) ∈ mm_big := mm_k 872 (by decide +kernel) rfl
theorem k_873 : (Jvm.Cond.methodLink "CoconutShiesModel" (102 : Nat) ({ cls := "CoconutShiesModel", name := "figure", desc := "(II)I" } : Jvm.MethodName)) ∈ mm_big := mm_k 873 (by decide +kernel) rfl
theorem k_875 : (Jvm.Cond.instanceMethod ({ cls := "CoconutShiesModel", name := "figure", desc := "(II)I" } : Jvm.MethodName)) ∈ mm_big := mm_k 875 (by decide +kernel) rfl
theorem k_876 : (Jvm.Cond.code ({ cls := "CoconutShiesModel", name := "figure", desc := "(II)I" } : Jvm.MethodName) prog_12_method_10_code (3 : Nat) (Option.some Jvm.ClassFile.FieldType.int)) ∈ mm_big := mm_k 876 (by decide +kernel) rfl
theorem k_877 : (Jvm.Cond.methodLink "CoconutShiesModel" (128 : Nat) ({ cls := "CoconutShiesModel", name := "readPart", desc := "()Z" } : Jvm.MethodName)) ∈ mm_big := mm_k 877 (by decide +kernel) rfl
theorem k_879 : (Jvm.Cond.instanceMethod ({ cls := "CoconutShiesModel", name := "readPart", desc := "()Z" } : Jvm.MethodName)) ∈ mm_big := mm_k 879 (by decide +kernel) rfl
theorem k_880 : (Jvm.Cond.code ({ cls := "CoconutShiesModel", name := "readPart", desc := "()Z" } : Jvm.MethodName) prog_12_method_15_code (2 : Nat) (Option.some Jvm.ClassFile.FieldType.boolean)) ∈ mm_big := mm_k 880 (by decide +kernel) rfl
theorem k_881 : (Jvm.Cond.methodLink "CoconutShiesModel" (112 : Nat) ({ cls := "CoconutShiesModel", name := "readOneHusk", desc := "()Z" } : Jvm.MethodName)) ∈ mm_big := mm_k 881 (by decide +kernel) rfl
theorem k_883 : (Jvm.Cond.instanceMethod ({ cls := "CoconutShiesModel", name := "readOneHusk", desc := "()Z" } : Jvm.MethodName)) ∈ mm_big := mm_k 883 (by decide +kernel) rfl
theorem k_884 : (Jvm.Cond.code ({ cls := "CoconutShiesModel", name := "readOneHusk", desc := "()Z" } : Jvm.MethodName) prog_12_method_12_code (4 : Nat) (Option.some Jvm.ClassFile.FieldType.boolean)) ∈ mm_big := mm_k 884 (by decide +kernel) rfl
theorem k_885 : (Jvm.Cond.methodLink "CoconutShiesModel" (98 : Nat) ({ cls := "CoconutShiesModel", name := "readPlace", desc := "()I" } : Jvm.MethodName)) ∈ mm_big := mm_k 885 (by decide +kernel) rfl
theorem k_887 : (Jvm.Cond.instanceMethod ({ cls := "CoconutShiesModel", name := "readPlace", desc := "()I" } : Jvm.MethodName)) ∈ mm_big := mm_k 887 (by decide +kernel) rfl
theorem k_888 : (Jvm.Cond.code ({ cls := "CoconutShiesModel", name := "readPlace", desc := "()I" } : Jvm.MethodName) prog_12_method_11_code (4 : Nat) (Option.some Jvm.ClassFile.FieldType.int)) ∈ mm_big := mm_k 888 (by decide +kernel) rfl
theorem k_889 : (Jvm.Cond.constantLong "CoconutShiesModel" (93 : Nat) (7 : Int64)) ∈ mm_big := mm_k 889 (by decide +kernel) rfl
theorem k_890 : (Jvm.Cond.methodLink "CoconutShiesModel" (116 : Nat) ({ cls := "CoconutShiesModel", name := "readOneThrower", desc := "()Z" } : Jvm.MethodName)) ∈ mm_big := mm_k 890 (by decide +kernel) rfl
theorem k_892 : (Jvm.Cond.instanceMethod ({ cls := "CoconutShiesModel", name := "readOneThrower", desc := "()Z" } : Jvm.MethodName)) ∈ mm_big := mm_k 892 (by decide +kernel) rfl
theorem k_893 : (Jvm.Cond.code ({ cls := "CoconutShiesModel", name := "readOneThrower", desc := "()Z" } : Jvm.MethodName) prog_12_method_13_code (4 : Nat) (Option.some Jvm.ClassFile.FieldType.boolean)) ∈ mm_big := mm_k 893 (by decide +kernel) rfl
theorem k_894 : (Jvm.Cond.methodLink "CoconutShiesModel" (119 : Nat) ({ cls := "CoconutShiesModel", name := "readOneLaw", desc := "()Z" } : Jvm.MethodName)) ∈ mm_big := mm_k 894 (by decide +kernel) rfl
theorem k_896 : (Jvm.Cond.instanceMethod ({ cls := "CoconutShiesModel", name := "readOneLaw", desc := "()Z" } : Jvm.MethodName)) ∈ mm_big := mm_k 896 (by decide +kernel) rfl
theorem k_897 : (Jvm.Cond.code ({ cls := "CoconutShiesModel", name := "readOneLaw", desc := "()Z" } : Jvm.MethodName) prog_12_method_14_code (4 : Nat) (Option.some Jvm.ClassFile.FieldType.boolean)) ∈ mm_big := mm_k 897 (by decide +kernel) rfl
theorem k_898 : (Jvm.Cond.methodLink "CoconutShiesLaw" (30 : Nat) ({ cls := "CoconutShiesModel", name := "fair", desc := "()I" } : Jvm.MethodName)) ∈ mm_big := mm_k 898 (by decide +kernel) rfl
theorem k_899 : (Jvm.Cond.instanceMethod ({ cls := "CoconutShiesModel", name := "fair", desc := "()I" } : Jvm.MethodName)) ∈ mm_big := mm_k 899 (by decide +kernel) rfl
theorem k_900 : (Jvm.Cond.selects "CoconutShiesModel" ({ cls := "CoconutShiesModel", name := "fair", desc := "()I" } : Jvm.MethodName) ({ cls := "CoconutShiesModel", name := "fair", desc := "()I" } : Jvm.MethodName)) ∈ mm_big := mm_k 900 (by decide +kernel) rfl
theorem k_901 : (Jvm.Cond.code ({ cls := "CoconutShiesModel", name := "fair", desc := "()I" } : Jvm.MethodName) prog_12_method_19_code (2 : Nat) (Option.some Jvm.ClassFile.FieldType.int)) ∈ mm_big := mm_k 901 (by decide +kernel) rfl
theorem k_902 : (Jvm.Cond.methodLink "CoconutShiesModel" (137 : Nat) ({ cls := "CoconutShiesModel", name := "copyRow", desc := "([I[II)V" } : Jvm.MethodName)) ∈ mm_big := mm_k 902 (by decide +kernel) rfl
theorem k_903 : (Jvm.Cond.static ({ cls := "CoconutShiesModel", name := "copyRow", desc := "([I[II)V" } : Jvm.MethodName)) ∈ mm_big := mm_k 903 (by decide +kernel) rfl
theorem k_904 : (Jvm.Cond.code ({ cls := "CoconutShiesModel", name := "copyRow", desc := "([I[II)V" } : Jvm.MethodName) prog_12_method_18_code (4 : Nat) (Option.none : Option Jvm.ClassFile.FieldType)) ∈ mm_big := mm_k 904 (by decide +kernel) rfl
theorem k_905 : (Jvm.Cond.methodLink "CoconutShiesLaw" (34 : Nat) ({ cls := "CoconutShiesModel", name := "about", desc := "(I)I" } : Jvm.MethodName)) ∈ mm_big := mm_k 905 (by decide +kernel) rfl
theorem k_906 : (Jvm.Cond.instanceMethod ({ cls := "CoconutShiesModel", name := "about", desc := "(I)I" } : Jvm.MethodName)) ∈ mm_big := mm_k 906 (by decide +kernel) rfl
theorem k_907 : (Jvm.Cond.selects "CoconutShiesModel" ({ cls := "CoconutShiesModel", name := "about", desc := "(I)I" } : Jvm.MethodName) ({ cls := "CoconutShiesModel", name := "about", desc := "(I)I" } : Jvm.MethodName)) ∈ mm_big := mm_k 907 (by decide +kernel) rfl
theorem k_908 : (Jvm.Cond.code ({ cls := "CoconutShiesModel", name := "about", desc := "(I)I" } : Jvm.MethodName) prog_12_method_29_code (2 : Nat) (Option.some Jvm.ClassFile.FieldType.int)) ∈ mm_big := mm_k 908 (by decide +kernel) rfl
theorem k_909 : (Jvm.Cond.methodLink "CoconutShiesLaw" (39 : Nat) ({ cls := "CoconutShiesModel", name := "husk", desc := "(II)I" } : Jvm.MethodName)) ∈ mm_big := mm_k 909 (by decide +kernel) rfl
theorem k_910 : (Jvm.Cond.instanceMethod ({ cls := "CoconutShiesModel", name := "husk", desc := "(II)I" } : Jvm.MethodName)) ∈ mm_big := mm_k 910 (by decide +kernel) rfl
theorem k_911 : (Jvm.Cond.selects "CoconutShiesModel" ({ cls := "CoconutShiesModel", name := "husk", desc := "(II)I" } : Jvm.MethodName) ({ cls := "CoconutShiesModel", name := "husk", desc := "(II)I" } : Jvm.MethodName)) ∈ mm_big := mm_k 911 (by decide +kernel) rfl
theorem k_912 : (Jvm.Cond.code ({ cls := "CoconutShiesModel", name := "husk", desc := "(II)I" } : Jvm.MethodName) prog_12_method_30_code (3 : Nat) (Option.some Jvm.ClassFile.FieldType.int)) ∈ mm_big := mm_k 912 (by decide +kernel) rfl
theorem k_913 : (Jvm.Cond.methodLink "CoconutShiesModel" (179 : Nat) ({ cls := "CoconutShiesModel", name := "noHusk", desc := "(I)Z" } : Jvm.MethodName)) ∈ mm_big := mm_k 913 (by decide +kernel) rfl
theorem k_915 : (Jvm.Cond.instanceMethod ({ cls := "CoconutShiesModel", name := "noHusk", desc := "(I)Z" } : Jvm.MethodName)) ∈ mm_big := mm_k 915 (by decide +kernel) rfl
theorem k_916 : (Jvm.Cond.code ({ cls := "CoconutShiesModel", name := "noHusk", desc := "(I)Z" } : Jvm.MethodName) prog_12_method_6_code (2 : Nat) (Option.some Jvm.ClassFile.FieldType.boolean)) ∈ mm_big := mm_k 916 (by decide +kernel) rfl
theorem k_917 : (Jvm.Cond.methodLink "CoconutShiesModel" (170 : Nat) ({ cls := "CoconutShiesModel", name := "firm", desc := "([II)I" } : Jvm.MethodName)) ∈ mm_big := mm_k 917 (by decide +kernel) rfl
theorem k_919 : (Jvm.Cond.instanceMethod ({ cls := "CoconutShiesModel", name := "firm", desc := "([II)I" } : Jvm.MethodName)) ∈ mm_big := mm_k 919 (by decide +kernel) rfl
theorem k_920 : (Jvm.Cond.code ({ cls := "CoconutShiesModel", name := "firm", desc := "([II)I" } : Jvm.MethodName) prog_12_method_20_code (4 : Nat) (Option.some Jvm.ClassFile.FieldType.int)) ∈ mm_big := mm_k 920 (by decide +kernel) rfl
theorem k_921 : (Jvm.Cond.methodLink "CoconutShiesModel" (144 : Nat) ({ cls := "CoconutShiesModel", name := "has", desc := "(II)Z" } : Jvm.MethodName)) ∈ mm_big := mm_k 921 (by decide +kernel) rfl
theorem k_922 : (Jvm.Cond.static ({ cls := "CoconutShiesModel", name := "has", desc := "(II)Z" } : Jvm.MethodName)) ∈ mm_big := mm_k 922 (by decide +kernel) rfl
theorem k_923 : (Jvm.Cond.code ({ cls := "CoconutShiesModel", name := "has", desc := "(II)Z" } : Jvm.MethodName) prog_12_method_4_code (2 : Nat) (Option.some Jvm.ClassFile.FieldType.boolean)) ∈ mm_big := mm_k 923 (by decide +kernel) rfl
theorem k_924 : (Jvm.Cond.methodLink "CoconutShiesLaw" (43 : Nat) ({ cls := "CoconutShiesModel", name := "thrower", desc := "(II)I" } : Jvm.MethodName)) ∈ mm_big := mm_k 924 (by decide +kernel) rfl
theorem k_925 : (Jvm.Cond.instanceMethod ({ cls := "CoconutShiesModel", name := "thrower", desc := "(II)I" } : Jvm.MethodName)) ∈ mm_big := mm_k 925 (by decide +kernel) rfl
theorem k_926 : (Jvm.Cond.selects "CoconutShiesModel" ({ cls := "CoconutShiesModel", name := "thrower", desc := "(II)I" } : Jvm.MethodName) ({ cls := "CoconutShiesModel", name := "thrower", desc := "(II)I" } : Jvm.MethodName)) ∈ mm_big := mm_k 926 (by decide +kernel) rfl
theorem k_927 : (Jvm.Cond.code ({ cls := "CoconutShiesModel", name := "thrower", desc := "(II)I" } : Jvm.MethodName) prog_12_method_31_code (3 : Nat) (Option.some Jvm.ClassFile.FieldType.int)) ∈ mm_big := mm_k 927 (by decide +kernel) rfl
theorem k_928 : (Jvm.Cond.methodLink "CoconutShiesModel" (183 : Nat) ({ cls := "CoconutShiesModel", name := "noThrower", desc := "(I)Z" } : Jvm.MethodName)) ∈ mm_big := mm_k 928 (by decide +kernel) rfl
theorem k_930 : (Jvm.Cond.instanceMethod ({ cls := "CoconutShiesModel", name := "noThrower", desc := "(I)Z" } : Jvm.MethodName)) ∈ mm_big := mm_k 930 (by decide +kernel) rfl
theorem k_931 : (Jvm.Cond.code ({ cls := "CoconutShiesModel", name := "noThrower", desc := "(I)Z" } : Jvm.MethodName) prog_12_method_7_code (2 : Nat) (Option.some Jvm.ClassFile.FieldType.boolean)) ∈ mm_big := mm_k 931 (by decide +kernel) rfl
theorem k_932 : (Jvm.Cond.constantLong "CoconutShiesModel" (186 : Nat) (2 : Int64)) ∈ mm_big := mm_k 932 (by decide +kernel) rfl
theorem k_933 : (Jvm.Cond.methodLink "CoconutShiesModel" (167 : Nat) ({ cls := "CoconutShiesModel", name := "force", desc := "(I)I" } : Jvm.MethodName)) ∈ mm_big := mm_k 933 (by decide +kernel) rfl
theorem k_935 : (Jvm.Cond.instanceMethod ({ cls := "CoconutShiesModel", name := "force", desc := "(I)I" } : Jvm.MethodName)) ∈ mm_big := mm_k 935 (by decide +kernel) rfl
theorem k_936 : (Jvm.Cond.code ({ cls := "CoconutShiesModel", name := "force", desc := "(I)I" } : Jvm.MethodName) prog_12_method_22_code (2 : Nat) (Option.some Jvm.ClassFile.FieldType.int)) ∈ mm_big := mm_k 936 (by decide +kernel) rfl
theorem k_937 : (Jvm.Cond.methodLink "CoconutShiesLaw" (48 : Nat) ({ cls := "CoconutShiesModel", name := "lands", desc := "(III)I" } : Jvm.MethodName)) ∈ mm_big := mm_k 937 (by decide +kernel) rfl
theorem k_938 : (Jvm.Cond.instanceMethod ({ cls := "CoconutShiesModel", name := "lands", desc := "(III)I" } : Jvm.MethodName)) ∈ mm_big := mm_k 938 (by decide +kernel) rfl
theorem k_939 : (Jvm.Cond.selects "CoconutShiesModel" ({ cls := "CoconutShiesModel", name := "lands", desc := "(III)I" } : Jvm.MethodName) ({ cls := "CoconutShiesModel", name := "lands", desc := "(III)I" } : Jvm.MethodName)) ∈ mm_big := mm_k 939 (by decide +kernel) rfl
theorem k_940 : (Jvm.Cond.code ({ cls := "CoconutShiesModel", name := "lands", desc := "(III)I" } : Jvm.MethodName) prog_12_method_33_code (5 : Nat) (Option.some Jvm.ClassFile.FieldType.int)) ∈ mm_big := mm_k 940 (by decide +kernel) rfl
theorem k_941 : (Jvm.Cond.methodLink "CoconutShiesModel" (188 : Nat) ({ cls := "CoconutShiesModel", name := "noThrow", desc := "(III)I" } : Jvm.MethodName)) ∈ mm_big := mm_k 941 (by decide +kernel) rfl
theorem k_943 : (Jvm.Cond.instanceMethod ({ cls := "CoconutShiesModel", name := "noThrow", desc := "(III)I" } : Jvm.MethodName)) ∈ mm_big := mm_k 943 (by decide +kernel) rfl
theorem k_944 : (Jvm.Cond.code ({ cls := "CoconutShiesModel", name := "noThrow", desc := "(III)I" } : Jvm.MethodName) prog_12_method_32_code (4 : Nat) (Option.some Jvm.ClassFile.FieldType.int)) ∈ mm_big := mm_k 944 (by decide +kernel) rfl
theorem k_945 : (Jvm.Cond.methodLink "CoconutShiesModel" (159 : Nat) ({ cls := "CoconutShiesModel", name := "landing", desc := "([IIII)I" } : Jvm.MethodName)) ∈ mm_big := mm_k 945 (by decide +kernel) rfl
theorem k_947 : (Jvm.Cond.instanceMethod ({ cls := "CoconutShiesModel", name := "landing", desc := "([IIII)I" } : Jvm.MethodName)) ∈ mm_big := mm_k 947 (by decide +kernel) rfl
theorem k_948 : (Jvm.Cond.code ({ cls := "CoconutShiesModel", name := "landing", desc := "([IIII)I" } : Jvm.MethodName) prog_12_method_23_code (8 : Nat) (Option.some Jvm.ClassFile.FieldType.int)) ∈ mm_big := mm_k 948 (by decide +kernel) rfl
theorem k_949 : (Jvm.Cond.methodLink "CoconutShiesModel" (148 : Nat) ({ cls := "CoconutShiesModel", name := "blows", desc := "([II)I" } : Jvm.MethodName)) ∈ mm_big := mm_k 949 (by decide +kernel) rfl
theorem k_951 : (Jvm.Cond.instanceMethod ({ cls := "CoconutShiesModel", name := "blows", desc := "([II)I" } : Jvm.MethodName)) ∈ mm_big := mm_k 951 (by decide +kernel) rfl
theorem k_952 : (Jvm.Cond.code ({ cls := "CoconutShiesModel", name := "blows", desc := "([II)I" } : Jvm.MethodName) prog_12_method_21_code (3 : Nat) (Option.some Jvm.ClassFile.FieldType.int)) ∈ mm_big := mm_k 952 (by decide +kernel) rfl
theorem k_953 : (Jvm.Cond.methodLink "CoconutShiesLaw" (52 : Nat) ({ cls := "CoconutShiesModel", name := "toss", desc := "(III)I" } : Jvm.MethodName)) ∈ mm_big := mm_k 953 (by decide +kernel) rfl
theorem k_954 : (Jvm.Cond.instanceMethod ({ cls := "CoconutShiesModel", name := "toss", desc := "(III)I" } : Jvm.MethodName)) ∈ mm_big := mm_k 954 (by decide +kernel) rfl
theorem k_955 : (Jvm.Cond.selects "CoconutShiesModel" ({ cls := "CoconutShiesModel", name := "toss", desc := "(III)I" } : Jvm.MethodName) ({ cls := "CoconutShiesModel", name := "toss", desc := "(III)I" } : Jvm.MethodName)) ∈ mm_big := mm_k 955 (by decide +kernel) rfl
theorem k_956 : (Jvm.Cond.code ({ cls := "CoconutShiesModel", name := "toss", desc := "(III)I" } : Jvm.MethodName) prog_12_method_35_code (5 : Nat) (Option.some Jvm.ClassFile.FieldType.int)) ∈ mm_big := mm_k 956 (by decide +kernel) rfl
theorem k_957 : (Jvm.Cond.methodLink "CoconutShiesModel" (192 : Nat) ({ cls := "CoconutShiesModel", name := "note", desc := "()V" } : Jvm.MethodName)) ∈ mm_big := mm_k 957 (by decide +kernel) rfl
theorem k_959 : (Jvm.Cond.instanceMethod ({ cls := "CoconutShiesModel", name := "note", desc := "()V" } : Jvm.MethodName)) ∈ mm_big := mm_k 959 (by decide +kernel) rfl
theorem k_960 : (Jvm.Cond.code ({ cls := "CoconutShiesModel", name := "note", desc := "()V" } : Jvm.MethodName) prog_12_method_34_code (2 : Nat) (Option.none : Option Jvm.ClassFile.FieldType)) ∈ mm_big := mm_k 960 (by decide +kernel) rfl
theorem k_961 : (Jvm.Cond.methodLink "CoconutShiesModel" (195 : Nat) ({ cls := "CoconutShiesModel", name := "goThrow", desc := "([IIII)V" } : Jvm.MethodName)) ∈ mm_big := mm_k 961 (by decide +kernel) rfl
theorem k_963 : (Jvm.Cond.instanceMethod ({ cls := "CoconutShiesModel", name := "goThrow", desc := "([IIII)V" } : Jvm.MethodName)) ∈ mm_big := mm_k 963 (by decide +kernel) rfl
theorem k_964 : (Jvm.Cond.code ({ cls := "CoconutShiesModel", name := "goThrow", desc := "([IIII)V" } : Jvm.MethodName) prog_12_method_27_code (7 : Nat) (Option.none : Option Jvm.ClassFile.FieldType)) ∈ mm_big := mm_k 964 (by decide +kernel) rfl
theorem k_965 : (Jvm.Cond.methodLink "CoconutShiesModel" (163 : Nat) ({ cls := "CoconutShiesModel", name := "huskAt", desc := "(I)I" } : Jvm.MethodName)) ∈ mm_big := mm_k 965 (by decide +kernel) rfl
theorem k_967 : (Jvm.Cond.instanceMethod ({ cls := "CoconutShiesModel", name := "huskAt", desc := "(I)I" } : Jvm.MethodName)) ∈ mm_big := mm_k 967 (by decide +kernel) rfl
theorem k_968 : (Jvm.Cond.code ({ cls := "CoconutShiesModel", name := "huskAt", desc := "(I)I" } : Jvm.MethodName) prog_12_method_24_code (4 : Nat) (Option.some Jvm.ClassFile.FieldType.int)) ∈ mm_big := mm_k 968 (by decide +kernel) rfl
theorem k_969 : (Jvm.Cond.methodLink "CoconutShiesModel" (173 : Nat) ({ cls := "CoconutShiesModel", name := "fall", desc := "([II)V" } : Jvm.MethodName)) ∈ mm_big := mm_k 969 (by decide +kernel) rfl
theorem k_971 : (Jvm.Cond.instanceMethod ({ cls := "CoconutShiesModel", name := "fall", desc := "([II)V" } : Jvm.MethodName)) ∈ mm_big := mm_k 971 (by decide +kernel) rfl
theorem k_972 : (Jvm.Cond.code ({ cls := "CoconutShiesModel", name := "fall", desc := "([II)V" } : Jvm.MethodName) prog_12_method_26_code (7 : Nat) (Option.none : Option Jvm.ClassFile.FieldType)) ∈ mm_big := mm_k 972 (by decide +kernel) rfl
theorem k_973 : (Jvm.Cond.methodLink "CoconutShiesModel" (155 : Nat) ({ cls := "CoconutShiesModel", name := "stand", desc := "([II)V" } : Jvm.MethodName)) ∈ mm_big := mm_k 973 (by decide +kernel) rfl
theorem k_974 : (Jvm.Cond.static ({ cls := "CoconutShiesModel", name := "stand", desc := "([II)V" } : Jvm.MethodName)) ∈ mm_big := mm_k 974 (by decide +kernel) rfl
theorem k_975 : (Jvm.Cond.code ({ cls := "CoconutShiesModel", name := "stand", desc := "([II)V" } : Jvm.MethodName) prog_12_method_25_code (2 : Nat) (Option.none : Option Jvm.ClassFile.FieldType)) ∈ mm_big := mm_k 975 (by decide +kernel) rfl
theorem k_976 : (Jvm.Cond.methodLink "CoconutShiesLaw" (56 : Nat) ({ cls := "CoconutShiesModel", name := "set", desc := "(I)I" } : Jvm.MethodName)) ∈ mm_big := mm_k 976 (by decide +kernel) rfl
theorem k_977 : (Jvm.Cond.instanceMethod ({ cls := "CoconutShiesModel", name := "set", desc := "(I)I" } : Jvm.MethodName)) ∈ mm_big := mm_k 977 (by decide +kernel) rfl
theorem k_978 : (Jvm.Cond.selects "CoconutShiesModel" ({ cls := "CoconutShiesModel", name := "set", desc := "(I)I" } : Jvm.MethodName) ({ cls := "CoconutShiesModel", name := "set", desc := "(I)I" } : Jvm.MethodName)) ∈ mm_big := mm_k 978 (by decide +kernel) rfl
theorem k_979 : (Jvm.Cond.code ({ cls := "CoconutShiesModel", name := "set", desc := "(I)I" } : Jvm.MethodName) prog_12_method_36_code (2 : Nat) (Option.some Jvm.ClassFile.FieldType.int)) ∈ mm_big := mm_k 979 (by decide +kernel) rfl
theorem k_980 : (Jvm.Cond.methodLink "CoconutShiesLaw" (60 : Nat) ({ cls := "CoconutShiesModel", name := "nail", desc := "(I)I" } : Jvm.MethodName)) ∈ mm_big := mm_k 980 (by decide +kernel) rfl
theorem k_981 : (Jvm.Cond.instanceMethod ({ cls := "CoconutShiesModel", name := "nail", desc := "(I)I" } : Jvm.MethodName)) ∈ mm_big := mm_k 981 (by decide +kernel) rfl
theorem k_982 : (Jvm.Cond.selects "CoconutShiesModel" ({ cls := "CoconutShiesModel", name := "nail", desc := "(I)I" } : Jvm.MethodName) ({ cls := "CoconutShiesModel", name := "nail", desc := "(I)I" } : Jvm.MethodName)) ∈ mm_big := mm_k 982 (by decide +kernel) rfl
theorem k_983 : (Jvm.Cond.code ({ cls := "CoconutShiesModel", name := "nail", desc := "(I)I" } : Jvm.MethodName) prog_12_method_37_code (2 : Nat) (Option.some Jvm.ClassFile.FieldType.int)) ∈ mm_big := mm_k 983 (by decide +kernel) rfl
theorem k_984 : (Jvm.Cond.methodLink "CoconutShiesLaw" (64 : Nat) ({ cls := "CoconutShiesModel", name := "pay", desc := "()I" } : Jvm.MethodName)) ∈ mm_big := mm_k 984 (by decide +kernel) rfl
theorem k_985 : (Jvm.Cond.instanceMethod ({ cls := "CoconutShiesModel", name := "pay", desc := "()I" } : Jvm.MethodName)) ∈ mm_big := mm_k 985 (by decide +kernel) rfl
theorem k_986 : (Jvm.Cond.selects "CoconutShiesModel" ({ cls := "CoconutShiesModel", name := "pay", desc := "()I" } : Jvm.MethodName) ({ cls := "CoconutShiesModel", name := "pay", desc := "()I" } : Jvm.MethodName)) ∈ mm_big := mm_k 986 (by decide +kernel) rfl
theorem k_987 : (Jvm.Cond.code ({ cls := "CoconutShiesModel", name := "pay", desc := "()I" } : Jvm.MethodName) prog_12_method_39_code (1 : Nat) (Option.some Jvm.ClassFile.FieldType.int)) ∈ mm_big := mm_k 987 (by decide +kernel) rfl
theorem k_988 : (Jvm.Cond.methodLink "CoconutShiesModel" (199 : Nat) ({ cls := "CoconutShiesModel", name := "paidMore", desc := "(I)I" } : Jvm.MethodName)) ∈ mm_big := mm_k 988 (by decide +kernel) rfl
theorem k_989 : (Jvm.Cond.static ({ cls := "CoconutShiesModel", name := "paidMore", desc := "(I)I" } : Jvm.MethodName)) ∈ mm_big := mm_k 989 (by decide +kernel) rfl
theorem k_990 : (Jvm.Cond.code ({ cls := "CoconutShiesModel", name := "paidMore", desc := "(I)I" } : Jvm.MethodName) prog_12_method_38_code (1 : Nat) (Option.some Jvm.ClassFile.FieldType.int)) ∈ mm_big := mm_k 990 (by decide +kernel) rfl
theorem k_991 : (Jvm.Cond.methodLink "CoconutShiesLaw" (68 : Nat) ({ cls := "CoconutShiesModel", name := "blow", desc := "(I)I" } : Jvm.MethodName)) ∈ mm_big := mm_k 991 (by decide +kernel) rfl
theorem k_992 : (Jvm.Cond.instanceMethod ({ cls := "CoconutShiesModel", name := "blow", desc := "(I)I" } : Jvm.MethodName)) ∈ mm_big := mm_k 992 (by decide +kernel) rfl
theorem k_993 : (Jvm.Cond.selects "CoconutShiesModel" ({ cls := "CoconutShiesModel", name := "blow", desc := "(I)I" } : Jvm.MethodName) ({ cls := "CoconutShiesModel", name := "blow", desc := "(I)I" } : Jvm.MethodName)) ∈ mm_big := mm_k 993 (by decide +kernel) rfl
theorem k_994 : (Jvm.Cond.code ({ cls := "CoconutShiesModel", name := "blow", desc := "(I)I" } : Jvm.MethodName) prog_12_method_40_code (3 : Nat) (Option.some Jvm.ClassFile.FieldType.int)) ∈ mm_big := mm_k 994 (by decide +kernel) rfl
theorem k_995 : (Jvm.Cond.methodLink "CoconutShiesLaw" (72 : Nat) ({ cls := "CoconutShiesModel", name := "undo", desc := "()I" } : Jvm.MethodName)) ∈ mm_big := mm_k 995 (by decide +kernel) rfl
theorem k_996 : (Jvm.Cond.instanceMethod ({ cls := "CoconutShiesModel", name := "undo", desc := "()I" } : Jvm.MethodName)) ∈ mm_big := mm_k 996 (by decide +kernel) rfl
theorem k_997 : (Jvm.Cond.selects "CoconutShiesModel" ({ cls := "CoconutShiesModel", name := "undo", desc := "()I" } : Jvm.MethodName) ({ cls := "CoconutShiesModel", name := "undo", desc := "()I" } : Jvm.MethodName)) ∈ mm_big := mm_k 997 (by decide +kernel) rfl
theorem k_998 : (Jvm.Cond.code ({ cls := "CoconutShiesModel", name := "undo", desc := "()I" } : Jvm.MethodName) prog_12_method_41_code (2 : Nat) (Option.some Jvm.ClassFile.FieldType.int)) ∈ mm_big := mm_k 998 (by decide +kernel) rfl
theorem k_999 : (Jvm.Cond.methodLink "CoconutShiesLaw" (76 : Nat) ({ cls := "CoconutShiesModel", name := "felled", desc := "(III)I" } : Jvm.MethodName)) ∈ mm_big := mm_k 999 (by decide +kernel) rfl
theorem k_1000 : (Jvm.Cond.instanceMethod ({ cls := "CoconutShiesModel", name := "felled", desc := "(III)I" } : Jvm.MethodName)) ∈ mm_big := mm_k 1000 (by decide +kernel) rfl
theorem k_1001 : (Jvm.Cond.selects "CoconutShiesModel" ({ cls := "CoconutShiesModel", name := "felled", desc := "(III)I" } : Jvm.MethodName) ({ cls := "CoconutShiesModel", name := "felled", desc := "(III)I" } : Jvm.MethodName)) ∈ mm_big := mm_k 1001 (by decide +kernel) rfl
theorem k_1002 : (Jvm.Cond.code ({ cls := "CoconutShiesModel", name := "felled", desc := "(III)I" } : Jvm.MethodName) prog_12_method_42_code (5 : Nat) (Option.some Jvm.ClassFile.FieldType.int)) ∈ mm_big := mm_k 1002 (by decide +kernel) rfl
theorem k_1003 : (Jvm.Cond.methodLink "CoconutShiesLaw" (81 : Nat) ({ cls := "CoconutShiesModel", name := "fewest", desc := "(IZ)I" } : Jvm.MethodName)) ∈ mm_big := mm_k 1003 (by decide +kernel) rfl
theorem k_1004 : (Jvm.Cond.instanceMethod ({ cls := "CoconutShiesModel", name := "fewest", desc := "(IZ)I" } : Jvm.MethodName)) ∈ mm_big := mm_k 1004 (by decide +kernel) rfl
theorem k_1005 : (Jvm.Cond.selects "CoconutShiesModel" ({ cls := "CoconutShiesModel", name := "fewest", desc := "(IZ)I" } : Jvm.MethodName) ({ cls := "CoconutShiesModel", name := "fewest", desc := "(IZ)I" } : Jvm.MethodName)) ∈ mm_big := mm_k 1005 (by decide +kernel) rfl
theorem k_1006 : (Jvm.Cond.code ({ cls := "CoconutShiesModel", name := "fewest", desc := "(IZ)I" } : Jvm.MethodName) prog_12_method_46_code (3 : Nat) (Option.some Jvm.ClassFile.FieldType.int)) ∈ mm_big := mm_k 1006 (by decide +kernel) rfl
theorem k_1007 : (Jvm.Cond.methodLink "CoconutShiesModel" (218 : Nat) ({ cls := "CoconutShiesModel", name := "findFewest", desc := "(I)V" } : Jvm.MethodName)) ∈ mm_big := mm_k 1007 (by decide +kernel) rfl
theorem k_1009 : (Jvm.Cond.instanceMethod ({ cls := "CoconutShiesModel", name := "findFewest", desc := "(I)V" } : Jvm.MethodName)) ∈ mm_big := mm_k 1009 (by decide +kernel) rfl
theorem k_1010 : (Jvm.Cond.code ({ cls := "CoconutShiesModel", name := "findFewest", desc := "(I)V" } : Jvm.MethodName) prog_12_method_45_code (10 : Nat) (Option.none : Option Jvm.ClassFile.FieldType)) ∈ mm_big := mm_k 1010 (by decide +kernel) rfl
theorem k_1011 : (Jvm.Cond.methodLink "CoconutShiesModel" (212 : Nat) ({ cls := "CoconutShiesModel", name := "power", desc := "(II)I" } : Jvm.MethodName)) ∈ mm_big := mm_k 1011 (by decide +kernel) rfl
theorem k_1012 : (Jvm.Cond.static ({ cls := "CoconutShiesModel", name := "power", desc := "(II)I" } : Jvm.MethodName)) ∈ mm_big := mm_k 1012 (by decide +kernel) rfl
theorem k_1013 : (Jvm.Cond.code ({ cls := "CoconutShiesModel", name := "power", desc := "(II)I" } : Jvm.MethodName) prog_12_method_43_code (4 : Nat) (Option.some Jvm.ClassFile.FieldType.int)) ∈ mm_big := mm_k 1013 (by decide +kernel) rfl
theorem k_1014 : (Jvm.Cond.methodLink "CoconutShiesModel" (215 : Nat) ({ cls := "CoconutShiesModel", name := "throwsAt", desc := "(II)Z" } : Jvm.MethodName)) ∈ mm_big := mm_k 1014 (by decide +kernel) rfl
theorem k_1016 : (Jvm.Cond.instanceMethod ({ cls := "CoconutShiesModel", name := "throwsAt", desc := "(II)Z" } : Jvm.MethodName)) ∈ mm_big := mm_k 1016 (by decide +kernel) rfl
theorem k_1017 : (Jvm.Cond.code ({ cls := "CoconutShiesModel", name := "throwsAt", desc := "(II)Z" } : Jvm.MethodName) prog_12_method_44_code (4 : Nat) (Option.some Jvm.ClassFile.FieldType.boolean)) ∈ mm_big := mm_k 1017 (by decide +kernel) rfl
theorem k_1018 : (Jvm.Cond.methodLink "CoconutShiesModel" (202 : Nat) ({ cls := "CoconutShiesModel", name := "placeAt", desc := "([III)I" } : Jvm.MethodName)) ∈ mm_big := mm_k 1018 (by decide +kernel) rfl
theorem k_1020 : (Jvm.Cond.instanceMethod ({ cls := "CoconutShiesModel", name := "placeAt", desc := "([III)I" } : Jvm.MethodName)) ∈ mm_big := mm_k 1020 (by decide +kernel) rfl
theorem k_1021 : (Jvm.Cond.code ({ cls := "CoconutShiesModel", name := "placeAt", desc := "([III)I" } : Jvm.MethodName) prog_12_method_28_code (5 : Nat) (Option.some Jvm.ClassFile.FieldType.int)) ∈ mm_big := mm_k 1021 (by decide +kernel) rfl
theorem k_1022 : (Jvm.Cond.methodLink "CoconutShiesLaw" (85 : Nat) ({ cls := "CoconutShiesModel", name := "winds", desc := "(II)I" } : Jvm.MethodName)) ∈ mm_big := mm_k 1022 (by decide +kernel) rfl
theorem k_1023 : (Jvm.Cond.instanceMethod ({ cls := "CoconutShiesModel", name := "winds", desc := "(II)I" } : Jvm.MethodName)) ∈ mm_big := mm_k 1023 (by decide +kernel) rfl
theorem k_1024 : (Jvm.Cond.selects "CoconutShiesModel" ({ cls := "CoconutShiesModel", name := "winds", desc := "(II)I" } : Jvm.MethodName) ({ cls := "CoconutShiesModel", name := "winds", desc := "(II)I" } : Jvm.MethodName)) ∈ mm_big := mm_k 1024 (by decide +kernel) rfl
theorem k_1025 : (Jvm.Cond.code ({ cls := "CoconutShiesModel", name := "winds", desc := "(II)I" } : Jvm.MethodName) prog_12_method_47_code (6 : Nat) (Option.some Jvm.ClassFile.FieldType.int)) ∈ mm_big := mm_k 1025 (by decide +kernel) rfl
theorem k_1026 : (Jvm.Cond.methodLink "CoconutShiesLaw" (90 : Nat) ({ cls := "CoconutShiesModel", name := "match", desc := "(Z)I" } : Jvm.MethodName)) ∈ mm_big := mm_k 1026 (by decide +kernel) rfl
theorem k_1027 : (Jvm.Cond.instanceMethod ({ cls := "CoconutShiesModel", name := "match", desc := "(Z)I" } : Jvm.MethodName)) ∈ mm_big := mm_k 1027 (by decide +kernel) rfl
theorem k_1028 : (Jvm.Cond.selects "CoconutShiesModel" ({ cls := "CoconutShiesModel", name := "match", desc := "(Z)I" } : Jvm.MethodName) ({ cls := "CoconutShiesModel", name := "match", desc := "(Z)I" } : Jvm.MethodName)) ∈ mm_big := mm_k 1028 (by decide +kernel) rfl
theorem k_1029 : (Jvm.Cond.code ({ cls := "CoconutShiesModel", name := "match", desc := "(Z)I" } : Jvm.MethodName) prog_12_method_49_code (2 : Nat) (Option.some Jvm.ClassFile.FieldType.int)) ∈ mm_big := mm_k 1029 (by decide +kernel) rfl
theorem k_1030 : (Jvm.Cond.methodLink "CoconutShiesModel" (231 : Nat) ({ cls := "CoconutShiesModel", name := "findMatch", desc := "(I)V" } : Jvm.MethodName)) ∈ mm_big := mm_k 1030 (by decide +kernel) rfl
theorem k_1032 : (Jvm.Cond.instanceMethod ({ cls := "CoconutShiesModel", name := "findMatch", desc := "(I)V" } : Jvm.MethodName)) ∈ mm_big := mm_k 1032 (by decide +kernel) rfl
theorem k_1033 : (Jvm.Cond.code ({ cls := "CoconutShiesModel", name := "findMatch", desc := "(I)V" } : Jvm.MethodName) prog_12_method_48_code (8 : Nat) (Option.none : Option Jvm.ClassFile.FieldType)) ∈ mm_big := mm_k 1033 (by decide +kernel) rfl
theorem k_1034 : (Jvm.Cond.methodLink "CoconutShiesModel" (228 : Nat) ({ cls := "CoconutShiesModel", name := "many", desc := "(I)I" } : Jvm.MethodName)) ∈ mm_big := mm_k 1034 (by decide +kernel) rfl
theorem k_1035 : (Jvm.Cond.static ({ cls := "CoconutShiesModel", name := "many", desc := "(I)I" } : Jvm.MethodName)) ∈ mm_big := mm_k 1035 (by decide +kernel) rfl
theorem k_1036 : (Jvm.Cond.code ({ cls := "CoconutShiesModel", name := "many", desc := "(I)I" } : Jvm.MethodName) prog_12_method_5_code (3 : Nat) (Option.some Jvm.ClassFile.FieldType.int)) ∈ mm_big := mm_k 1036 (by decide +kernel) rfl
theorem k_1037 : (Jvm.Cond.methodLink "CoconutShiesLaw" (94 : Nat) ({ cls := "CoconutShiesModel", name := "nails", desc := "(I)I" } : Jvm.MethodName)) ∈ mm_big := mm_k 1037 (by decide +kernel) rfl
theorem k_1038 : (Jvm.Cond.instanceMethod ({ cls := "CoconutShiesModel", name := "nails", desc := "(I)I" } : Jvm.MethodName)) ∈ mm_big := mm_k 1038 (by decide +kernel) rfl
theorem k_1039 : (Jvm.Cond.selects "CoconutShiesModel" ({ cls := "CoconutShiesModel", name := "nails", desc := "(I)I" } : Jvm.MethodName) ({ cls := "CoconutShiesModel", name := "nails", desc := "(I)I" } : Jvm.MethodName)) ∈ mm_big := mm_k 1039 (by decide +kernel) rfl
theorem k_1040 : (Jvm.Cond.code ({ cls := "CoconutShiesModel", name := "nails", desc := "(I)I" } : Jvm.MethodName) prog_12_method_51_code (5 : Nat) (Option.some Jvm.ClassFile.FieldType.int)) ∈ mm_big := mm_k 1040 (by decide +kernel) rfl
theorem k_1041 : (Jvm.Cond.methodLink "CoconutShiesModel" (234 : Nat) ({ cls := "CoconutShiesModel", name := "holdsUp", desc := "(I)Z" } : Jvm.MethodName)) ∈ mm_big := mm_k 1041 (by decide +kernel) rfl
theorem k_1043 : (Jvm.Cond.instanceMethod ({ cls := "CoconutShiesModel", name := "holdsUp", desc := "(I)Z" } : Jvm.MethodName)) ∈ mm_big := mm_k 1043 (by decide +kernel) rfl
theorem k_1044 : (Jvm.Cond.code ({ cls := "CoconutShiesModel", name := "holdsUp", desc := "(I)Z" } : Jvm.MethodName) prog_12_method_50_code (5 : Nat) (Option.some Jvm.ClassFile.FieldType.boolean)) ∈ mm_big := mm_k 1044 (by decide +kernel) rfl
theorem k_1045 : (Jvm.Cond.methodLink "CoconutShiesLaw" (98 : Nat) ({ cls := "CoconutShiesModel", name := "judge", desc := "(II)I" } : Jvm.MethodName)) ∈ mm_big := mm_k 1045 (by decide +kernel) rfl
theorem k_1046 : (Jvm.Cond.instanceMethod ({ cls := "CoconutShiesModel", name := "judge", desc := "(II)I" } : Jvm.MethodName)) ∈ mm_big := mm_k 1046 (by decide +kernel) rfl
theorem k_1047 : (Jvm.Cond.selects "CoconutShiesModel" ({ cls := "CoconutShiesModel", name := "judge", desc := "(II)I" } : Jvm.MethodName) ({ cls := "CoconutShiesModel", name := "judge", desc := "(II)I" } : Jvm.MethodName)) ∈ mm_big := mm_k 1047 (by decide +kernel) rfl
theorem k_1048 : (Jvm.Cond.code ({ cls := "CoconutShiesModel", name := "judge", desc := "(II)I" } : Jvm.MethodName) prog_12_method_53_code (4 : Nat) (Option.some Jvm.ClassFile.FieldType.int)) ∈ mm_big := mm_k 1048 (by decide +kernel) rfl
theorem k_1049 : (Jvm.Cond.constantLong "CoconutShiesModel" (237 : Nat) (4 : Int64)) ∈ mm_big := mm_k 1049 (by decide +kernel) rfl
theorem k_1050 : (Jvm.Cond.methodLink "CoconutShiesModel" (239 : Nat) ({ cls := "CoconutShiesModel", name := "does", desc := "(I)Z" } : Jvm.MethodName)) ∈ mm_big := mm_k 1050 (by decide +kernel) rfl
theorem k_1052 : (Jvm.Cond.instanceMethod ({ cls := "CoconutShiesModel", name := "does", desc := "(I)Z" } : Jvm.MethodName)) ∈ mm_big := mm_k 1052 (by decide +kernel) rfl
theorem k_1053 : (Jvm.Cond.code ({ cls := "CoconutShiesModel", name := "does", desc := "(I)Z" } : Jvm.MethodName) prog_12_method_52_code (5 : Nat) (Option.some Jvm.ClassFile.FieldType.boolean)) ∈ mm_big := mm_k 1053 (by decide +kernel) rfl
theorem k_1054 : (Jvm.Cond.methodLink "CoconutShiesLaw" (102 : Nat) ({ cls := "CoconutShiesModel", name := "share", desc := "(IZ)I" } : Jvm.MethodName)) ∈ mm_big := mm_k 1054 (by decide +kernel) rfl
theorem k_1055 : (Jvm.Cond.instanceMethod ({ cls := "CoconutShiesModel", name := "share", desc := "(IZ)I" } : Jvm.MethodName)) ∈ mm_big := mm_k 1055 (by decide +kernel) rfl
theorem k_1056 : (Jvm.Cond.selects "CoconutShiesModel" ({ cls := "CoconutShiesModel", name := "share", desc := "(IZ)I" } : Jvm.MethodName) ({ cls := "CoconutShiesModel", name := "share", desc := "(IZ)I" } : Jvm.MethodName)) ∈ mm_big := mm_k 1056 (by decide +kernel) rfl
theorem k_1057 : (Jvm.Cond.code ({ cls := "CoconutShiesModel", name := "share", desc := "(IZ)I" } : Jvm.MethodName) prog_12_method_57_code (6 : Nat) (Option.some Jvm.ClassFile.FieldType.int)) ∈ mm_big := mm_k 1057 (by decide +kernel) rfl
theorem k_1058 : (Jvm.Cond.methodLink "CoconutShiesModel" (245 : Nat) ({ cls := "CoconutShiesModel", name := "ways", desc := "(I)I" } : Jvm.MethodName)) ∈ mm_big := mm_k 1058 (by decide +kernel) rfl
theorem k_1059 : (Jvm.Cond.static ({ cls := "CoconutShiesModel", name := "ways", desc := "(I)I" } : Jvm.MethodName)) ∈ mm_big := mm_k 1059 (by decide +kernel) rfl
theorem k_1060 : (Jvm.Cond.code ({ cls := "CoconutShiesModel", name := "ways", desc := "(I)I" } : Jvm.MethodName) prog_12_method_54_code (3 : Nat) (Option.some Jvm.ClassFile.FieldType.int)) ∈ mm_big := mm_k 1060 (by decide +kernel) rfl
theorem k_1061 : (Jvm.Cond.methodLink "CoconutShiesModel" (248 : Nat) ({ cls := "CoconutShiesModel", name := "fraction", desc := "(IIZ)I" } : Jvm.MethodName)) ∈ mm_big := mm_k 1061 (by decide +kernel) rfl
theorem k_1062 : (Jvm.Cond.static ({ cls := "CoconutShiesModel", name := "fraction", desc := "(IIZ)I" } : Jvm.MethodName)) ∈ mm_big := mm_k 1062 (by decide +kernel) rfl
theorem k_1063 : (Jvm.Cond.code ({ cls := "CoconutShiesModel", name := "fraction", desc := "(IIZ)I" } : Jvm.MethodName) prog_12_method_56_code (4 : Nat) (Option.some Jvm.ClassFile.FieldType.int)) ∈ mm_big := mm_k 1063 (by decide +kernel) rfl
theorem k_1064 : (Jvm.Cond.methodLink "CoconutShiesModel" (242 : Nat) ({ cls := "CoconutShiesModel", name := "divisor", desc := "(II)I" } : Jvm.MethodName)) ∈ mm_big := mm_k 1064 (by decide +kernel) rfl
theorem k_1065 : (Jvm.Cond.static ({ cls := "CoconutShiesModel", name := "divisor", desc := "(II)I" } : Jvm.MethodName)) ∈ mm_big := mm_k 1065 (by decide +kernel) rfl
theorem k_1066 : (Jvm.Cond.code ({ cls := "CoconutShiesModel", name := "divisor", desc := "(II)I" } : Jvm.MethodName) prog_12_method_55_code (5 : Nat) (Option.some Jvm.ClassFile.FieldType.int)) ∈ mm_big := mm_k 1066 (by decide +kernel) rfl
theorem k_1067 : (Jvm.Cond.methodLink "CoconutShiesLaw" (106 : Nat) ({ cls := "CoconutShiesModel", name := "see", desc := "(III)I" } : Jvm.MethodName)) ∈ mm_big := mm_k 1067 (by decide +kernel) rfl
theorem k_1068 : (Jvm.Cond.instanceMethod ({ cls := "CoconutShiesModel", name := "see", desc := "(III)I" } : Jvm.MethodName)) ∈ mm_big := mm_k 1068 (by decide +kernel) rfl
theorem k_1069 : (Jvm.Cond.selects "CoconutShiesModel" ({ cls := "CoconutShiesModel", name := "see", desc := "(III)I" } : Jvm.MethodName) ({ cls := "CoconutShiesModel", name := "see", desc := "(III)I" } : Jvm.MethodName)) ∈ mm_big := mm_k 1069 (by decide +kernel) rfl
theorem k_1070 : (Jvm.Cond.code ({ cls := "CoconutShiesModel", name := "see", desc := "(III)I" } : Jvm.MethodName) prog_12_method_58_code (4 : Nat) (Option.some Jvm.ClassFile.FieldType.int)) ∈ mm_big := mm_k 1070 (by decide +kernel) rfl
theorem k_1071 : (Jvm.Cond.constantLong "CoconutShiesModel" (252 : Nat) (11 : Int64)) ∈ mm_big := mm_k 1071 (by decide +kernel) rfl
theorem k_1072 : (Jvm.Cond.methodLink "CoconutShiesLaw" (110 : Nat) ({ cls := "CoconutShiesModel", name := "unsee", desc := "()I" } : Jvm.MethodName)) ∈ mm_big := mm_k 1072 (by decide +kernel) rfl
theorem k_1073 : (Jvm.Cond.instanceMethod ({ cls := "CoconutShiesModel", name := "unsee", desc := "()I" } : Jvm.MethodName)) ∈ mm_big := mm_k 1073 (by decide +kernel) rfl
theorem k_1074 : (Jvm.Cond.selects "CoconutShiesModel" ({ cls := "CoconutShiesModel", name := "unsee", desc := "()I" } : Jvm.MethodName) ({ cls := "CoconutShiesModel", name := "unsee", desc := "()I" } : Jvm.MethodName)) ∈ mm_big := mm_k 1074 (by decide +kernel) rfl
theorem k_1075 : (Jvm.Cond.code ({ cls := "CoconutShiesModel", name := "unsee", desc := "()I" } : Jvm.MethodName) prog_12_method_59_code (2 : Nat) (Option.some Jvm.ClassFile.FieldType.int)) ∈ mm_big := mm_k 1075 (by decide +kernel) rfl
theorem k_1076 : (Jvm.Cond.methodLink "CoconutShiesLaw" (114 : Nat) ({ cls := "CoconutShiesModel", name := "holds", desc := "(I)I" } : Jvm.MethodName)) ∈ mm_big := mm_k 1076 (by decide +kernel) rfl
theorem k_1077 : (Jvm.Cond.instanceMethod ({ cls := "CoconutShiesModel", name := "holds", desc := "(I)I" } : Jvm.MethodName)) ∈ mm_big := mm_k 1077 (by decide +kernel) rfl
theorem k_1078 : (Jvm.Cond.selects "CoconutShiesModel" ({ cls := "CoconutShiesModel", name := "holds", desc := "(I)I" } : Jvm.MethodName) ({ cls := "CoconutShiesModel", name := "holds", desc := "(I)I" } : Jvm.MethodName)) ∈ mm_big := mm_k 1078 (by decide +kernel) rfl
theorem k_1079 : (Jvm.Cond.code ({ cls := "CoconutShiesModel", name := "holds", desc := "(I)I" } : Jvm.MethodName) prog_12_method_60_code (7 : Nat) (Option.some Jvm.ClassFile.FieldType.int)) ∈ mm_big := mm_k 1079 (by decide +kernel) rfl
theorem k_1080 : (Jvm.Cond.methodLink "CoconutShiesLaw" (118 : Nat) ({ cls := "CoconutShiesModel", name := "rests", desc := "(I)I" } : Jvm.MethodName)) ∈ mm_big := mm_k 1080 (by decide +kernel) rfl
theorem k_1081 : (Jvm.Cond.instanceMethod ({ cls := "CoconutShiesModel", name := "rests", desc := "(I)I" } : Jvm.MethodName)) ∈ mm_big := mm_k 1081 (by decide +kernel) rfl
theorem k_1082 : (Jvm.Cond.selects "CoconutShiesModel" ({ cls := "CoconutShiesModel", name := "rests", desc := "(I)I" } : Jvm.MethodName) ({ cls := "CoconutShiesModel", name := "rests", desc := "(I)I" } : Jvm.MethodName)) ∈ mm_big := mm_k 1082 (by decide +kernel) rfl
theorem k_1083 : (Jvm.Cond.code ({ cls := "CoconutShiesModel", name := "rests", desc := "(I)I" } : Jvm.MethodName) prog_12_method_63_code (2 : Nat) (Option.some Jvm.ClassFile.FieldType.int)) ∈ mm_big := mm_k 1083 (by decide +kernel) rfl
theorem k_1084 : (Jvm.Cond.methodLink "CoconutShiesModel" (264 : Nat) ({ cls := "CoconutShiesModel", name := "findRests", desc := "()V" } : Jvm.MethodName)) ∈ mm_big := mm_k 1084 (by decide +kernel) rfl
theorem k_1086 : (Jvm.Cond.instanceMethod ({ cls := "CoconutShiesModel", name := "findRests", desc := "()V" } : Jvm.MethodName)) ∈ mm_big := mm_k 1086 (by decide +kernel) rfl
theorem k_1087 : (Jvm.Cond.code ({ cls := "CoconutShiesModel", name := "findRests", desc := "()V" } : Jvm.MethodName) prog_12_method_62_code (5 : Nat) (Option.none : Option Jvm.ClassFile.FieldType)) ∈ mm_big := mm_k 1087 (by decide +kernel) rfl
theorem k_1088 : (Jvm.Cond.methodLink "CoconutShiesModel" (254 : Nat) ({ cls := "CoconutShiesModel", name := "layWorth", desc := "(II)V" } : Jvm.MethodName)) ∈ mm_big := mm_k 1088 (by decide +kernel) rfl
theorem k_1090 : (Jvm.Cond.instanceMethod ({ cls := "CoconutShiesModel", name := "layWorth", desc := "(II)V" } : Jvm.MethodName)) ∈ mm_big := mm_k 1090 (by decide +kernel) rfl
theorem k_1091 : (Jvm.Cond.code ({ cls := "CoconutShiesModel", name := "layWorth", desc := "(II)V" } : Jvm.MethodName) prog_12_method_61_code (6 : Nat) (Option.none : Option Jvm.ClassFile.FieldType)) ∈ mm_big := mm_k 1091 (by decide +kernel) rfl
theorem k_1092 : (Jvm.Cond.methodLink "CoconutShiesLaw" (123 : Nat) ({ cls := "CoconutShiesModel", name := "odds", desc := "(IIIIIZ)I" } : Jvm.MethodName)) ∈ mm_big := mm_k 1092 (by decide +kernel) rfl
theorem k_1093 : (Jvm.Cond.instanceMethod ({ cls := "CoconutShiesModel", name := "odds", desc := "(IIIIIZ)I" } : Jvm.MethodName)) ∈ mm_big := mm_k 1093 (by decide +kernel) rfl
theorem k_1094 : (Jvm.Cond.selects "CoconutShiesModel" ({ cls := "CoconutShiesModel", name := "odds", desc := "(IIIIIZ)I" } : Jvm.MethodName) ({ cls := "CoconutShiesModel", name := "odds", desc := "(IIIIIZ)I" } : Jvm.MethodName)) ∈ mm_big := mm_k 1094 (by decide +kernel) rfl
theorem k_1095 : (Jvm.Cond.code ({ cls := "CoconutShiesModel", name := "odds", desc := "(IIIIIZ)I" } : Jvm.MethodName) prog_12_method_64_code (12 : Nat) (Option.some Jvm.ClassFile.FieldType.int)) ∈ mm_big := mm_k 1095 (by decide +kernel) rfl
theorem k_1096 : (Jvm.Cond.constantLong "CoconutShiesModel" (267 : Nat) (10 : Int64)) ∈ mm_big := mm_k 1096 (by decide +kernel) rfl
theorem k_1097 : (Jvm.Cond.methodLink "CoconutShiesLaw" (130 : Nat) ({ cls := "CoconutShiesModel", name := "seed", desc := "(J)J" } : Jvm.MethodName)) ∈ mm_big := mm_k 1097 (by decide +kernel) rfl
theorem k_1098 : (Jvm.Cond.instanceMethod ({ cls := "CoconutShiesModel", name := "seed", desc := "(J)J" } : Jvm.MethodName)) ∈ mm_big := mm_k 1098 (by decide +kernel) rfl
theorem k_1099 : (Jvm.Cond.selects "CoconutShiesModel" ({ cls := "CoconutShiesModel", name := "seed", desc := "(J)J" } : Jvm.MethodName) ({ cls := "CoconutShiesModel", name := "seed", desc := "(J)J" } : Jvm.MethodName)) ∈ mm_big := mm_k 1099 (by decide +kernel) rfl
theorem k_1100 : (Jvm.Cond.code ({ cls := "CoconutShiesModel", name := "seed", desc := "(J)J" } : Jvm.MethodName) prog_12_method_65_code (5 : Nat) (Option.some Jvm.ClassFile.FieldType.long)) ∈ mm_big := mm_k 1100 (by decide +kernel) rfl
theorem k_1101 : (Jvm.Cond.methodLink "CoconutShiesLaw" (134 : Nat) ({ cls := "CoconutShiesModel", name := "fairs", desc := "(I)I" } : Jvm.MethodName)) ∈ mm_big := mm_k 1101 (by decide +kernel) rfl
theorem k_1102 : (Jvm.Cond.instanceMethod ({ cls := "CoconutShiesModel", name := "fairs", desc := "(I)I" } : Jvm.MethodName)) ∈ mm_big := mm_k 1102 (by decide +kernel) rfl
theorem k_1103 : (Jvm.Cond.selects "CoconutShiesModel" ({ cls := "CoconutShiesModel", name := "fairs", desc := "(I)I" } : Jvm.MethodName) ({ cls := "CoconutShiesModel", name := "fairs", desc := "(I)I" } : Jvm.MethodName)) ∈ mm_big := mm_k 1103 (by decide +kernel) rfl
theorem k_1104 : (Jvm.Cond.code ({ cls := "CoconutShiesModel", name := "fairs", desc := "(I)I" } : Jvm.MethodName) prog_12_method_66_code (5 : Nat) (Option.some Jvm.ClassFile.FieldType.int)) ∈ mm_big := mm_k 1104 (by decide +kernel) rfl
theorem k_1105 : (Jvm.Cond.constantLong "CoconutShiesModel" (273 : Nat) (30 : Int64)) ∈ mm_big := mm_k 1105 (by decide +kernel) rfl
theorem k_1106 : (Jvm.Cond.constantLong "CoconutShiesModel" (275 : Nat) (6364136223846793005 : Int64)) ∈ mm_big := mm_k 1106 (by decide +kernel) rfl
theorem k_1107 : (Jvm.Cond.constantLong "CoconutShiesModel" (277 : Nat) (1442695040888963407 : Int64)) ∈ mm_big := mm_k 1107 (by decide +kernel) rfl
theorem k_1108 : (Jvm.Cond.constantLong "CoconutShiesModel" (279 : Nat) (96 : Int64)) ∈ mm_big := mm_k 1108 (by decide +kernel) rfl
theorem k_1109 : (Jvm.Cond.methodLink "CoconutShiesLaw" (138 : Nat) ({ cls := "CoconutShiesModel", name := "keep", desc := "(I)I" } : Jvm.MethodName)) ∈ mm_big := mm_k 1109 (by decide +kernel) rfl
theorem k_1110 : (Jvm.Cond.instanceMethod ({ cls := "CoconutShiesModel", name := "keep", desc := "(I)I" } : Jvm.MethodName)) ∈ mm_big := mm_k 1110 (by decide +kernel) rfl
theorem k_1111 : (Jvm.Cond.selects "CoconutShiesModel" ({ cls := "CoconutShiesModel", name := "keep", desc := "(I)I" } : Jvm.MethodName) ({ cls := "CoconutShiesModel", name := "keep", desc := "(I)I" } : Jvm.MethodName)) ∈ mm_big := mm_k 1111 (by decide +kernel) rfl
theorem k_1112 : (Jvm.Cond.code ({ cls := "CoconutShiesModel", name := "keep", desc := "(I)I" } : Jvm.MethodName) prog_12_method_67_code (3 : Nat) (Option.some Jvm.ClassFile.FieldType.int)) ∈ mm_big := mm_k 1112 (by decide +kernel) rfl
theorem k_1113 : (Jvm.Cond.methodLink "CoconutShiesLaw" (142 : Nat) ({ cls := "CoconutShiesModel", name := "again", desc := "(I)I" } : Jvm.MethodName)) ∈ mm_big := mm_k 1113 (by decide +kernel) rfl
theorem k_1114 : (Jvm.Cond.instanceMethod ({ cls := "CoconutShiesModel", name := "again", desc := "(I)I" } : Jvm.MethodName)) ∈ mm_big := mm_k 1114 (by decide +kernel) rfl
theorem k_1115 : (Jvm.Cond.selects "CoconutShiesModel" ({ cls := "CoconutShiesModel", name := "again", desc := "(I)I" } : Jvm.MethodName) ({ cls := "CoconutShiesModel", name := "again", desc := "(I)I" } : Jvm.MethodName)) ∈ mm_big := mm_k 1115 (by decide +kernel) rfl
theorem k_1116 : (Jvm.Cond.code ({ cls := "CoconutShiesModel", name := "again", desc := "(I)I" } : Jvm.MethodName) prog_12_method_68_code (3 : Nat) (Option.some Jvm.ClassFile.FieldType.int)) ∈ mm_big := mm_k 1116 (by decide +kernel) rfl
theorem k_1117 : (Jvm.Cond.constantLong "CoconutShiesLaw" (124 : Nat) (4294967295 : Int64)) ∈ mm_big := mm_k 1117 (by decide +kernel) rfl
theorem ks_0 : Cond.selects "CoconutShies$Booth" ({ cls := "CoconutShies$Booth", name := "readPart", desc := "(LCoconutShies$Text;I)I" } : MethodName) ({ cls := "CoconutShies$Booth", name := "readPart", desc := "(LCoconutShies$Text;I)I" } : MethodName) ∈ mm_big := mm_ks (q := (({ cls := "CoconutShies$Booth", name := "readPart", desc := "(LCoconutShies$Text;I)I" } : MethodName), _)) 0 (by first | rfl | decide +kernel)
theorem ks_1 : Cond.selects "CoconutShies$Booth" ({ cls := "CoconutShies$Booth", name := "readHusk", desc := "(LCoconutShies$Text;I)I" } : MethodName) ({ cls := "CoconutShies$Booth", name := "readHusk", desc := "(LCoconutShies$Text;I)I" } : MethodName) ∈ mm_big := mm_ks (q := (({ cls := "CoconutShies$Booth", name := "readHusk", desc := "(LCoconutShies$Text;I)I" } : MethodName), _)) 1 (by first | rfl | decide +kernel)
theorem ks_2 : Cond.selects "CoconutShies$Booth" ({ cls := "CoconutShies$Booth", name := "readThrower", desc := "(LCoconutShies$Text;I)I" } : MethodName) ({ cls := "CoconutShies$Booth", name := "readThrower", desc := "(LCoconutShies$Text;I)I" } : MethodName) ∈ mm_big := mm_ks (q := (({ cls := "CoconutShies$Booth", name := "readThrower", desc := "(LCoconutShies$Text;I)I" } : MethodName), _)) 2 (by first | rfl | decide +kernel)
theorem ks_3 : Cond.selects "CoconutShies$Booth" ({ cls := "CoconutShies$Booth", name := "readLaw", desc := "(LCoconutShies$Text;I)I" } : MethodName) ({ cls := "CoconutShies$Booth", name := "readLaw", desc := "(LCoconutShies$Text;I)I" } : MethodName) ∈ mm_big := mm_ks (q := (({ cls := "CoconutShies$Booth", name := "readLaw", desc := "(LCoconutShies$Text;I)I" } : MethodName), _)) 3 (by first | rfl | decide +kernel)
theorem ks_4 : Cond.selects "CoconutShies" ({ cls := "CoconutShies", name := "refusalOfThrow", desc := "(III)I" } : MethodName) ({ cls := "CoconutShies", name := "refusalOfThrow", desc := "(III)I" } : MethodName) ∈ mm_big := mm_ks (q := (({ cls := "CoconutShies", name := "refusalOfThrow", desc := "(III)I" } : MethodName), _)) 4 (by first | rfl | decide +kernel)
theorem ks_5 : Cond.selects "CoconutShies$Booth" ({ cls := "CoconutShies$Booth", name := "astray", desc := "(II)I" } : MethodName) ({ cls := "CoconutShies$Booth", name := "astray", desc := "(II)I" } : MethodName) ∈ mm_big := mm_ks (q := (({ cls := "CoconutShies$Booth", name := "astray", desc := "(II)I" } : MethodName), _)) 5 (by first | rfl | decide +kernel)
theorem ks_6 : Cond.selects "CoconutShies$Booth" ({ cls := "CoconutShies$Booth", name := "drift", desc := "(II)I" } : MethodName) ({ cls := "CoconutShies$Booth", name := "drift", desc := "(II)I" } : MethodName) ∈ mm_big := mm_ks (q := (({ cls := "CoconutShies$Booth", name := "drift", desc := "(II)I" } : MethodName), _)) 6 (by first | rfl | decide +kernel)
theorem ks_7 : Cond.selects "CoconutShies$Seeker" ({ cls := "CoconutShies$Seeker", name := "weigh", desc := "(II)V" } : MethodName) ({ cls := "CoconutShies$Seeker", name := "weigh", desc := "(II)V" } : MethodName) ∈ mm_big := mm_ks (q := (({ cls := "CoconutShies$Seeker", name := "weigh", desc := "(II)V" } : MethodName), _)) 7 (by first | rfl | decide +kernel)
theorem ks_8 : Cond.selects "CoconutShies$Seeker" ({ cls := "CoconutShies$Seeker", name := "staysUp", desc := "(LCoconutShies$Booth;LCoconutShies$Stand;II)Z" } : MethodName) ({ cls := "CoconutShies$Seeker", name := "staysUp", desc := "(LCoconutShies$Booth;LCoconutShies$Stand;II)Z" } : MethodName) ∈ mm_big := mm_ks (q := (({ cls := "CoconutShies$Seeker", name := "staysUp", desc := "(LCoconutShies$Booth;LCoconutShies$Stand;II)Z" } : MethodName), _)) 8 (by first | rfl | decide +kernel)
theorem ks_9 : Cond.selects "CoconutShies$Sightings" ({ cls := "CoconutShies$Sightings", name := "agree", desc := "(II)Z" } : MethodName) ({ cls := "CoconutShies$Sightings", name := "agree", desc := "(II)Z" } : MethodName) ∈ mm_big := mm_ks (q := (({ cls := "CoconutShies$Sightings", name := "agree", desc := "(II)Z" } : MethodName), _)) 9 (by first | rfl | decide +kernel)
theorem ks_10 : Cond.selects "CoconutShies$Parties" ({ cls := "CoconutShies$Parties", name := "weigh", desc := "(LCoconutShies$Booth;LCoconutShies$Stand;II)V" } : MethodName) ({ cls := "CoconutShies$Parties", name := "weigh", desc := "(LCoconutShies$Booth;LCoconutShies$Stand;II)V" } : MethodName) ∈ mm_big := mm_ks (q := (({ cls := "CoconutShies$Parties", name := "weigh", desc := "(LCoconutShies$Booth;LCoconutShies$Stand;II)V" } : MethodName), _)) 10 (by first | rfl | decide +kernel)
theorem ks_11 : Cond.selects "CoconutShies$Parties" ({ cls := "CoconutShies$Parties", name := "costOf", desc := "(LCoconutShies$Booth;II)I" } : MethodName) ({ cls := "CoconutShies$Parties", name := "costOf", desc := "(LCoconutShies$Booth;II)I" } : MethodName) ∈ mm_big := mm_ks (q := (({ cls := "CoconutShies$Parties", name := "costOf", desc := "(LCoconutShies$Booth;II)I" } : MethodName), _)) 11 (by first | rfl | decide +kernel)
theorem ks_12 : Cond.selects "CoconutShies$Parties" ({ cls := "CoconutShies$Parties", name := "isRest", desc := "(III)Z" } : MethodName) ({ cls := "CoconutShies$Parties", name := "isRest", desc := "(III)Z" } : MethodName) ∈ mm_big := mm_ks (q := (({ cls := "CoconutShies$Parties", name := "isRest", desc := "(III)Z" } : MethodName), _)) 12 (by first | rfl | decide +kernel)
theorem ks_13 : Cond.selects "CoconutShiesModel" ({ cls := "CoconutShiesModel", name := "readFair", desc := "()I" } : MethodName) ({ cls := "CoconutShiesModel", name := "readFair", desc := "()I" } : MethodName) ∈ mm_big := mm_ks (q := (({ cls := "CoconutShiesModel", name := "readFair", desc := "()I" } : MethodName), _)) 13 (by first | rfl | decide +kernel)
theorem ks_14 : Cond.selects "CoconutShiesModel" ({ cls := "CoconutShiesModel", name := "figure", desc := "(II)I" } : MethodName) ({ cls := "CoconutShiesModel", name := "figure", desc := "(II)I" } : MethodName) ∈ mm_big := mm_ks (q := (({ cls := "CoconutShiesModel", name := "figure", desc := "(II)I" } : MethodName), _)) 14 (by first | rfl | decide +kernel)
theorem ks_15 : Cond.selects "CoconutShiesModel" ({ cls := "CoconutShiesModel", name := "readPart", desc := "()Z" } : MethodName) ({ cls := "CoconutShiesModel", name := "readPart", desc := "()Z" } : MethodName) ∈ mm_big := mm_ks (q := (({ cls := "CoconutShiesModel", name := "readPart", desc := "()Z" } : MethodName), _)) 15 (by first | rfl | decide +kernel)
theorem ks_16 : Cond.selects "CoconutShiesModel" ({ cls := "CoconutShiesModel", name := "readOneHusk", desc := "()Z" } : MethodName) ({ cls := "CoconutShiesModel", name := "readOneHusk", desc := "()Z" } : MethodName) ∈ mm_big := mm_ks (q := (({ cls := "CoconutShiesModel", name := "readOneHusk", desc := "()Z" } : MethodName), _)) 16 (by first | rfl | decide +kernel)
theorem ks_17 : Cond.selects "CoconutShiesModel" ({ cls := "CoconutShiesModel", name := "readPlace", desc := "()I" } : MethodName) ({ cls := "CoconutShiesModel", name := "readPlace", desc := "()I" } : MethodName) ∈ mm_big := mm_ks (q := (({ cls := "CoconutShiesModel", name := "readPlace", desc := "()I" } : MethodName), _)) 17 (by first | rfl | decide +kernel)
theorem ks_18 : Cond.selects "CoconutShiesModel" ({ cls := "CoconutShiesModel", name := "readOneThrower", desc := "()Z" } : MethodName) ({ cls := "CoconutShiesModel", name := "readOneThrower", desc := "()Z" } : MethodName) ∈ mm_big := mm_ks (q := (({ cls := "CoconutShiesModel", name := "readOneThrower", desc := "()Z" } : MethodName), _)) 18 (by first | rfl | decide +kernel)
theorem ks_19 : Cond.selects "CoconutShiesModel" ({ cls := "CoconutShiesModel", name := "readOneLaw", desc := "()Z" } : MethodName) ({ cls := "CoconutShiesModel", name := "readOneLaw", desc := "()Z" } : MethodName) ∈ mm_big := mm_ks (q := (({ cls := "CoconutShiesModel", name := "readOneLaw", desc := "()Z" } : MethodName), _)) 19 (by first | rfl | decide +kernel)
theorem ks_20 : Cond.selects "CoconutShiesModel" ({ cls := "CoconutShiesModel", name := "noHusk", desc := "(I)Z" } : MethodName) ({ cls := "CoconutShiesModel", name := "noHusk", desc := "(I)Z" } : MethodName) ∈ mm_big := mm_ks (q := (({ cls := "CoconutShiesModel", name := "noHusk", desc := "(I)Z" } : MethodName), _)) 20 (by first | rfl | decide +kernel)
theorem ks_21 : Cond.selects "CoconutShiesModel" ({ cls := "CoconutShiesModel", name := "firm", desc := "([II)I" } : MethodName) ({ cls := "CoconutShiesModel", name := "firm", desc := "([II)I" } : MethodName) ∈ mm_big := mm_ks (q := (({ cls := "CoconutShiesModel", name := "firm", desc := "([II)I" } : MethodName), _)) 21 (by first | rfl | decide +kernel)
theorem ks_22 : Cond.selects "CoconutShiesModel" ({ cls := "CoconutShiesModel", name := "noThrower", desc := "(I)Z" } : MethodName) ({ cls := "CoconutShiesModel", name := "noThrower", desc := "(I)Z" } : MethodName) ∈ mm_big := mm_ks (q := (({ cls := "CoconutShiesModel", name := "noThrower", desc := "(I)Z" } : MethodName), _)) 22 (by first | rfl | decide +kernel)
theorem ks_23 : Cond.selects "CoconutShiesModel" ({ cls := "CoconutShiesModel", name := "force", desc := "(I)I" } : MethodName) ({ cls := "CoconutShiesModel", name := "force", desc := "(I)I" } : MethodName) ∈ mm_big := mm_ks (q := (({ cls := "CoconutShiesModel", name := "force", desc := "(I)I" } : MethodName), _)) 23 (by first | rfl | decide +kernel)
theorem ks_24 : Cond.selects "CoconutShiesModel" ({ cls := "CoconutShiesModel", name := "noThrow", desc := "(III)I" } : MethodName) ({ cls := "CoconutShiesModel", name := "noThrow", desc := "(III)I" } : MethodName) ∈ mm_big := mm_ks (q := (({ cls := "CoconutShiesModel", name := "noThrow", desc := "(III)I" } : MethodName), _)) 24 (by first | rfl | decide +kernel)
theorem ks_25 : Cond.selects "CoconutShiesModel" ({ cls := "CoconutShiesModel", name := "landing", desc := "([IIII)I" } : MethodName) ({ cls := "CoconutShiesModel", name := "landing", desc := "([IIII)I" } : MethodName) ∈ mm_big := mm_ks (q := (({ cls := "CoconutShiesModel", name := "landing", desc := "([IIII)I" } : MethodName), _)) 25 (by first | rfl | decide +kernel)
theorem ks_26 : Cond.selects "CoconutShiesModel" ({ cls := "CoconutShiesModel", name := "blows", desc := "([II)I" } : MethodName) ({ cls := "CoconutShiesModel", name := "blows", desc := "([II)I" } : MethodName) ∈ mm_big := mm_ks (q := (({ cls := "CoconutShiesModel", name := "blows", desc := "([II)I" } : MethodName), _)) 26 (by first | rfl | decide +kernel)
theorem ks_27 : Cond.selects "CoconutShiesModel" ({ cls := "CoconutShiesModel", name := "note", desc := "()V" } : MethodName) ({ cls := "CoconutShiesModel", name := "note", desc := "()V" } : MethodName) ∈ mm_big := mm_ks (q := (({ cls := "CoconutShiesModel", name := "note", desc := "()V" } : MethodName), _)) 27 (by first | rfl | decide +kernel)
theorem ks_28 : Cond.selects "CoconutShiesModel" ({ cls := "CoconutShiesModel", name := "goThrow", desc := "([IIII)V" } : MethodName) ({ cls := "CoconutShiesModel", name := "goThrow", desc := "([IIII)V" } : MethodName) ∈ mm_big := mm_ks (q := (({ cls := "CoconutShiesModel", name := "goThrow", desc := "([IIII)V" } : MethodName), _)) 28 (by first | rfl | decide +kernel)
theorem ks_29 : Cond.selects "CoconutShiesModel" ({ cls := "CoconutShiesModel", name := "huskAt", desc := "(I)I" } : MethodName) ({ cls := "CoconutShiesModel", name := "huskAt", desc := "(I)I" } : MethodName) ∈ mm_big := mm_ks (q := (({ cls := "CoconutShiesModel", name := "huskAt", desc := "(I)I" } : MethodName), _)) 29 (by first | rfl | decide +kernel)
theorem ks_30 : Cond.selects "CoconutShiesModel" ({ cls := "CoconutShiesModel", name := "fall", desc := "([II)V" } : MethodName) ({ cls := "CoconutShiesModel", name := "fall", desc := "([II)V" } : MethodName) ∈ mm_big := mm_ks (q := (({ cls := "CoconutShiesModel", name := "fall", desc := "([II)V" } : MethodName), _)) 30 (by first | rfl | decide +kernel)
theorem ks_31 : Cond.selects "CoconutShiesModel" ({ cls := "CoconutShiesModel", name := "findFewest", desc := "(I)V" } : MethodName) ({ cls := "CoconutShiesModel", name := "findFewest", desc := "(I)V" } : MethodName) ∈ mm_big := mm_ks (q := (({ cls := "CoconutShiesModel", name := "findFewest", desc := "(I)V" } : MethodName), _)) 31 (by first | rfl | decide +kernel)
theorem ks_32 : Cond.selects "CoconutShiesModel" ({ cls := "CoconutShiesModel", name := "throwsAt", desc := "(II)Z" } : MethodName) ({ cls := "CoconutShiesModel", name := "throwsAt", desc := "(II)Z" } : MethodName) ∈ mm_big := mm_ks (q := (({ cls := "CoconutShiesModel", name := "throwsAt", desc := "(II)Z" } : MethodName), _)) 32 (by first | rfl | decide +kernel)
theorem ks_33 : Cond.selects "CoconutShiesModel" ({ cls := "CoconutShiesModel", name := "placeAt", desc := "([III)I" } : MethodName) ({ cls := "CoconutShiesModel", name := "placeAt", desc := "([III)I" } : MethodName) ∈ mm_big := mm_ks (q := (({ cls := "CoconutShiesModel", name := "placeAt", desc := "([III)I" } : MethodName), _)) 33 (by first | rfl | decide +kernel)
theorem ks_34 : Cond.selects "CoconutShiesModel" ({ cls := "CoconutShiesModel", name := "findMatch", desc := "(I)V" } : MethodName) ({ cls := "CoconutShiesModel", name := "findMatch", desc := "(I)V" } : MethodName) ∈ mm_big := mm_ks (q := (({ cls := "CoconutShiesModel", name := "findMatch", desc := "(I)V" } : MethodName), _)) 34 (by first | rfl | decide +kernel)
theorem ks_35 : Cond.selects "CoconutShiesModel" ({ cls := "CoconutShiesModel", name := "holdsUp", desc := "(I)Z" } : MethodName) ({ cls := "CoconutShiesModel", name := "holdsUp", desc := "(I)Z" } : MethodName) ∈ mm_big := mm_ks (q := (({ cls := "CoconutShiesModel", name := "holdsUp", desc := "(I)Z" } : MethodName), _)) 35 (by first | rfl | decide +kernel)
theorem ks_36 : Cond.selects "CoconutShiesModel" ({ cls := "CoconutShiesModel", name := "does", desc := "(I)Z" } : MethodName) ({ cls := "CoconutShiesModel", name := "does", desc := "(I)Z" } : MethodName) ∈ mm_big := mm_ks (q := (({ cls := "CoconutShiesModel", name := "does", desc := "(I)Z" } : MethodName), _)) 36 (by first | rfl | decide +kernel)
theorem ks_37 : Cond.selects "CoconutShiesModel" ({ cls := "CoconutShiesModel", name := "findRests", desc := "()V" } : MethodName) ({ cls := "CoconutShiesModel", name := "findRests", desc := "()V" } : MethodName) ∈ mm_big := mm_ks (q := (({ cls := "CoconutShiesModel", name := "findRests", desc := "()V" } : MethodName), _)) 37 (by first | rfl | decide +kernel)
theorem ks_38 : Cond.selects "CoconutShiesModel" ({ cls := "CoconutShiesModel", name := "layWorth", desc := "(II)V" } : MethodName) ({ cls := "CoconutShiesModel", name := "layWorth", desc := "(II)V" } : MethodName) ∈ mm_big := mm_ks (q := (({ cls := "CoconutShiesModel", name := "layWorth", desc := "(II)V" } : MethodName), _)) 38 (by first | rfl | decide +kernel)
theorem inX0 : ∀ w ∈ u_ws RX0 TX0 3, w ∈ mm_big := mm_in _ [94, 96, 98] (by decide +kernel) (by decide +kernel)
theorem inX1 : ∀ w ∈ u_ws RX1 TX1 14, w ∈ mm_big := mm_in _ [245, 247, 249, 251, 253, 255, 257, 259, 261, 263, 265, 267, 269, 271] (by decide +kernel) (by decide +kernel)
theorem inX2 : ∀ w ∈ u_ws RX2 TX2 4, w ∈ mm_big := mm_in _ [195, 197, 199, 201] (by decide +kernel) (by decide +kernel)
theorem inX3 : ∀ w ∈ u_ws RX3 TX3 5, w ∈ mm_big := mm_in _ [170, 172, 174, 176, 178] (by decide +kernel) (by decide +kernel)
theorem inX4 : ∀ w ∈ u_ws RX4 TX4 3, w ∈ mm_big := mm_in _ [148, 150, 152] (by decide +kernel) (by decide +kernel)
theorem inX5 : ∀ w ∈ u_ws RX5 TX5 4, w ∈ mm_big := mm_in _ [112, 114, 116, 118] (by decide +kernel) (by decide +kernel)
theorem inX6 : ∀ w ∈ u_ws RX6 TX6 2, w ∈ mm_big := mm_in _ [130, 132] (by decide +kernel) (by decide +kernel)
theorem inX7 : ∀ w ∈ u_ws RX7 TX7 7, w ∈ mm_big := mm_in _ [62, 64, 66, 68, 70, 72, 74] (by decide +kernel) (by decide +kernel)
theorem inX8 : ∀ w ∈ u_ws RX8 TX8 2, w ∈ mm_big := mm_in _ [33, 35] (by decide +kernel) (by decide +kernel)
theorem inX9 : ∀ w ∈ u_ws RX9 TX9 11, w ∈ mm_big := mm_in _ [285, 287, 289, 291, 293, 295, 297, 299, 301, 303, 305] (by decide +kernel) (by decide +kernel)
theorem inX10 : ∀ w ∈ u_ws RX10 TX10 41, w ∈ mm_big := mm_in _ [770, 772, 774, 776, 778, 780, 782, 784, 786, 788, 790, 792, 794, 796, 798, 800, 802, 804, 806, 808, 810, 812, 814, 816, 818, 820, 822, 824, 826, 828, 830, 832, 834, 836, 838, 840, 842, 844, 846, 848, 850] (by decide +kernel) (by decide +kernel)
end
section
/-! THE MEMORY OF THE SYSTEM: every object and array has a ROLE, its number in the order of making; role r lies at b + r. -/
abbrev mmF : Type := Nat → Nat → Int32
abbrev mmR : Type := Nat → Nat → Option Nat
abbrev mmG : Type := Nat → Int64
abbrev mmP : Type := Option Value → mmF → mmF → mmR → mmG → Prop
abbrev mmY : Type := MethodName × ByteArray × Nat × Option FieldType
/-- kinds: 0 .. 10 the classes of vwCl, 11 int rows, 12 boolean rows, 13 rows of Stand -/
def mm_Kl : List Nat := [9, 8, 11, 7, 11, 11, 0, 13, 7, 11, 11, 7, 11, 11, 7, 11, 11, 7, 11, 11, 7, 11, 11, 7, 11, 11, 7, 11, 11, 7, 11, 11, 7, 11, 11, 7, 11, 11, 7, 11, 11, 7, 11, 11, 7, 11, 11, 7, 11, 11, 5, 11, 11, 11, 6, 13, 7, 11, 11, 7, 11, 11, 12, 4, 13, 7, 11, 11, 7, 11, 11, 7, 11, 11, 7, 11, 11, 7, 11, 11, 3, 11, 11, 7, 11, 11, 2, 13, 7, 11, 11, 7, 11, 11, 7, 11, 11, 7, 11, 11, 7, 11, 11, 1, 11, 11, 11, 11, 11, 11, 11, 11, 11, 1, 11, 11, 11, 11, 11, 11, 11, 11, 11, 10, 11, 11, 11, 11, 11, 11, 11, 11, 11, 11, 11, 11, 12, 11, 11, 11, 11, 11, 11, 11]
def mm_Ll : List Nat := [0, 0, 60, 0, 5, 5, 0, 14, 0, 5, 5, 0, 5, 5, 0, 5, 5, 0, 5, 5, 0, 5, 5, 0, 5, 5, 0, 5, 5, 0, 5, 5, 0, 5, 5, 0, 5, 5, 0, 5, 5, 0, 5, 5, 0, 5, 5, 0, 5, 5, 0, 6, 6, 6, 0, 2, 0, 5, 5, 0, 5, 5, 2, 0, 5, 0, 5, 5, 0, 5, 5, 0, 5, 5, 0, 5, 5, 0, 5, 5, 0, 36, 36, 0, 5, 5, 0, 5, 0, 5, 5, 0, 5, 5, 0, 5, 5, 0, 5, 5, 0, 5, 5, 0, 5, 5, 5, 4, 4, 4, 4, 4, 4, 0, 5, 5, 5, 4, 4, 4, 4, 4, 4, 0, 60, 15, 12, 12, 15, 12, 12, 15, 15, 15, 210, 30, 2, 6, 6, 6, 6, 6, 72, 16]
def mm_K (r : Nat) : Nat := mm_Kl.getD r 99
def mm_len (r : Nat) : Nat := mm_Ll.getD r 0
def mm_nfl : List Nat := [3, 14, 4, 5, 3, 4, 2, 7, 2, 11, 41]
def mm_nf (ci : Nat) : Nat := mm_nfl.getD ci 0
def mm_ftl : List (List Nat) := [[1, 0, 0], [1, 1, 1, 1, 1, 1, 1, 1, 1, 0, 0, 0, 0, 0], [1, 0, 0, 0], [1, 1, 1, 0, 0], [1, 0, 0], [1, 1, 1, 0], [1, 1], [1, 1, 0, 0, 0, 0, 0], [1, 0], [1, 1, 1, 1, 1, 1, 1, 1, 1, 1, 2], [0, 1, 0, 0, 0, 1, 0, 1, 0, 1, 0, 0, 0, 1, 0, 1, 0, 1, 1, 1, 1, 1, 0, 1, 1, 0, 1, 1, 1, 2, 0, 1, 1, 0, 0, 0, 0, 0, 0, 1, 1]]
/-- a field's type: 0 int, 1 reference, 2 long -/
def mm_ft (ci k : Nat) : Nat := (mm_ftl.getD ci []).getD k 0
def mm_sl : Nat → Nat
  | 0 => 0
  | n + 1 => mm_sl n + (if mm_K n < 11 then mm_nf (mm_K n) else mm_len n)
def mm_fv (b : Nat) (F : mmF) (R : mmR) (G : mmG) (r ci k : Nat) : Value := if mm_ft ci k = 0 then .int (F r k) else if mm_ft ci k = 1 then va_rf ((R r k).map (b + ·)) else .long (G r)
def mm_fs (b : Nat) (F : mmF) (R : mmR) (G : mmG) (r ci : Nat) : List Value := (List.range (mm_nf ci)).map (mm_fv b F R G r ci)
def mm_cell (cy : Nat → ClassId) (b : Nat) (F A : mmF) (R : mmR) (G : mmG) (r : Nat) : va_E :=
  if mm_K r < 11 then .inr (mm_K r, mm_fs b F R G r (mm_K r)) else if mm_K r = 11 then .inl (cy 0, mm_len r, .inl (A r)) else if mm_K r = 12 then .inl (cy 1, mm_len r, .inl (A r)) else .inl (cy 2, mm_len r, .inr (.inr (.inr (.inr (fun i => (R r i).map (b + ·))))))
def mm_wl (cy : Nat → ClassId) (b N : Nat) (F A : mmF) (R : mmR) (G : mmG) : va_W := (List.range N).map (fun r => (b + r, mm_cell cy b F A R G r))
def mm_tys (cy : Nat → ClassId) : List (ClassId × FieldType) := [(cy 0, .int), (cy 1, .boolean), (cy 2, .object "CoconutShies$Stand")]
def mm_v (b : Nat) (x : Nat → Nat) : Value → Value
  | .ref r => .ref (b + r)
  | .float u => .ref (x u.toNat)
  | v => v
def mm_lv (b : Nat) (x : Nat → Nat) (lv : List (Nat × Value)) : List (Nat × Value) := lv.map (fun q => (q.1, mm_v b x q.2))
theorem mm_wl_get {cy : Nat → ClassId} {b N : Nat} {F A : mmF} {R : mmR} {G : mmG} {r : Nat} (h : r < N) : (mm_wl cy b N F A R G)[r]? = some (b + r, mm_cell cy b F A R G r) := by
  simp [mm_wl, List.getElem?_map, List.getElem?_range h]
theorem mm_wl_lt {cy : Nat → ClassId} {b N : Nat} {F A : mmF} {R : mmR} {G : mmG} {r : Nat} {q : Nat × va_E} (h : (mm_wl cy b N F A R G)[r]? = some q) : r < N ∧ q = (b + r, mm_cell cy b F A R G r) := by
  have h1 := (List.getElem?_eq_some_iff.mp h).1
  simp [mm_wl] at h1
  refine ⟨h1, ?_⟩
  rw [mm_wl_get h1] at h
  exact (Option.some.inj h).symm
theorem mm_D {cy : Nat → ClassId} {b N : Nat} {F A : mmF} {R : mmR} {G : mmG} : va_D (fun q => b ≤ q) (mm_wl cy b N F A R G) := by
  refine ⟨fun i j p q hi hj hpq => ?_, fun k q hk => ?_⟩
  · obtain ⟨h1, rfl⟩ := mm_wl_lt hi
    obtain ⟨h2, rfl⟩ := mm_wl_lt hj
    have h3 : b + i = b + j := hpq
    omega
  · obtain ⟨h1, rfl⟩ := mm_wl_lt hk
    exact Nat.le_add_right _ _
theorem mm_set {cy : Nat → ClassId} {b N : Nat} {F A F' A' : mmF} {R R' : mmR} {G G' : mmG} {r : Nat} {e : va_E} (h : r < N) (he : e = mm_cell cy b F' A' R' G' r) (ho : ∀ i, i ≠ r → mm_cell cy b F' A' R' G' i = mm_cell cy b F A R G i) : (mm_wl cy b N F A R G).set r (b + r, e) = mm_wl cy b N F' A' R' G' := by
  subst he
  apply List.ext_getElem?
  intro i
  by_cases hi : i = r
  · subst hi
    rw [List.getElem?_set_self (by simp [mm_wl]; exact h), mm_wl_get h]
  · rw [List.getElem?_set_ne (Ne.symm hi)]
    by_cases hN : i < N
    · rw [mm_wl_get hN, mm_wl_get hN, ho i hi]
    · rw [List.getElem?_eq_none (by simp [mm_wl]; omega), List.getElem?_eq_none (by simp [mm_wl]; omega)]
theorem mm_fs_get {b : Nat} {F : mmF} {R : mmR} {G : mmG} {r ci k : Nat} (h : k < mm_nf ci) : (mm_fs b F R G r ci)[k]? = some (mm_fv b F R G r ci k) := by
  simp [mm_fs, List.getElem?_map, List.getElem?_range h]
theorem mm_fs_len {b : Nat} {F : mmF} {R : mmR} {G : mmG} {r ci : Nat} : (mm_fs b F R G r ci).length = mm_nf ci := by simp [mm_fs]
theorem mm_fs_set {b : Nat} {F F' : mmF} {R R' : mmR} {G G' : mmG} {r ci k : Nat} {v : Value} (h : k < mm_nf ci) (hv : mm_fv b F' R' G' r ci k = v) (ho : ∀ j, j ≠ k → mm_fv b F' R' G' r ci j = mm_fv b F R G r ci j) : (mm_fs b F R G r ci).set k v = mm_fs b F' R' G' r ci := by
  apply List.ext_getElem?
  intro i
  by_cases hi : i = k
  · subst hi
    rw [List.getElem?_set_self (by rw [mm_fs_len]; exact h), mm_fs_get h, hv]
  · rw [List.getElem?_set_ne (Ne.symm hi)]
    by_cases hN : i < mm_nf ci
    · rw [mm_fs_get hN, mm_fs_get hN, ho i hi]
    · rw [List.getElem?_eq_none (by rw [mm_fs_len]; omega), List.getElem?_eq_none (by rw [mm_fs_len]; omega)]
theorem mm_cell_o {cy : Nat → ClassId} {b : Nat} {F A : mmF} {R : mmR} {G : mmG} {r ci : Nat} (h : mm_K r = ci) (hc : ci < 11) : mm_cell cy b F A R G r = .inr (ci, mm_fs b F R G r ci) := by
  subst h; simp [mm_cell, hc]
theorem mm_cell_i {cy : Nat → ClassId} {b : Nat} {F A : mmF} {R : mmR} {G : mmG} {r : Nat} (h : mm_K r = 11) : mm_cell cy b F A R G r = .inl (cy 0, mm_len r, .inl (A r)) := by
  simp [mm_cell, h]
theorem mm_cell_z {cy : Nat → ClassId} {b : Nat} {F A : mmF} {R : mmR} {G : mmG} {r : Nat} (h : mm_K r = 12) : mm_cell cy b F A R G r = .inl (cy 1, mm_len r, .inl (A r)) := by
  simp [mm_cell, h]
theorem mm_cell_r {cy : Nat → ClassId} {b : Nat} {F A : mmF} {R : mmR} {G : mmG} {r : Nat} (h : mm_K r = 13) : mm_cell cy b F A R G r = .inl (cy 2, mm_len r, .inr (.inr (.inr (.inr (fun i => (R r i).map (b + ·)))))) := by
  simp [mm_cell, h]
/-- a cell is seen through its own role alone -/
theorem mm_cell_congr {cy : Nat → ClassId} {b : Nat} {F A F' A' : mmF} {R R' : mmR} {G G' : mmG} {r : Nat} (hF : F' r = F r) (hA : A' r = A r) (hR : R' r = R r) (hG : G' r = G r) : mm_cell cy b F' A' R' G' r = mm_cell cy b F A R G r := by
  have h1 : ∀ k, mm_fv b F' R' G' r (mm_K r) k = mm_fv b F R G r (mm_K r) k := fun k => by simp [mm_fv, hF, hR, hG]
  have h2 : mm_fs b F' R' G' r (mm_K r) = mm_fs b F R G r (mm_K r) := List.map_congr_left (fun k _ => h1 k)
  simp [mm_cell, h2, hA, hR]
theorem mm_v_cat {b : Nat} {x : Nat → Nat} : ∀ v : Value, (mm_v b x v).category = v.category := fun v => by cases v <;> rfl
def mm_hu (j : Nat) : Int32 := if j = 0 then 1 else if j = 1 then 100 else if j = 2 then 10000 else if j = 3 then 1000000 else 100000000
def mm_or (j : Nat) : Int32 := if j = 0 then 1 else if j = 1 then 1 else if j = 2 then 2 else if j = 3 then 6 else 24
/-- the two static tables, which nobody writes: x 1 is HUNDREDS, x 2 is ORDERS (x 0: the script) -/
def mm_SF (b : Nat) (x : Nat → Nat) (U : State) (H : Heap) : Prop :=
  (va_Z "CoconutShies" "HUNDREDS" "[I" (.ref (x 1)) (fun q => b ≤ q) U H ∧ va_T .int (x 1) 5 (fun j => .int (mm_hu j)) (fun q => b ≤ q) U H) ∧ va_Z "CoconutShies" "ORDERS" "[I" (.ref (x 2)) (fun q => b ≤ q) U H ∧ va_T .int (x 2) 5 (fun j => .int (mm_or j)) (fun q => b ≤ q) U H
theorem mm_SF.moved {b : Nat} {x : Nat → Nat} {u U : State} {H : Heap} (hvm : u.vm.Alike U.vm) (h : mm_SF b x u H) : mm_SF b x U H := ⟨⟨h.1.1.moved hvm, h.1.2.moved hvm⟩, h.2.1.moved hvm, h.2.2.moved hvm⟩
theorem mm_SF.kept {b : Nat} {x : Nat → Nat} {U : State} {H H1 : Heap} (h : mm_SF b x U H) (hq : ∀ a : Nat, a < H.size → ¬ b ≤ a → H1[a]? = H[a]?) : mm_SF b x U H1 := ⟨⟨h.1.1.kept hq, h.1.2.kept hq⟩, h.2.1.kept hq, h.2.2.kept hq⟩
def mm_nest : List (String × Nat × MethodName) := [("CoconutShies", 9, ⟨"CoconutShies$Text", "<init>", "()V"⟩), ("CoconutShies", 18, ⟨"CoconutShies$Stand", "<init>", "()V"⟩), ("CoconutShies", 25, ⟨"CoconutShies$Acts", "<init>", "()V"⟩), ("CoconutShies$Acts", 9, ⟨"CoconutShies", "newStands", "(I)[LCoconutShies$Stand;"⟩), ("CoconutShies", 32, ⟨"CoconutShies$Sightings", "<init>", "()V"⟩), ("CoconutShies", 39, ⟨"CoconutShies$Slots", "<init>", "()V"⟩), ("CoconutShies$Slots", 9, ⟨"CoconutShies", "newStands", "(I)[LCoconutShies$Stand;"⟩), ("CoconutShies", 46, ⟨"CoconutShies$Seeker", "<init>", "()V"⟩), ("CoconutShies$Seeker", 9, ⟨"CoconutShies", "newStands", "(I)[LCoconutShies$Stand;"⟩), ("CoconutShies", 53, ⟨"CoconutShies$Parties", "<init>", "()V"⟩), ("CoconutShies$Parties", 20, ⟨"CoconutShies$Stand", "<init>", "()V"⟩), ("CoconutShies", 60, ⟨"CoconutShies$Chances", "<init>", "()V"⟩), ("CoconutShies$Chances", 9, ⟨"CoconutShies", "newStands", "(I)[LCoconutShies$Stand;"⟩), ("CoconutShies", 67, ⟨"CoconutShies$Booth", "<init>", "()V"⟩), ("CoconutShies$Stand", 54, ⟨"CoconutShies", "bit", "(II)I"⟩), ("CoconutShies$Booth", 91, ⟨"CoconutShies", "isPlace", "(I)Z"⟩), ("CoconutShies$Seeker", 63, ⟨"CoconutShies", "hundreds", "(I)I"⟩), ("CoconutShies$Seeker", 79, ⟨"CoconutShies", "bit", "(II)I"⟩)]
def mm_NW (U : State) : Prop := (∀ q ∈ mm_nest, va_Nw (.methodLinkNest q.1 q.2.1 q.2.2 "CoconutShies") U) ∧ va_AO "CoconutShies$Stand" U
theorem mm_NW.warm {s U : State} (hW : s.WarmedH U.vm) (h : mm_NW s) : mm_NW U := ⟨fun q hq => (h.1 q hq).warmM hW, h.2.moved hW.alike⟩
theorem mm_NW.same {u U : State} (hv : u.vm = U.vm) (h : mm_NW u) : mm_NW U := ⟨fun q hq => (h.1 q hq).same rfl hv, h.2.moved (by rw [hv]; exact Vm.Alike.refl _)⟩
def mm_B (D : va_G) (cy : Nat → ClassId) (b : Nat) (x : Nat → Nat) (N : Nat) (F A : mmF) (R : mmR) (G : mmG) (U : State) : Prop := U.heap.size = b + N ∧ va_P D vwCl (mm_wl cy b N F A R G) U.heap ∧ va_K D vwCl (mm_tys cy) U ∧ mm_NW U ∧ mm_SF b x U U.heap
def mm_Q (D : va_G) (cy : Nat → ClassId) (b : Nat) (x : Nat → Nat) (N : Nat) (post : mmP) : Array Value → State → Outcome → State → Prop := fun _ st oc t => (∃ (v : Option Value) (F A : mmF) (R : mmR) (G : mmG), oc = .returned (v.map (mm_v b x)) ∧ post v F A R G ∧ va_P D vwCl (mm_wl cy b N F A R G) t.heap) ∧ va_F (fun q => b ≤ q) st t
abbrev mm_rm (k N N' : Nat) : Room := { frames := k, cells := N' - N, slots := mm_sl N' - mm_sl N, locals := 64 * k }
/-- a method's CONTRACT: with the arguments av (references by their roles), the N roles holding F A R G: it returns, 'post' holds of the answer and of what the N' roles hold then; k levels of calls are left -/
def Meets (l : Launch) (Y : mmY) (k N N' : Nat) (av : List Value) (F A : mmF) (R : mmR) (G : mmG) (post : mmP) : Prop :=
  ∀ (D : va_G) (cy : Nat → ClassId) (b : Nat) (x : Nat → Nat), Met l Y.1 (.code Y.1 Y.2.1 Y.2.2.1 Y.2.2.2 :: mm_big) (mm_rm k N N') (va_Pc (av.map (mm_v b x)) (mm_B D cy b x N F A R G)) (mm_Q D cy b x N' post) (N' - N) (mm_sl N' - mm_sl N) (fun q => b ≤ q)
abbrev mmX : Type := (Program × Launch × Env × Room × State) × (MethodId × Array Value × List Frame × Method × Code) × (va_G × (Nat → ClassId) × Nat × (Nat → Nat)) × Nat × Nat × Nat × (State → Prop)
/-- what stands while a method runs -/
def mm_ok (Y : mmY) : mmX → Prop := fun ⟨⟨p, _, _, Rm, s⟩, ⟨m, args, _, meth, c⟩, ⟨D, cy, b, x⟩, k, N0, N1, _⟩ =>
  p.tables.exec = Jvm.exec ∧ c.code = Y.2.1 ∧ c.maxLocals = Y.2.2.1 ∧ meth.sig.returnType = Y.2.2.2 ∧ meth.locks = false ∧ s.vm.findClass Y.1.cls = some m.cls ∧ (∀ w ∈ mm_big, w.before args s = true) ∧ va_K D vwCl (mm_tys cy) s ∧ mm_NW s ∧ mm_SF b x s s.heap ∧ meth.name = Y.1.name ∧ s.heap.size = b + N0 ∧ (k ≤ Rm.frames ∧ 64 * k ≤ Rm.locals ∧ N1 - N0 ≤ Rm.cells ∧ mm_sl N1 - mm_sl N0 ≤ Rm.slots)
/-- the machine, at pc, comes to what is wanted -/
def WP (Y : mmY) (X : mmX) (N pc : Nat) (lv : List (Nat × Value)) (st : List Value) (F A : mmF) (R : mmR) (G : mmG) : Prop := match X with
  | ⟨⟨p, l, e, Rm, s⟩, ⟨m, args, below, meth, c⟩, ⟨D, cy, b, x⟩, k, N0, N1, Q⟩ => mm_ok Y ⟨⟨p, l, e, Rm, s⟩, ⟨m, args, below, meth, c⟩, ⟨D, cy, b, x⟩, k, N0, N1, Q⟩ → N0 ≤ N → ∀ (H : Heap) (locs : List Loc) (ls : Array Slot), lv_has ls Y.2.2.1 (mm_lv b x lv) → va_P D vwCl (mm_wl cy b N F A R G) H → va_S (fun q => b ≤ q) s.heap H locs →
    W p l e Rm s m args below meth c H locs (N - N0) (mm_sl N - mm_sl N0) Q (F0 m pc ls (st.map (mm_v b x)))
/-- a contract's own run: its launch, levels, roles at start and end, and its post -/
def mm_C (l : Launch) (k N0 N1 : Nat) (post : mmP) : mmX → Prop := fun ⟨⟨_, l', _, _, s⟩, ⟨_, args, below, _, _⟩, ⟨D, cy, b, x⟩, k', N0', N1', Q⟩ => l' = l ∧ k' = k ∧ N0' = N0 ∧ N1' = N1 ∧ Q = MQ below (mm_Q D cy b x N1 post) args s (N1 - N0) (mm_sl N1 - mm_sl N0) (fun q => b ≤ q)
theorem mm_start {l : Launch} {Y : mmY} {k N N' : Nat} {av : List Value} {F A : mmF} {R : mmR} {G : mmG} {post : mmP} (hy : plainName Y.1.cls = true) (hn : (lg_sl (av.map (mm_v 0 id))).length ≤ Y.2.2.1)
    (h : ∀ X : mmX, mm_C l k N N' post X → WP Y X N 0 (lv_args 0 av) [] F A R G) : Meets l Y k N N' av F A R G post := by
  intro D cy b x
  refine Met.ofW (cc := Y.2.1) (maxL := Y.2.2.1) (ret := Y.2.2.2) hy rfl ?_
  intro p e s m args below meth c s₁ B hml hv
  obtain ⟨rfl, hsz, hP, hK, hNW, hSF⟩ := hv
  have hts := atoms_spec (ws := .code Y.1 Y.2.1 Y.2.2.1 Y.2.2.2 :: mm_big) B.pre
  have hargs : ∀ (vs : List Value) (i : Nat), lv_args i (vs.map (mm_v b x)) = mm_lv b x (lv_args i vs) := by
    intro vs
    induction vs with
    | nil => intro i; rfl
    | cons v vs ih => intro i; simp only [List.map_cons, lv_args, mm_lv, mm_v_cat]; rw [ih]; rfl
  have hsl : ∀ (b' : Nat) (x' : Nat → Nat) (vs : List Value), (lg_sl (vs.map (mm_v b' x'))).length = (lg_sl (vs.map (mm_v 0 id))).length := by
    intro b' x' vs
    simp only [lg_sl, List.length_flatMap, List.map_map]
    congr 1
    apply List.map_congr_left
    intro v _
    simp only [Function.comp, mm_v_cat]
    split <;> rfl
  have hl := lv_entry (av.map (mm_v b x)) (n := Y.2.2.1) (by rw [hsl]; exact hn)
  rw [lg_entry_eq]
  rw [hargs] at hl
  have K := h ⟨⟨p, l, e, mm_rm k N N', s⟩, ⟨m, (av.map (mm_v b x)).toArray, below, meth, c⟩, ⟨D, cy, b, x⟩, k, N, N', _⟩ ⟨rfl, rfl, rfl, rfl, rfl⟩
  have K2 := K ⟨B.exec, B.bytes, hml, B.returns, B.notSynchronized, findClass_of_methodNamed B.named, fun w hw => hts w (List.mem_cons_of_mem _ hw), hK, hNW, hSF, (name_of_methodNamed B.named B.method).1, hsz, Nat.le_refl _, Nat.le_refl _, Nat.le_refl _, Nat.le_refl _⟩ (Nat.le_refl _) s.heap [] _ hl hP va_S.rf
  rw [Nat.sub_self, Nat.sub_self] at K2
  exact K2
section MMR
variable {Y : mmY} {X : mmX} {N pc : Nat} {lv : List (Nat × Value)} {st : List Value} {F A : mmF} {R : mmR} {G : mmG}
theorem wp_iconst {n : Int} {v : Int32} (hd : decode Y.2.1 pc = .ok (.iconst n, 1)) (hv : Int32.ofInt n = v) (kk : WP Y X N (pc + 1) lv (.int v :: st) F A R G) : WP Y X N pc lv (st) F A R G := by
  obtain ⟨⟨p, l, e, Rm, s⟩, ⟨m, args, below, meth, c⟩, ⟨D, cy, b, xx⟩, k, N0, N1, Q⟩ := X
  intro ok hN0 H locs ls hl hP hS
  exact lv_iconst ok.1 ok.2.1 hd hv (kk ok hN0 H locs ls hl hP hS)
theorem wp_bipush {n : Int} {v : Int32} (hd : decode Y.2.1 pc = .ok (.bipush n, 2)) (hv : (Int8.ofInt n).toInt32 = v) (kk : WP Y X N (pc + 2) lv (.int v :: st) F A R G) : WP Y X N pc lv (st) F A R G := by
  obtain ⟨⟨p, l, e, Rm, s⟩, ⟨m, args, below, meth, c⟩, ⟨D, cy, b, xx⟩, k, N0, N1, Q⟩ := X
  intro ok hN0 H locs ls hl hP hS
  exact lv_bipush ok.1 ok.2.1 hd hv (kk ok hN0 H locs ls hl hP hS)
theorem wp_sipush {n : Int} {v : Int32} (hd : decode Y.2.1 pc = .ok (.sipush n, 3)) (hv : (Int16.ofInt n).toInt32 = v) (kk : WP Y X N (pc + 3) lv (.int v :: st) F A R G) : WP Y X N pc lv (st) F A R G := by
  obtain ⟨⟨p, l, e, Rm, s⟩, ⟨m, args, below, meth, c⟩, ⟨D, cy, b, xx⟩, k, N0, N1, Q⟩ := X
  intro ok hN0 H locs ls hl hP hS
  exact lv_sipush ok.1 ok.2.1 hd hv (kk ok hN0 H locs ls hl hP hS)
theorem wp_lconst {n : Fin 2} {v : Int64} (hd : decode Y.2.1 pc = .ok (.lconst n, 1)) (hv : Int64.ofNat (n : Nat) = v) (kk : WP Y X N (pc + 1) lv (.long v :: st) F A R G) : WP Y X N pc lv (st) F A R G := by
  obtain ⟨⟨p, l, e, Rm, s⟩, ⟨m, args, below, meth, c⟩, ⟨D, cy, b, xx⟩, k, N0, N1, Q⟩ := X
  intro ok hN0 H locs ls hl hP hS
  exact lv_lconst ok.1 ok.2.1 hd hv (kk ok hN0 H locs ls hl hP hS)
theorem mm_at {b : Nat} {x : Nat → Nat} {ls : Array Slot} {nL : Nat} {lv : List (Nat × Value)} (h : lv_has ls nL (mm_lv b x lv)) (j : Nat) {i : Nat} {v : Value} (hk : lv[j]? = some (i, v)) : ls[i]? = some (.val (mm_v b x v)) := lv_at h j (by simp [mm_lv, hk])
theorem wp_iload_n {q : Fin 4} {i : Nat} {v : Int32} (hd : decode Y.2.1 pc = .ok (.iload_n q, 1)) (hi : (q : Nat) = i) (j : Nat) (hj : lv[j]? = some (i, .int v)) (kk : WP Y X N (pc + 1) lv (.int v :: st) F A R G) : WP Y X N pc lv st F A R G := by
  obtain ⟨⟨p, l, e, Rm, s⟩, ⟨m, args, below, meth, c⟩, ⟨D, cy, b, xx⟩, k, N0, N1, Q⟩ := X
  intro ok hN0 H locs ls hl hP hS
  exact lv_iload_n ok.1 ok.2.1 hd hi (mm_at hl j hj) (kk ok hN0 H locs ls hl hP hS)
theorem wp_iload {i : Nat} {v : Int32} (hd : decode Y.2.1 pc = .ok (.iload i, 2)) (j : Nat) (hj : lv[j]? = some (i, .int v)) (kk : WP Y X N (pc + 2) lv (.int v :: st) F A R G) : WP Y X N pc lv st F A R G := by
  obtain ⟨⟨p, l, e, Rm, s⟩, ⟨m, args, below, meth, c⟩, ⟨D, cy, b, xx⟩, k, N0, N1, Q⟩ := X
  intro ok hN0 H locs ls hl hP hS
  exact lv_iload ok.1 ok.2.1 hd (mm_at hl j hj) (kk ok hN0 H locs ls hl hP hS)
theorem wp_aload_n {q : Fin 4} {i : Nat} {v : Nat} (hd : decode Y.2.1 pc = .ok (.aload_n q, 1)) (hi : (q : Nat) = i) (j : Nat) (hj : lv[j]? = some (i, .ref v)) (kk : WP Y X N (pc + 1) lv (.ref v :: st) F A R G) : WP Y X N pc lv st F A R G := by
  obtain ⟨⟨p, l, e, Rm, s⟩, ⟨m, args, below, meth, c⟩, ⟨D, cy, b, xx⟩, k, N0, N1, Q⟩ := X
  intro ok hN0 H locs ls hl hP hS
  exact lv_aload_n ok.1 ok.2.1 hd hi (mm_at hl j hj) (kk ok hN0 H locs ls hl hP hS)
theorem wp_aload {i : Nat} {v : Nat} (hd : decode Y.2.1 pc = .ok (.aload i, 2)) (j : Nat) (hj : lv[j]? = some (i, .ref v)) (kk : WP Y X N (pc + 2) lv (.ref v :: st) F A R G) : WP Y X N pc lv st F A R G := by
  obtain ⟨⟨p, l, e, Rm, s⟩, ⟨m, args, below, meth, c⟩, ⟨D, cy, b, xx⟩, k, N0, N1, Q⟩ := X
  intro ok hN0 H locs ls hl hP hS
  exact lv_aload ok.1 ok.2.1 hd (mm_at hl j hj) (kk ok hN0 H locs ls hl hP hS)
theorem wp_lload_n {q : Fin 4} {i : Nat} {v : Int64} (hd : decode Y.2.1 pc = .ok (.lload_n q, 1)) (hi : (q : Nat) = i) (j : Nat) (hj : lv[j]? = some (i, .long v)) (kk : WP Y X N (pc + 1) lv (.long v :: st) F A R G) : WP Y X N pc lv st F A R G := by
  obtain ⟨⟨p, l, e, Rm, s⟩, ⟨m, args, below, meth, c⟩, ⟨D, cy, b, xx⟩, k, N0, N1, Q⟩ := X
  intro ok hN0 H locs ls hl hP hS
  exact lv_lload_n ok.1 ok.2.1 hd hi (mm_at hl j hj) (kk ok hN0 H locs ls hl hP hS)
theorem wp_lload {i : Nat} {v : Int64} (hd : decode Y.2.1 pc = .ok (.lload i, 2)) (j : Nat) (hj : lv[j]? = some (i, .long v)) (kk : WP Y X N (pc + 2) lv (.long v :: st) F A R G) : WP Y X N pc lv st F A R G := by
  obtain ⟨⟨p, l, e, Rm, s⟩, ⟨m, args, below, meth, c⟩, ⟨D, cy, b, xx⟩, k, N0, N1, Q⟩ := X
  intro ok hN0 H locs ls hl hP hS
  exact lv_lload ok.1 ok.2.1 hd (mm_at hl j hj) (kk ok hN0 H locs ls hl hP hS)
theorem wp_xload_n {q : Fin 4} {i : Nat} {v : UInt32} (hd : decode Y.2.1 pc = .ok (.aload_n q, 1)) (hi : (q : Nat) = i) (j : Nat) (hj : lv[j]? = some (i, .float v)) (kk : WP Y X N (pc + 1) lv (.float v :: st) F A R G) : WP Y X N pc lv st F A R G := by
  obtain ⟨⟨p, l, e, Rm, s⟩, ⟨m, args, below, meth, c⟩, ⟨D, cy, b, xx⟩, k, N0, N1, Q⟩ := X
  intro ok hN0 H locs ls hl hP hS
  exact lv_aload_n ok.1 ok.2.1 hd hi (mm_at hl j hj) (kk ok hN0 H locs ls hl hP hS)
theorem mm_pick {b : Nat} {x : Nat → Nat} {ls : Array Slot} {nL i : Nat} {v : Value} {lv lv' : List (Nat × Value)} (h : lv_has ls nL ((i, mm_v b x v) :: (mm_lv b x lv).filter (fun q => !(q.1 == i) && !(q.1 + 1 == i && q.2.category == 2)))) (hp : ∀ q ∈ lv', q = (i, v) ∨ (q ∈ lv ∧ (!(q.1 == i) && !(q.1 + 1 == i && q.2.category == 2)) = true)) : lv_has ls nL (mm_lv b x lv') := by
  refine ⟨h.1, h.2.1, fun q hq => h.2.2 q ?_⟩
  obtain ⟨q0, h0, rfl⟩ := List.mem_map.mp hq
  rcases hp q0 h0 with rfl | ⟨h1, h2⟩
  · exact List.mem_cons_self
  · exact List.mem_cons_of_mem _ (List.mem_filter.mpr ⟨List.mem_map.mpr ⟨q0, h1, rfl⟩, by simpa [mm_v_cat] using h2⟩)
theorem mm_pick2 {b : Nat} {x : Nat → Nat} {ls : Array Slot} {nL i : Nat} {v : Value} {lv lv' : List (Nat × Value)} (h : lv_has ls nL ((i, mm_v b x v) :: (mm_lv b x lv).filter (fun q => !(q.1 == i) && (!(q.1 == i + 1) && !(q.1 + 1 == i && q.2.category == 2))))) (hp : ∀ q ∈ lv', q = (i, v) ∨ (q ∈ lv ∧ (!(q.1 == i) && (!(q.1 == i + 1) && !(q.1 + 1 == i && q.2.category == 2))) = true)) : lv_has ls nL (mm_lv b x lv') := by
  refine ⟨h.1, h.2.1, fun q hq => h.2.2 q ?_⟩
  obtain ⟨q0, h0, rfl⟩ := List.mem_map.mp hq
  rcases hp q0 h0 with rfl | ⟨h1, h2⟩
  · exact List.mem_cons_self
  · exact List.mem_cons_of_mem _ (List.mem_filter.mpr ⟨List.mem_map.mpr ⟨q0, h1, rfl⟩, by simpa [mm_v_cat] using h2⟩)
/-- the locals behind a store: place 0 is the new one, place j + 1 the old one's place j -/
def mm_st (lv : List (Nat × Value)) (i : Nat) (v : Value) (ks : List Nat) : List (Nat × Value) := ks.filterMap (fun k => ((i, v) :: lv)[k]?)
theorem mm_st_ok {lv lv' : List (Nat × Value)} {i : Nat} {v : Value} (ks : List Nat) (h : mm_st lv i v ks = lv') (hd : (lv'.all fun q => (q.1 == i) || (!(q.1 + 1 == i && q.2.category == 2))) = true) (hu : (ks.all fun k => k == 0 || (match lv[k - 1]? with | some q => !(q.1 == i) | none => true)) = true) : ∀ q ∈ lv', q = (i, v) ∨ (q ∈ lv ∧ (!(q.1 == i) && !(q.1 + 1 == i && q.2.category == 2)) = true) := by
  intro q hq
  have hq2 := hq
  rw [← h] at hq
  obtain ⟨k, hk, hkq⟩ := List.mem_filterMap.mp hq
  cases k with
  | zero => exact Or.inl (by simpa using hkq.symm)
  | succ k =>
    have h1 : lv[k]? = some q := by simpa using hkq
    have h2 := List.all_eq_true.mp hu _ hk
    have h3 := List.all_eq_true.mp hd _ hq2
    simp [h1] at h2
    right
    refine ⟨List.mem_of_getElem? h1, ?_⟩
    simp [h2] at h3 ⊢
    exact h3
theorem mm_st_ok2 {lv lv' : List (Nat × Value)} {i : Nat} {v : Value} (ks : List Nat) (h : mm_st lv i v ks = lv') (hd : (lv'.all fun q => (q.1 == i) || (!(q.1 + 1 == i && q.2.category == 2))) = true) (hu : (ks.all fun k => k == 0 || (match lv[k - 1]? with | some q => !(q.1 == i) && !(q.1 == i + 1) | none => true)) = true) : ∀ q ∈ lv', q = (i, v) ∨ (q ∈ lv ∧ (!(q.1 == i) && (!(q.1 == i + 1) && !(q.1 + 1 == i && q.2.category == 2))) = true) := by
  intro q hq
  have hq2 := hq
  rw [← h] at hq
  obtain ⟨k, hk, hkq⟩ := List.mem_filterMap.mp hq
  cases k with
  | zero => exact Or.inl (by simpa using hkq.symm)
  | succ k =>
    have h1 : lv[k]? = some q := by simpa using hkq
    have h2 := List.all_eq_true.mp hu _ hk
    have h3 := List.all_eq_true.mp hd _ hq2
    simp [h1] at h2
    right
    refine ⟨List.mem_of_getElem? h1, ?_⟩
    simp [h2] at h3 ⊢
    exact h3
theorem wp_istore_n {q : Fin 4} {i : Nat} {v : Int32} {lv' : List (Nat × Value)} (ks : List Nat) (hn : i < Y.2.2.1) (h : mm_st lv i (.int v) ks = lv') (h1 : (lv'.all fun q => (q.1 == i) || (!(q.1 + 1 == i && q.2.category == 2))) = true) (h2 : (ks.all fun k => k == 0 || (match lv[k - 1]? with | some q => !(q.1 == i) | none => true)) = true) (hd : decode Y.2.1 pc = .ok (.istore_n q, 1)) (hi : (q : Nat) = i) (kk : WP Y X N (pc + 1) lv' st F A R G) : WP Y X N pc lv (.int v :: st) F A R G := by
  obtain ⟨⟨p, l, e, Rm, s⟩, ⟨m, args, below, meth, c⟩, ⟨D, cy, b, xx⟩, k, N0, N1, Q⟩ := X
  intro ok hN0 H locs ls hl hP hS
  exact lv_istore_n ok.1 ok.2.1 hd hi hl hn rfl (fun ls' hl' => kk ok hN0 H locs ls' (mm_pick hl' (mm_st_ok ks h h1 h2)) hP hS)
theorem wp_istore {i : Nat} {v : Int32} {lv' : List (Nat × Value)} (ks : List Nat) (hn : i < Y.2.2.1) (h : mm_st lv i (.int v) ks = lv') (h1 : (lv'.all fun q => (q.1 == i) || (!(q.1 + 1 == i && q.2.category == 2))) = true) (h2 : (ks.all fun k => k == 0 || (match lv[k - 1]? with | some q => !(q.1 == i) | none => true)) = true) (hd : decode Y.2.1 pc = .ok (.istore i, 2)) (kk : WP Y X N (pc + 2) lv' st F A R G) : WP Y X N pc lv (.int v :: st) F A R G := by
  obtain ⟨⟨p, l, e, Rm, s⟩, ⟨m, args, below, meth, c⟩, ⟨D, cy, b, xx⟩, k, N0, N1, Q⟩ := X
  intro ok hN0 H locs ls hl hP hS
  exact lv_istore ok.1 ok.2.1 hd hl hn rfl (fun ls' hl' => kk ok hN0 H locs ls' (mm_pick hl' (mm_st_ok ks h h1 h2)) hP hS)
theorem wp_astore_n {q : Fin 4} {i : Nat} {v : Nat} {lv' : List (Nat × Value)} (ks : List Nat) (hn : i < Y.2.2.1) (h : mm_st lv i (.ref v) ks = lv') (h1 : (lv'.all fun q => (q.1 == i) || (!(q.1 + 1 == i && q.2.category == 2))) = true) (h2 : (ks.all fun k => k == 0 || (match lv[k - 1]? with | some q => !(q.1 == i) | none => true)) = true) (hd : decode Y.2.1 pc = .ok (.astore_n q, 1)) (hi : (q : Nat) = i) (kk : WP Y X N (pc + 1) lv' st F A R G) : WP Y X N pc lv (.ref v :: st) F A R G := by
  obtain ⟨⟨p, l, e, Rm, s⟩, ⟨m, args, below, meth, c⟩, ⟨D, cy, b, xx⟩, k, N0, N1, Q⟩ := X
  intro ok hN0 H locs ls hl hP hS
  exact lv_astore_n ok.1 ok.2.1 hd hi hl hn rfl (fun ls' hl' => kk ok hN0 H locs ls' (mm_pick hl' (mm_st_ok ks h h1 h2)) hP hS)
theorem wp_astore {i : Nat} {v : Nat} {lv' : List (Nat × Value)} (ks : List Nat) (hn : i < Y.2.2.1) (h : mm_st lv i (.ref v) ks = lv') (h1 : (lv'.all fun q => (q.1 == i) || (!(q.1 + 1 == i && q.2.category == 2))) = true) (h2 : (ks.all fun k => k == 0 || (match lv[k - 1]? with | some q => !(q.1 == i) | none => true)) = true) (hd : decode Y.2.1 pc = .ok (.astore i, 2)) (kk : WP Y X N (pc + 2) lv' st F A R G) : WP Y X N pc lv (.ref v :: st) F A R G := by
  obtain ⟨⟨p, l, e, Rm, s⟩, ⟨m, args, below, meth, c⟩, ⟨D, cy, b, xx⟩, k, N0, N1, Q⟩ := X
  intro ok hN0 H locs ls hl hP hS
  exact lv_astore ok.1 ok.2.1 hd hl hn rfl (fun ls' hl' => kk ok hN0 H locs ls' (mm_pick hl' (mm_st_ok ks h h1 h2)) hP hS)
theorem wp_lstore_n {q : Fin 4} {i : Nat} {v : Int64} {lv' : List (Nat × Value)} (ks : List Nat) (hn : i + 1 < Y.2.2.1) (h : mm_st lv i (.long v) ks = lv') (h1 : (lv'.all fun q => (q.1 == i) || (!(q.1 + 1 == i && q.2.category == 2))) = true) (h2 : (ks.all fun k => k == 0 || (match lv[k - 1]? with | some q => !(q.1 == i) && !(q.1 == i + 1) | none => true)) = true) (hd : decode Y.2.1 pc = .ok (.lstore_n q, 1)) (hi : (q : Nat) = i) (kk : WP Y X N (pc + 1) lv' st F A R G) : WP Y X N pc lv (.long v :: st) F A R G := by
  obtain ⟨⟨p, l, e, Rm, s⟩, ⟨m, args, below, meth, c⟩, ⟨D, cy, b, xx⟩, k, N0, N1, Q⟩ := X
  intro ok hN0 H locs ls hl hP hS
  exact lv_lstore_n ok.1 ok.2.1 hd hi hl hn rfl (fun ls' hl' => kk ok hN0 H locs ls' (mm_pick2 hl' (mm_st_ok2 ks h h1 h2)) hP hS)
theorem wp_lstore {i : Nat} {v : Int64} {lv' : List (Nat × Value)} (ks : List Nat) (hn : i + 1 < Y.2.2.1) (h : mm_st lv i (.long v) ks = lv') (h1 : (lv'.all fun q => (q.1 == i) || (!(q.1 + 1 == i && q.2.category == 2))) = true) (h2 : (ks.all fun k => k == 0 || (match lv[k - 1]? with | some q => !(q.1 == i) && !(q.1 == i + 1) | none => true)) = true) (hd : decode Y.2.1 pc = .ok (.lstore i, 2)) (kk : WP Y X N (pc + 2) lv' st F A R G) : WP Y X N pc lv (.long v :: st) F A R G := by
  obtain ⟨⟨p, l, e, Rm, s⟩, ⟨m, args, below, meth, c⟩, ⟨D, cy, b, xx⟩, k, N0, N1, Q⟩ := X
  intro ok hN0 H locs ls hl hP hS
  exact lv_lstore ok.1 ok.2.1 hd hl hn rfl (fun ls' hl' => kk ok hN0 H locs ls' (mm_pick2 hl' (mm_st_ok2 ks h h1 h2)) hP hS)
theorem wp_iinc {i : Nat} {n : Int} {x v : Int32} {lv' : List (Nat × Value)} (j : Nat) (hj : lv[j]? = some (i, .int x)) (hv : x + Int32.ofInt n = v) (ks : List Nat) (hn : i < Y.2.2.1) (h : mm_st lv i (.int v) ks = lv') (h1 : (lv'.all fun q => (q.1 == i) || (!(q.1 + 1 == i && q.2.category == 2))) = true) (h2 : (ks.all fun k => k == 0 || (match lv[k - 1]? with | some q => !(q.1 == i) | none => true)) = true) (hd : decode Y.2.1 pc = .ok (.iinc i n, 3)) (kk : WP Y X N (pc + 3) lv' st F A R G) : WP Y X N pc lv st F A R G := by
  obtain ⟨⟨p, l, e, Rm, s⟩, ⟨m, args, below, meth, c⟩, ⟨D, cy, b, xx⟩, k, N0, N1, Q⟩ := X
  intro ok hN0 H locs ls hl hP hS
  exact lv_iinc (k := j) ok.1 ok.2.1 hd hl (by simp [mm_lv, hj, mm_v]) hv hn rfl (fun ls' hl' => kk ok hN0 H locs ls' (mm_pick (v := .int v) hl' (mm_st_ok ks h h1 h2)) hP hS)
theorem wp_iadd {x y : Int32} (hd : decode Y.2.1 pc = .ok (.iadd, 1)) (kk : WP Y X N (pc + 1) lv (.int (x + y) :: st) F A R G) : WP Y X N pc lv (.int y :: .int x :: st) F A R G := by
  obtain ⟨⟨p, l, e, Rm, s⟩, ⟨m, args, below, meth, c⟩, ⟨D, cy, b, xx⟩, k, N0, N1, Q⟩ := X
  intro ok hN0 H locs ls hl hP hS
  exact lv_iadd ok.1 ok.2.1 hd (kk ok hN0 H locs ls hl hP hS)
theorem wp_isub {x y : Int32} (hd : decode Y.2.1 pc = .ok (.isub, 1)) (kk : WP Y X N (pc + 1) lv (.int (x - y) :: st) F A R G) : WP Y X N pc lv (.int y :: .int x :: st) F A R G := by
  obtain ⟨⟨p, l, e, Rm, s⟩, ⟨m, args, below, meth, c⟩, ⟨D, cy, b, xx⟩, k, N0, N1, Q⟩ := X
  intro ok hN0 H locs ls hl hP hS
  exact lv_isub ok.1 ok.2.1 hd (kk ok hN0 H locs ls hl hP hS)
theorem wp_imul {x y : Int32} (hd : decode Y.2.1 pc = .ok (.imul, 1)) (kk : WP Y X N (pc + 1) lv (.int (x * y) :: st) F A R G) : WP Y X N pc lv (.int y :: .int x :: st) F A R G := by
  obtain ⟨⟨p, l, e, Rm, s⟩, ⟨m, args, below, meth, c⟩, ⟨D, cy, b, xx⟩, k, N0, N1, Q⟩ := X
  intro ok hN0 H locs ls hl hP hS
  exact lv_imul ok.1 ok.2.1 hd (kk ok hN0 H locs ls hl hP hS)
theorem wp_iand {x y : Int32} (hd : decode Y.2.1 pc = .ok (.iand, 1)) (kk : WP Y X N (pc + 1) lv (.int (x &&& y) :: st) F A R G) : WP Y X N pc lv (.int y :: .int x :: st) F A R G := by
  obtain ⟨⟨p, l, e, Rm, s⟩, ⟨m, args, below, meth, c⟩, ⟨D, cy, b, xx⟩, k, N0, N1, Q⟩ := X
  intro ok hN0 H locs ls hl hP hS
  exact lv_iand ok.1 ok.2.1 hd (kk ok hN0 H locs ls hl hP hS)
theorem wp_ior {x y : Int32} (hd : decode Y.2.1 pc = .ok (.ior, 1)) (kk : WP Y X N (pc + 1) lv (.int (x ||| y) :: st) F A R G) : WP Y X N pc lv (.int y :: .int x :: st) F A R G := by
  obtain ⟨⟨p, l, e, Rm, s⟩, ⟨m, args, below, meth, c⟩, ⟨D, cy, b, xx⟩, k, N0, N1, Q⟩ := X
  intro ok hN0 H locs ls hl hP hS
  exact lv_ior ok.1 ok.2.1 hd (kk ok hN0 H locs ls hl hP hS)
theorem wp_ixor {x y : Int32} (hd : decode Y.2.1 pc = .ok (.ixor, 1)) (kk : WP Y X N (pc + 1) lv (.int (x ^^^ y) :: st) F A R G) : WP Y X N pc lv (.int y :: .int x :: st) F A R G := by
  obtain ⟨⟨p, l, e, Rm, s⟩, ⟨m, args, below, meth, c⟩, ⟨D, cy, b, xx⟩, k, N0, N1, Q⟩ := X
  intro ok hN0 H locs ls hl hP hS
  exact lv_ixor ok.1 ok.2.1 hd (kk ok hN0 H locs ls hl hP hS)
theorem wp_ishl {x y : Int32} (hd : decode Y.2.1 pc = .ok (.ishl, 1)) (kk : WP Y X N (pc + 1) lv (.int (x <<< (y &&& 31)) :: st) F A R G) : WP Y X N pc lv (.int y :: .int x :: st) F A R G := by
  obtain ⟨⟨p, l, e, Rm, s⟩, ⟨m, args, below, meth, c⟩, ⟨D, cy, b, xx⟩, k, N0, N1, Q⟩ := X
  intro ok hN0 H locs ls hl hP hS
  exact lv_ishl ok.1 ok.2.1 hd (kk ok hN0 H locs ls hl hP hS)
theorem wp_ishr {x y : Int32} (hd : decode Y.2.1 pc = .ok (.ishr, 1)) (kk : WP Y X N (pc + 1) lv (.int (x >>> (y &&& 31)) :: st) F A R G) : WP Y X N pc lv (.int y :: .int x :: st) F A R G := by
  obtain ⟨⟨p, l, e, Rm, s⟩, ⟨m, args, below, meth, c⟩, ⟨D, cy, b, xx⟩, k, N0, N1, Q⟩ := X
  intro ok hN0 H locs ls hl hP hS
  exact lv_ishr ok.1 ok.2.1 hd (kk ok hN0 H locs ls hl hP hS)
theorem wp_idiv {x y : Int32} (hd : decode Y.2.1 pc = .ok (.idiv, 1)) (hne : ¬ y = 0) (kk : WP Y X N (pc + 1) lv (.int (x / y) :: st) F A R G) : WP Y X N pc lv (.int y :: .int x :: st) F A R G := by
  obtain ⟨⟨p, l, e, Rm, s⟩, ⟨m, args, below, meth, c⟩, ⟨D, cy, b, xx⟩, k, N0, N1, Q⟩ := X
  intro ok hN0 H locs ls hl hP hS
  exact lv_idiv ok.1 ok.2.1 hd hne (kk ok hN0 H locs ls hl hP hS)
theorem wp_irem {x y : Int32} (hd : decode Y.2.1 pc = .ok (.irem, 1)) (hne : ¬ y = 0) (kk : WP Y X N (pc + 1) lv (.int (x - x / y * y) :: st) F A R G) : WP Y X N pc lv (.int y :: .int x :: st) F A R G := by
  obtain ⟨⟨p, l, e, Rm, s⟩, ⟨m, args, below, meth, c⟩, ⟨D, cy, b, xx⟩, k, N0, N1, Q⟩ := X
  intro ok hN0 H locs ls hl hP hS
  exact lv_irem ok.1 ok.2.1 hd hne (kk ok hN0 H locs ls hl hP hS)
theorem wp_ineg {x : Int32} (hd : decode Y.2.1 pc = .ok (.ineg, 1)) (kk : WP Y X N (pc + 1) lv (.int (-x) :: st) F A R G) : WP Y X N pc lv (.int x :: st) F A R G := by
  obtain ⟨⟨p, l, e, Rm, s⟩, ⟨m, args, below, meth, c⟩, ⟨D, cy, b, xx⟩, k, N0, N1, Q⟩ := X
  intro ok hN0 H locs ls hl hP hS
  exact lv_ineg ok.1 ok.2.1 hd (kk ok hN0 H locs ls hl hP hS)
theorem wp_ladd {x y : Int64} (hd : decode Y.2.1 pc = .ok (.ladd, 1)) (kk : WP Y X N (pc + 1) lv (.long (x + y) :: st) F A R G) : WP Y X N pc lv (.long y :: .long x :: st) F A R G := by
  obtain ⟨⟨p, l, e, Rm, s⟩, ⟨m, args, below, meth, c⟩, ⟨D, cy, b, xx⟩, k, N0, N1, Q⟩ := X
  intro ok hN0 H locs ls hl hP hS
  exact lv_ladd ok.1 ok.2.1 hd (kk ok hN0 H locs ls hl hP hS)
theorem wp_lmul {x y : Int64} (hd : decode Y.2.1 pc = .ok (.lmul, 1)) (kk : WP Y X N (pc + 1) lv (.long (x * y) :: st) F A R G) : WP Y X N pc lv (.long y :: .long x :: st) F A R G := by
  obtain ⟨⟨p, l, e, Rm, s⟩, ⟨m, args, below, meth, c⟩, ⟨D, cy, b, xx⟩, k, N0, N1, Q⟩ := X
  intro ok hN0 H locs ls hl hP hS
  exact lv_lmul ok.1 ok.2.1 hd (kk ok hN0 H locs ls hl hP hS)
theorem wp_land {x y : Int64} (hd : decode Y.2.1 pc = .ok (.land, 1)) (kk : WP Y X N (pc + 1) lv (.long (x &&& y) :: st) F A R G) : WP Y X N pc lv (.long y :: .long x :: st) F A R G := by
  obtain ⟨⟨p, l, e, Rm, s⟩, ⟨m, args, below, meth, c⟩, ⟨D, cy, b, xx⟩, k, N0, N1, Q⟩ := X
  intro ok hN0 H locs ls hl hP hS
  exact lv_land ok.1 ok.2.1 hd (kk ok hN0 H locs ls hl hP hS)
theorem wp_lor {x y : Int64} (hd : decode Y.2.1 pc = .ok (.lor, 1)) (kk : WP Y X N (pc + 1) lv (.long (x ||| y) :: st) F A R G) : WP Y X N pc lv (.long y :: .long x :: st) F A R G := by
  obtain ⟨⟨p, l, e, Rm, s⟩, ⟨m, args, below, meth, c⟩, ⟨D, cy, b, xx⟩, k, N0, N1, Q⟩ := X
  intro ok hN0 H locs ls hl hP hS
  exact lv_lor ok.1 ok.2.1 hd (kk ok hN0 H locs ls hl hP hS)
theorem wp_lrem {x y : Int64} (hd : decode Y.2.1 pc = .ok (.lrem, 1)) (hne : ¬ y = 0) (kk : WP Y X N (pc + 1) lv (.long (x - x / y * y) :: st) F A R G) : WP Y X N pc lv (.long y :: .long x :: st) F A R G := by
  obtain ⟨⟨p, l, e, Rm, s⟩, ⟨m, args, below, meth, c⟩, ⟨D, cy, b, xx⟩, k, N0, N1, Q⟩ := X
  intro ok hN0 H locs ls hl hP hS
  exact lv_lrem ok.1 ok.2.1 hd hne (kk ok hN0 H locs ls hl hP hS)
theorem wp_i2l {x : Int32} (hd : decode Y.2.1 pc = .ok (.i2l, 1)) (kk : WP Y X N (pc + 1) lv (.long x.toInt64 :: st) F A R G) : WP Y X N pc lv (.int x :: st) F A R G := by
  obtain ⟨⟨p, l, e, Rm, s⟩, ⟨m, args, below, meth, c⟩, ⟨D, cy, b, xx⟩, k, N0, N1, Q⟩ := X
  intro ok hN0 H locs ls hl hP hS
  exact lv_i2l ok.1 ok.2.1 hd rfl (kk ok hN0 H locs ls hl hP hS)
theorem wp_l2i {x : Int64} (hd : decode Y.2.1 pc = .ok (.l2i, 1)) (kk : WP Y X N (pc + 1) lv (.int x.toInt32 :: st) F A R G) : WP Y X N pc lv (.long x :: st) F A R G := by
  obtain ⟨⟨p, l, e, Rm, s⟩, ⟨m, args, below, meth, c⟩, ⟨D, cy, b, xx⟩, k, N0, N1, Q⟩ := X
  intro ok hN0 H locs ls hl hP hS
  exact lv_l2i ok.1 ok.2.1 hd rfl (kk ok hN0 H locs ls hl hP hS)
theorem wp_lushr {x : Int64} {y : Int32} (hd : decode Y.2.1 pc = .ok (.lushr, 1)) (kk : WP Y X N (pc + 1) lv (.long (x.toUInt64 >>> (y.toInt64.toUInt64 &&& Int64.toUInt64 63)).toInt64 :: st) F A R G) : WP Y X N pc lv (.int y :: .long x :: st) F A R G := by
  obtain ⟨⟨p, l, e, Rm, s⟩, ⟨m, args, below, meth, c⟩, ⟨D, cy, b, xx⟩, k, N0, N1, Q⟩ := X
  intro ok hN0 H locs ls hl hP hS
  exact lv_lushr ok.1 ok.2.1 hd rfl (kk ok hN0 H locs ls hl hP hS)
theorem wp_lshl {x : Int64} {y : Int32} (hd : decode Y.2.1 pc = .ok (.lshl, 1)) (kk : WP Y X N (pc + 1) lv (.long (x <<< (y.toInt64 &&& 63)) :: st) F A R G) : WP Y X N pc lv (.int y :: .long x :: st) F A R G := by
  obtain ⟨⟨p, l, e, Rm, s⟩, ⟨m, args, below, meth, c⟩, ⟨D, cy, b, xx⟩, k, N0, N1, Q⟩ := X
  intro ok hN0 H locs ls hl hP hS
  exact lv_lshl ok.1 ok.2.1 hd rfl (kk ok hN0 H locs ls hl hP hS)
theorem wp_lcmp {x y : Int64} (hd : decode Y.2.1 pc = .ok (.lcmp, 1)) (kk : WP Y X N (pc + 1) lv (.int (lg_cmp x y) :: st) F A R G) : WP Y X N pc lv (.long y :: .long x :: st) F A R G := by
  obtain ⟨⟨p, l, e, Rm, s⟩, ⟨m, args, below, meth, c⟩, ⟨D, cy, b, xx⟩, k, N0, N1, Q⟩ := X
  intro ok hN0 H locs ls hl hP hS
  exact W.lcmp ok.1 ok.2.1 hd (kk ok hN0 H locs ls hl hP hS)
theorem wp_dup {v : Value} (hd : decode Y.2.1 pc = .ok (.dup, 1)) (hv : v.category = 1) (kk : WP Y X N (pc + 1) lv (v :: v :: st) F A R G) : WP Y X N pc lv (v :: st) F A R G := by
  obtain ⟨⟨p, l, e, Rm, s⟩, ⟨m, args, below, meth, c⟩, ⟨D, cy, b, xx⟩, k, N0, N1, Q⟩ := X
  intro ok hN0 H locs ls hl hP hS
  exact lv_dup ok.1 ok.2.1 hd ((mm_v_cat v).trans hv) (kk ok hN0 H locs ls hl hP hS)
theorem wp_pop {v : Value} (hd : decode Y.2.1 pc = .ok (.pop, 1)) (hv : v.category = 1) (kk : WP Y X N (pc + 1) lv (st) F A R G) : WP Y X N pc lv (v :: st) F A R G := by
  obtain ⟨⟨p, l, e, Rm, s⟩, ⟨m, args, below, meth, c⟩, ⟨D, cy, b, xx⟩, k, N0, N1, Q⟩ := X
  intro ok hN0 H locs ls hl hP hS
  exact lv_pop ok.1 ok.2.1 hd ((mm_v_cat v).trans hv) (kk ok hN0 H locs ls hl hP hS)
theorem wp_dup2 {v u : Value} (hd : decode Y.2.1 pc = .ok (.dup2, 1)) (hv : v.category = 1) (hu : u.category = 1) (kk : WP Y X N (pc + 1) lv (v :: u :: v :: u :: st) F A R G) : WP Y X N pc lv (v :: u :: st) F A R G := by
  obtain ⟨⟨p, l, e, Rm, s⟩, ⟨m, args, below, meth, c⟩, ⟨D, cy, b, xx⟩, k, N0, N1, Q⟩ := X
  intro ok hN0 H locs ls hl hP hS
  exact lv_dup2_11 ok.1 ok.2.1 hd ((mm_v_cat v).trans hv) ((mm_v_cat u).trans hu) (kk ok hN0 H locs ls hl hP hS)
theorem wp_if_eq {x : Int32} {off : Int} (tgt : Nat) (hd : decode Y.2.1 pc = .ok (.ifCond .eq off, 3)) (ht : (pc : Int) + off = (tgt : Int)) (kt : x = 0 → WP Y X N tgt lv st F A R G) (kf : ¬ x = 0 → WP Y X N (pc + 3) lv st F A R G) : WP Y X N pc lv (.int x :: st) F A R G := by
  obtain ⟨⟨p, l, e, Rm, s⟩, ⟨m, args, below, meth, c⟩, ⟨D, cy, b, xx⟩, k, N0, N1, Q⟩ := X
  intro ok hN0 H locs ls hl hP hS
  exact lv_if_eq ok.1 ok.2.1 hd ht (fun h => kt h ok hN0 H locs ls hl hP hS) (fun h => kf h ok hN0 H locs ls hl hP hS)
theorem wp_icmp_eq {x y : Int32} {off : Int} (tgt : Nat) (hd : decode Y.2.1 pc = .ok (.if_icmp .eq off, 3)) (ht : (pc : Int) + off = (tgt : Int)) (kt : x = y → WP Y X N tgt lv st F A R G) (kf : ¬ x = y → WP Y X N (pc + 3) lv st F A R G) : WP Y X N pc lv (.int y :: .int x :: st) F A R G := by
  obtain ⟨⟨p, l, e, Rm, s⟩, ⟨m, args, below, meth, c⟩, ⟨D, cy, b, xx⟩, k, N0, N1, Q⟩ := X
  intro ok hN0 H locs ls hl hP hS
  exact lv_icmp_eq ok.1 ok.2.1 hd ht (fun h => kt h ok hN0 H locs ls hl hP hS) (fun h => kf h ok hN0 H locs ls hl hP hS)
theorem wp_if_ne {x : Int32} {off : Int} (tgt : Nat) (hd : decode Y.2.1 pc = .ok (.ifCond .ne off, 3)) (ht : (pc : Int) + off = (tgt : Int)) (kt : ¬ x = 0 → WP Y X N tgt lv st F A R G) (kf : x = 0 → WP Y X N (pc + 3) lv st F A R G) : WP Y X N pc lv (.int x :: st) F A R G := by
  obtain ⟨⟨p, l, e, Rm, s⟩, ⟨m, args, below, meth, c⟩, ⟨D, cy, b, xx⟩, k, N0, N1, Q⟩ := X
  intro ok hN0 H locs ls hl hP hS
  exact lv_if_ne ok.1 ok.2.1 hd ht (fun h => kt h ok hN0 H locs ls hl hP hS) (fun h => kf h ok hN0 H locs ls hl hP hS)
theorem wp_icmp_ne {x y : Int32} {off : Int} (tgt : Nat) (hd : decode Y.2.1 pc = .ok (.if_icmp .ne off, 3)) (ht : (pc : Int) + off = (tgt : Int)) (kt : ¬ x = y → WP Y X N tgt lv st F A R G) (kf : x = y → WP Y X N (pc + 3) lv st F A R G) : WP Y X N pc lv (.int y :: .int x :: st) F A R G := by
  obtain ⟨⟨p, l, e, Rm, s⟩, ⟨m, args, below, meth, c⟩, ⟨D, cy, b, xx⟩, k, N0, N1, Q⟩ := X
  intro ok hN0 H locs ls hl hP hS
  exact lv_icmp_ne ok.1 ok.2.1 hd ht (fun h => kt h ok hN0 H locs ls hl hP hS) (fun h => kf h ok hN0 H locs ls hl hP hS)
theorem wp_if_lt {x : Int32} {off : Int} (tgt : Nat) (hd : decode Y.2.1 pc = .ok (.ifCond .lt off, 3)) (ht : (pc : Int) + off = (tgt : Int)) (kt : x < 0 → WP Y X N tgt lv st F A R G) (kf : ¬ x < 0 → WP Y X N (pc + 3) lv st F A R G) : WP Y X N pc lv (.int x :: st) F A R G := by
  obtain ⟨⟨p, l, e, Rm, s⟩, ⟨m, args, below, meth, c⟩, ⟨D, cy, b, xx⟩, k, N0, N1, Q⟩ := X
  intro ok hN0 H locs ls hl hP hS
  exact lv_if_lt ok.1 ok.2.1 hd ht (fun h => kt h ok hN0 H locs ls hl hP hS) (fun h => kf h ok hN0 H locs ls hl hP hS)
theorem wp_icmp_lt {x y : Int32} {off : Int} (tgt : Nat) (hd : decode Y.2.1 pc = .ok (.if_icmp .lt off, 3)) (ht : (pc : Int) + off = (tgt : Int)) (kt : x < y → WP Y X N tgt lv st F A R G) (kf : ¬ x < y → WP Y X N (pc + 3) lv st F A R G) : WP Y X N pc lv (.int y :: .int x :: st) F A R G := by
  obtain ⟨⟨p, l, e, Rm, s⟩, ⟨m, args, below, meth, c⟩, ⟨D, cy, b, xx⟩, k, N0, N1, Q⟩ := X
  intro ok hN0 H locs ls hl hP hS
  exact lv_icmp_lt ok.1 ok.2.1 hd ht (fun h => kt h ok hN0 H locs ls hl hP hS) (fun h => kf h ok hN0 H locs ls hl hP hS)
theorem wp_if_ge {x : Int32} {off : Int} (tgt : Nat) (hd : decode Y.2.1 pc = .ok (.ifCond .ge off, 3)) (ht : (pc : Int) + off = (tgt : Int)) (kt : 0 ≤ x → WP Y X N tgt lv st F A R G) (kf : ¬ 0 ≤ x → WP Y X N (pc + 3) lv st F A R G) : WP Y X N pc lv (.int x :: st) F A R G := by
  obtain ⟨⟨p, l, e, Rm, s⟩, ⟨m, args, below, meth, c⟩, ⟨D, cy, b, xx⟩, k, N0, N1, Q⟩ := X
  intro ok hN0 H locs ls hl hP hS
  exact lv_if_ge ok.1 ok.2.1 hd ht (fun h => kt h ok hN0 H locs ls hl hP hS) (fun h => kf h ok hN0 H locs ls hl hP hS)
theorem wp_icmp_ge {x y : Int32} {off : Int} (tgt : Nat) (hd : decode Y.2.1 pc = .ok (.if_icmp .ge off, 3)) (ht : (pc : Int) + off = (tgt : Int)) (kt : y ≤ x → WP Y X N tgt lv st F A R G) (kf : ¬ y ≤ x → WP Y X N (pc + 3) lv st F A R G) : WP Y X N pc lv (.int y :: .int x :: st) F A R G := by
  obtain ⟨⟨p, l, e, Rm, s⟩, ⟨m, args, below, meth, c⟩, ⟨D, cy, b, xx⟩, k, N0, N1, Q⟩ := X
  intro ok hN0 H locs ls hl hP hS
  exact lv_icmp_ge ok.1 ok.2.1 hd ht (fun h => kt h ok hN0 H locs ls hl hP hS) (fun h => kf h ok hN0 H locs ls hl hP hS)
theorem wp_if_gt {x : Int32} {off : Int} (tgt : Nat) (hd : decode Y.2.1 pc = .ok (.ifCond .gt off, 3)) (ht : (pc : Int) + off = (tgt : Int)) (kt : 0 < x → WP Y X N tgt lv st F A R G) (kf : ¬ 0 < x → WP Y X N (pc + 3) lv st F A R G) : WP Y X N pc lv (.int x :: st) F A R G := by
  obtain ⟨⟨p, l, e, Rm, s⟩, ⟨m, args, below, meth, c⟩, ⟨D, cy, b, xx⟩, k, N0, N1, Q⟩ := X
  intro ok hN0 H locs ls hl hP hS
  exact lv_if_gt ok.1 ok.2.1 hd ht (fun h => kt h ok hN0 H locs ls hl hP hS) (fun h => kf h ok hN0 H locs ls hl hP hS)
theorem wp_icmp_gt {x y : Int32} {off : Int} (tgt : Nat) (hd : decode Y.2.1 pc = .ok (.if_icmp .gt off, 3)) (ht : (pc : Int) + off = (tgt : Int)) (kt : y < x → WP Y X N tgt lv st F A R G) (kf : ¬ y < x → WP Y X N (pc + 3) lv st F A R G) : WP Y X N pc lv (.int y :: .int x :: st) F A R G := by
  obtain ⟨⟨p, l, e, Rm, s⟩, ⟨m, args, below, meth, c⟩, ⟨D, cy, b, xx⟩, k, N0, N1, Q⟩ := X
  intro ok hN0 H locs ls hl hP hS
  exact lv_icmp_gt ok.1 ok.2.1 hd ht (fun h => kt h ok hN0 H locs ls hl hP hS) (fun h => kf h ok hN0 H locs ls hl hP hS)
theorem wp_if_le {x : Int32} {off : Int} (tgt : Nat) (hd : decode Y.2.1 pc = .ok (.ifCond .le off, 3)) (ht : (pc : Int) + off = (tgt : Int)) (kt : x ≤ 0 → WP Y X N tgt lv st F A R G) (kf : ¬ x ≤ 0 → WP Y X N (pc + 3) lv st F A R G) : WP Y X N pc lv (.int x :: st) F A R G := by
  obtain ⟨⟨p, l, e, Rm, s⟩, ⟨m, args, below, meth, c⟩, ⟨D, cy, b, xx⟩, k, N0, N1, Q⟩ := X
  intro ok hN0 H locs ls hl hP hS
  exact lv_if_le ok.1 ok.2.1 hd ht (fun h => kt h ok hN0 H locs ls hl hP hS) (fun h => kf h ok hN0 H locs ls hl hP hS)
theorem wp_icmp_le {x y : Int32} {off : Int} (tgt : Nat) (hd : decode Y.2.1 pc = .ok (.if_icmp .le off, 3)) (ht : (pc : Int) + off = (tgt : Int)) (kt : x ≤ y → WP Y X N tgt lv st F A R G) (kf : ¬ x ≤ y → WP Y X N (pc + 3) lv st F A R G) : WP Y X N pc lv (.int y :: .int x :: st) F A R G := by
  obtain ⟨⟨p, l, e, Rm, s⟩, ⟨m, args, below, meth, c⟩, ⟨D, cy, b, xx⟩, k, N0, N1, Q⟩ := X
  intro ok hN0 H locs ls hl hP hS
  exact lv_icmp_le ok.1 ok.2.1 hd ht (fun h => kt h ok hN0 H locs ls hl hP hS) (fun h => kf h ok hN0 H locs ls hl hP hS)
theorem wp_goto {off : Int} (tgt : Nat) (hd : decode Y.2.1 pc = .ok (.goto off, 3)) (ht : (pc : Int) + off = (tgt : Int)) (kk : WP Y X N tgt lv st F A R G) : WP Y X N pc lv st F A R G := by
  obtain ⟨⟨p, l, e, Rm, s⟩, ⟨m, args, below, meth, c⟩, ⟨D, cy, b, xx⟩, k, N0, N1, Q⟩ := X
  intro ok hN0 H locs ls hl hP hS
  exact lv_goto ok.1 ok.2.1 hd ht (kk ok hN0 H locs ls hl hP hS)
theorem wp_tableOut {x : Int32} {d lo hi : Int} {offs : Array Int} {len : Nat} (tgt : Nat) (hd : decode Y.2.1 pc = .ok (.tableswitch d lo hi offs, len)) (h : x.toInt < lo ∨ hi < x.toInt) (ht : (pc : Int) + d = (tgt : Int)) (kk : WP Y X N tgt lv st F A R G) : WP Y X N pc lv (.int x :: st) F A R G := by
  obtain ⟨⟨p, l, e, Rm, s⟩, ⟨m, args, below, meth, c⟩, ⟨D, cy, b, xx⟩, k, N0, N1, Q⟩ := X
  intro ok hN0 H locs ls hl hP hS
  exact lv_tableOut ok.1 ok.2.1 hd h ht (kk ok hN0 H locs ls hl hP hS)
theorem wp_tableIn {x : Int32} {d lo hi off : Int} {offs : Array Int} {len : Nat} (tgt : Nat) (hd : decode Y.2.1 pc = .ok (.tableswitch d lo hi offs, len)) (h1 : ¬ x.toInt < lo) (h2 : ¬ hi < x.toInt) (ho : offs[(x.toInt - lo).toNat]? = some off) (ht : (pc : Int) + off = (tgt : Int)) (kk : WP Y X N tgt lv st F A R G) : WP Y X N pc lv (.int x :: st) F A R G := by
  obtain ⟨⟨p, l, e, Rm, s⟩, ⟨m, args, below, meth, c⟩, ⟨D, cy, b, xx⟩, k, N0, N1, Q⟩ := X
  intro ok hN0 H locs ls hl hP hS
  exact lv_tableIn ok.1 ok.2.1 hd h1 h2 ho ht (kk ok hN0 H locs ls hl hP hS)
theorem wp_lookup {x : Int32} {d off : Int} {ps : Array (Int × Int)} {len : Nat} (tgt : Nat) (hd : decode Y.2.1 pc = .ok (.lookupswitch d ps, len)) (hp : (ps.toList.zip (ps.toList.drop 1)).all (fun (a, next) => a.1 < next.1) = true) (ho : Op.lookupswitch.offset ps.toList d x.toInt = off) (ht : (pc : Int) + off = (tgt : Int)) (kk : WP Y X N tgt lv st F A R G) : WP Y X N pc lv (.int x :: st) F A R G := by
  obtain ⟨⟨p, l, e, Rm, s⟩, ⟨m, args, below, meth, c⟩, ⟨D, cy, b, xx⟩, k, N0, N1, Q⟩ := X
  intro ok hN0 H locs ls hl hP hS
  exact lv_lookup ok.1 ok.2.1 hd hp ho ht (kk ok hN0 H locs ls hl hP hS)
theorem wp_ldc2 {i : Nat} {v : Int64} (hw : Cond.constantLong Y.1.cls i v ∈ mm_big) (hd : decode Y.2.1 pc = .ok (.ldc2_w i, 3)) (kk : WP Y X N (pc + 3) lv (.long v :: st) F A R G) : WP Y X N pc lv st F A R G := by
  obtain ⟨⟨p, l, e, Rm, s⟩, ⟨m, args, below, meth, c⟩, ⟨D, cy, b, xx⟩, k, N0, N1, Q⟩ := X
  intro ok hN0 H locs ls hl hP hS
  obtain ⟨o1, o2, o3, o4, o5, o6, o7, o8⟩ := id ok
  exact lv_ldc2 o1 o2 o6 (o7 _ hw) hd (kk ok hN0 H locs ls hl hP hS)
theorem wp_ldc {i : Nat} {v : Int32} (hw : Cond.constant Y.1.cls i v ∈ mm_big) (hd : decode Y.2.1 pc = .ok (.ldc i, 2)) (kk : WP Y X N (pc + 2) lv (.int v :: st) F A R G) : WP Y X N pc lv st F A R G := by
  obtain ⟨⟨p, l, e, Rm, s⟩, ⟨m, args, below, meth, c⟩, ⟨D, cy, b, xx⟩, k, N0, N1, Q⟩ := X
  intro ok hN0 H locs ls hl hP hS
  obtain ⟨o1, o2, o3, o4, o5, o6, o7, o8⟩ := id ok
  exact lv_ldc o1 o2 o6 (o7 _ hw) hd (kk ok hN0 H locs ls hl hP hS)
/-- other words for the same state -/
theorem wp_eq {st' : List Value} {F' A' : mmF} {R' : mmR} {G' : mmG} (h1 : st = st') (h2 : F = F') (h3 : A = A') (kk : WP Y X N pc lv st' F' A' R G) : WP Y X N pc lv st F A R G := by
  subst h1; subst h2; subst h3; exact kk
theorem wp_top {x x' : Int32} (h : x = x') (kk : WP Y X N pc lv (.int x' :: st) F A R G) : WP Y X N pc lv (.int x :: st) F A R G := by
  subst h; exact kk
theorem wp_lv {lv' : List (Nat × Value)} (ks : List Nat) (h : lv_pick lv ks = lv') (kk : WP Y X N pc lv' st F A R G) : WP Y X N pc lv st F A R G := by
  obtain ⟨⟨p, l, e, Rm, s⟩, ⟨m, args, below, meth, c⟩, ⟨D, cy, b, xx⟩, k, N0, N1, Q⟩ := X
  intro ok hN0 H locs ls hl hP hS
  refine kk ok hN0 H locs ls ⟨hl.1, hl.2.1, fun q hq => hl.2.2 q ?_⟩ hP hS
  subst h
  obtain ⟨q0, h0, rfl⟩ := List.mem_map.mp hq
  obtain ⟨j, -, hj⟩ := List.mem_filterMap.mp h0
  exact List.mem_map.mpr ⟨q0, List.mem_of_getElem? hj, rfl⟩
/-- a field by its constant pool number: class ci, slot j -/
def mm_FL (own : String) (idx ci j : Nat) : Prop := ∃ (C : String) (T : u_T) (n : Nat) (ty : Nat → FieldType), vwCl[ci]? = some (C, T, n) ∧ j < n ∧ n = mm_nf ci ∧ ci < 11 ∧ (∀ w ∈ u_ws C T n, w ∈ mm_big) ∧ (∀ k, k < n → parseFieldDescriptor (T k).2.2.1 = some (ty k)) ∧ (∀ a, a < n → ∀ b, b < n → a ≠ b → (T a).2.1 ≠ (T b).2.1) ∧ Cond.fieldLink own idx (T j).1 (T j).2.1 (T j).2.2.1 ∈ mm_big ∧ ((T j).2.2.2 = true → (T j).1 = own) ∧ (mm_ft ci j = 0 → ty j = .int) ∧ (mm_ft ci j = 1 → (∃ t, ty j = .array t) ∨ ∃ t, ty j = .object t) ∧ (mm_ft ci j = 2 → ty j = .long)
/-- a field that may be written by anyone -/
def mm_FN (ci j : Nat) : Prop := ∀ q, vwCl[ci]? = some q → (q.2.1 j).2.2.2 = false
theorem wp_getV {idx ci j r : Nat} {v : Value} (hF : mm_FL Y.1.cls idx ci j) (hK : mm_K r = ci) (hr : r < N) (hv : ∀ b x, mm_fv b F R G r ci j = mm_v b x v) (hd : decode Y.2.1 pc = .ok (.getfield idx, 3)) (kk : WP Y X N (pc + 3) lv (v :: st) F A R G) : WP Y X N pc lv (.ref r :: st) F A R G := by
  obtain ⟨⟨p, l, e, Rm, s⟩, ⟨m, args, below, meth, c⟩, ⟨D, cy, b, xx⟩, k, N0, N1, Q⟩ := X
  intro ok hN0 H locs ls hl hP hS
  obtain ⟨o1, o2, o3, o4, o5, o6, o7, o8, o9⟩ := id ok
  obtain ⟨C, T, n, ty, h1, h2, h3, h4, h5, h6, h7, h8, h9⟩ := hF
  refine va_get (D := D) (ci := ci) (v := mm_v b xx v) (C := C) (T := T) (N := n) o1 o2 o7 h5 o6 o8 hP r (by rw [mm_wl_get hr, mm_cell_o hK h4]) h1 j h2 (o7 _ h8) (fun _ h => h) ?_ hd (kk ok hN0 H locs ls hl hP hS)
  rw [mm_fs_get (by omega), hv b xx]
theorem wp_getI {idx ci j r : Nat} (hF : mm_FL Y.1.cls idx ci j) (ht : mm_ft ci j = 0) (hK : mm_K r = ci) (hr : r < N) (hd : decode Y.2.1 pc = .ok (.getfield idx, 3)) (kk : WP Y X N (pc + 3) lv (.int (F r j) :: st) F A R G) : WP Y X N pc lv (.ref r :: st) F A R G :=
  wp_getV hF hK hr (fun b x => by simp [mm_fv, ht, mm_v]) hd kk
theorem wp_getR {idx ci j r q : Nat} (hF : mm_FL Y.1.cls idx ci j) (ht : mm_ft ci j = 1) (hK : mm_K r = ci) (hr : r < N) (hq : R r j = some q) (hd : decode Y.2.1 pc = .ok (.getfield idx, 3)) (kk : WP Y X N (pc + 3) lv (.ref q :: st) F A R G) : WP Y X N pc lv (.ref r :: st) F A R G :=
  wp_getV hF hK hr (fun b x => by simp [mm_fv, ht, mm_v, hq, va_rf]) hd kk
theorem wp_getL {idx ci j r : Nat} (hF : mm_FL Y.1.cls idx ci j) (ht : mm_ft ci j = 2) (hK : mm_K r = ci) (hr : r < N) (hd : decode Y.2.1 pc = .ok (.getfield idx, 3)) (kk : WP Y X N (pc + 3) lv (.long (G r) :: st) F A R G) : WP Y X N pc lv (.ref r :: st) F A R G :=
  wp_getV hF hK hr (fun b x => by simp [mm_fv, ht, mm_v]) hd kk
theorem wp_putV {idx ci j r : Nat} {v : Value} {F' : mmF} {R' : mmR} {G' : mmG} (hF : mm_FL Y.1.cls idx ci j) (hN : mm_FN ci j) (hK : mm_K r = ci) (hr : r < N) (hv : ∀ b x, mm_fv b F' R' G' r ci j = mm_v b x v) (hn : ∀ b x ty, ((mm_ft ci j = 0 → ty = .int) ∧ (mm_ft ci j = 1 → (∃ t, ty = .array t) ∨ ∃ t, ty = .object t) ∧ (mm_ft ci j = 2 → ty = .long)) → narrow ty (mm_v b x v) = mm_v b x v ∧ fits ty (mm_v b x v) = true) (ho : ∀ b k, k ≠ j → mm_fv b F' R' G' r ci k = mm_fv b F R G r ci k) (hF' : ∀ i, i ≠ r → F' i = F i) (hR' : ∀ i, i ≠ r → R' i = R i) (hG' : ∀ i, i ≠ r → G' i = G i)
    (hd : decode Y.2.1 pc = .ok (.putfield idx, 3)) (kk : WP Y X N (pc + 3) lv st F' A R' G') : WP Y X N pc lv (v :: .ref r :: st) F A R G := by
  obtain ⟨⟨p, l, e, Rm, s⟩, ⟨m, args, below, meth, c⟩, ⟨D, cy, b, xx⟩, k, N0, N1, Q⟩ := X
  intro ok hN0 H locs ls hl hP hS
  obtain ⟨o1, o2, o3, o4, o5, o6, o7, o8, o9⟩ := id ok
  obtain ⟨C, T, n, ty, h1, h2, h3, h4, h5, h6, h7, h8, h9, h10⟩ := hF
  obtain ⟨n1, n2⟩ := hn b xx (ty j) h10
  refine va_put (D := D) (ci := ci) (v := mm_v b xx v) (ty := ty j) (C := C) (T := T) (N := n) (A := fun q => b ≤ q) o1 o2 o7 h5 ty h6 h7 o6 o8 hP mm_D hS r (by rw [mm_wl_get hr, mm_cell_o hK h4]) h1 j h2 (o7 _ h8) (fun _ h => h) (hN _ h1) (h6 j h2) n1 n2 (by rw [mm_fs_len]; omega) hd (fun H1 locs1 hP1 _ hS1 => ?_)
  rw [mm_set (F' := F') (A' := A) (R' := R') (G' := G') hr (by rw [mm_cell_o hK h4, mm_fs_set (F' := F') (R' := R') (G' := G') (by omega) (hv b xx) (ho b)]) (fun i hi => mm_cell_congr (hF' i hi) rfl (hR' i hi) (hG' i hi))] at hP1
  exact kk ok hN0 H1 locs1 ls hl hP1 hS1

/-- a row of F (or A), one place of it anew -/
def u2 {α : Type} (f : Nat → Nat → α) (r k : Nat) (v : α) : Nat → Nat → α := va_up f r (va_up (f r) k v)
theorem u2_ne {α : Type} {f : Nat → Nat → α} {r k i : Nat} {v : α} (h : i ≠ r) : u2 f r k v i = f i := va_up_ne _ _ h
theorem u2_row {α : Type} {f : Nat → Nat → α} {r k : Nat} {v : α} : u2 f r k v r = va_up (f r) k v := va_up_self _ _ _
theorem wp_putI {idx ci j r : Nat} {v : Int32} (hF : mm_FL Y.1.cls idx ci j) (hN : mm_FN ci j) (ht : mm_ft ci j = 0) (hK : mm_K r = ci) (hr : r < N) (hd : decode Y.2.1 pc = .ok (.putfield idx, 3)) (kk : WP Y X N (pc + 3) lv st (u2 F r j v) A R G) : WP Y X N pc lv (.int v :: .ref r :: st) F A R G := by
  refine wp_putV (F' := u2 F r j v) (R' := R) (G' := G) hF hN hK hr (fun b x => by simp [mm_fv, ht, mm_v, u2_row, va_up_self]) (fun b x ty h => by rw [h.1 ht]; exact ⟨rfl, rfl⟩) (fun b k hk => ?_) (fun i hi => u2_ne hi) (fun _ _ => rfl) (fun _ _ => rfl) hd kk
  simp [mm_fv, u2_row, va_up_ne _ _ hk]
theorem wp_putL {idx ci j r : Nat} {v : Int64} (hF : mm_FL Y.1.cls idx ci j) (hN : mm_FN ci j) (ht : mm_ft ci j = 2) (hs : ∀ k, k ≠ j → mm_ft ci k < 2) (hK : mm_K r = ci) (hr : r < N) (hd : decode Y.2.1 pc = .ok (.putfield idx, 3)) (kk : WP Y X N (pc + 3) lv st F A R (va_up G r v)) : WP Y X N pc lv (.long v :: .ref r :: st) F A R G := by
  refine wp_putV (F' := F) (R' := R) (G' := va_up G r v) hF hN hK hr (fun b x => by simp [mm_fv, ht, mm_v, va_up_self]) (fun b x ty h => by rw [h.2.2 ht]; exact ⟨rfl, rfl⟩) (fun b k hk => ?_) (fun _ _ => rfl) (fun _ _ => rfl) (fun i hi => va_up_ne _ _ hi) hd kk
  have h := hs k hk
  rcases (show mm_ft ci k = 0 ∨ mm_ft ci k = 1 by omega) with h | h <;> simp [mm_fv, h]
theorem mm_fits_ref {ty : FieldType} {a : Nat} (h : (∃ t, ty = .array t) ∨ ∃ t, ty = .object t) : narrow ty (.ref a) = .ref a ∧ fits ty (.ref a) = true := by
  rcases h with ⟨t, rfl⟩ | ⟨t, rfl⟩ <;> exact ⟨rfl, rfl⟩
theorem wp_putR {idx ci j r q : Nat} (hF : mm_FL Y.1.cls idx ci j) (hN : mm_FN ci j) (ht : mm_ft ci j = 1) (hK : mm_K r = ci) (hr : r < N) (hd : decode Y.2.1 pc = .ok (.putfield idx, 3)) (kk : WP Y X N (pc + 3) lv st F A (u2 R r j (some q)) G) : WP Y X N pc lv (.ref q :: .ref r :: st) F A R G := by
  refine wp_putV (F' := F) (R' := u2 R r j (some q)) (G' := G) hF hN hK hr (fun b x => by simp [mm_fv, ht, mm_v, u2_row, va_up_self, va_rf]) (fun b x ty h => mm_fits_ref (h.2.1 ht)) (fun b k hk => ?_) (fun _ _ => rfl) (fun i hi => u2_ne hi) (fun _ _ => rfl) hd kk
  simp [mm_fv, u2_row, va_up_ne _ _ hk]
/-- a final field, in the constructor of its class -/
theorem wp_putRF {idx ci j r q : Nat} (hF : mm_FL Y.1.cls idx ci j) (hfin : ∀ z, vwCl[ci]? = some z → (z.2.1 j).2.2.2 = true) (hy : Y.1.name = "<init>") (ht : mm_ft ci j = 1) (hK : mm_K r = ci) (hr : r < N) (hd : decode Y.2.1 pc = .ok (.putfield idx, 3)) (kk : WP Y X N (pc + 3) lv st F A (u2 R r j (some q)) G) : WP Y X N pc lv (.ref q :: .ref r :: st) F A R G := by
  obtain ⟨⟨p, l, e, Rm, s⟩, ⟨m, args, below, meth, c⟩, ⟨D, cy, b, xx⟩, k, N0, N1, Q⟩ := X
  intro ok hN0 H locs ls hl hP hS
  obtain ⟨o1, o2, o3, o4, o5, o6, o7, o8, o9, o10, o11, o12⟩ := id ok
  obtain ⟨C, T, n, ty, h1, h2, h3, h4, h5, h6, h7, h8, h9, h10⟩ := hF
  obtain ⟨n1, n2⟩ := mm_fits_ref (a := b + q) (h10.2.1 ht)
  refine va_putF (D := D) (ci := ci) (v := .ref (b + q)) (ty := ty j) (C := C) (T := T) (N := n) (A := fun q => b ≤ q) o1 o2 o7 h5 ty h6 h7 o6 o8 hP mm_D hS r (by rw [mm_wl_get hr, mm_cell_o hK h4]) h1 j h2 (o7 _ h8) (fun _ h => h) (hfin _ h1) (o11.trans hy) (h9 (hfin _ h1)) (h6 j h2) n1 n2 (by rw [mm_fs_len]; omega) hd (fun H1 locs1 hP1 _ hS1 => ?_)
  rw [mm_set (F' := F) (A' := A) (R' := u2 R r j (some q)) (G' := G) hr (by rw [mm_cell_o hK h4, mm_fs_set (F' := F) (R' := u2 R r j (some q)) (G' := G) (by omega) (by simp [mm_fv, ht, u2_row, va_up_self, va_rf]) (fun k hk => by simp [mm_fv, u2_row, va_up_ne _ _ hk])]) (fun i hi => mm_cell_congr rfl rfl (u2_ne hi) rfl)] at hP1
  exact kk ok hN0 H1 locs1 ls hl hP1 hS1
theorem mm_nI_in {i : Int32} {j n : Nat} (hi : i = nI j) (hj : j < n) (hn : n < 2 ^ 31) : vp_in i n ∧ i.toNatClampNeg = j := by
  subst hi; exact ⟨vp_in_nI hj hn, nI_clamp (by omega)⟩
theorem mm_len_lt : ∀ r, mm_len r < 2 ^ 31 := by
  intro r
  have h : ∀ n ∈ mm_Ll, n < 2 ^ 31 := by decide +kernel
  unfold mm_len
  rw [List.getD_eq_getElem?_getD]
  cases hr : mm_Ll[r]? with
  | none => decide
  | some n => exact h n (List.mem_of_getElem? hr)
theorem wp_iald {r : Nat} {i : Int32} (j : Nat) (hi : i = nI j) (hK : mm_K r = 11) (hr : r < N) (hj : j < mm_len r) (hd : decode Y.2.1 pc = .ok (.iaload, 1)) (kk : WP Y X N (pc + 1) lv (.int (A r j) :: st) F A R G) : WP Y X N pc lv (.int i :: .ref r :: st) F A R G := by
  obtain ⟨⟨p, l, e, Rm, s⟩, ⟨m, args, below, meth, c⟩, ⟨D, cy, b, xx⟩, k, N0, N1, Q⟩ := X
  intro ok hN0 H locs ls hl hP hS
  obtain ⟨o1, o2, o3, o4, o5, o6, o7, o8, o9⟩ := id ok
  obtain ⟨h1, h2⟩ := mm_nI_in hi hj (mm_len_lt r)
  refine va_iald o1 o2 o8 hP r 0 (by rw [mm_wl_get hr, mm_cell_i hK]) rfl h1 hd ?_
  rw [h2]
  exact kk ok hN0 H locs ls hl hP hS
theorem wp_zald {r : Nat} {i : Int32} (j : Nat) (hi : i = nI j) (hK : mm_K r = 12) (hr : r < N) (hj : j < mm_len r) (hd : decode Y.2.1 pc = .ok (.baload, 1)) (kk : WP Y X N (pc + 1) lv (.int (A r j) :: st) F A R G) : WP Y X N pc lv (.int i :: .ref r :: st) F A R G := by
  obtain ⟨⟨p, l, e, Rm, s⟩, ⟨m, args, below, meth, c⟩, ⟨D, cy, b, xx⟩, k, N0, N1, Q⟩ := X
  intro ok hN0 H locs ls hl hP hS
  obtain ⟨o1, o2, o3, o4, o5, o6, o7, o8, o9⟩ := id ok
  obtain ⟨h1, h2⟩ := mm_nI_in hi hj (mm_len_lt r)
  refine va_zald o1 o2 o8 hP r 1 (by rw [mm_wl_get hr, mm_cell_z hK]) rfl h1 hd ?_
  rw [h2]
  exact kk ok hN0 H locs ls hl hP hS
theorem wp_aald {r q : Nat} {i : Int32} (j : Nat) (hi : i = nI j) (hK : mm_K r = 13) (hr : r < N) (hj : j < mm_len r) (hq : R r j = some q) (hd : decode Y.2.1 pc = .ok (.aaload, 1)) (kk : WP Y X N (pc + 1) lv (.ref q :: st) F A R G) : WP Y X N pc lv (.int i :: .ref r :: st) F A R G := by
  obtain ⟨⟨p, l, e, Rm, s⟩, ⟨m, args, below, meth, c⟩, ⟨D, cy, b, xx⟩, k, N0, N1, Q⟩ := X
  intro ok hN0 H locs ls hl hP hS
  obtain ⟨o1, o2, o3, o4, o5, o6, o7, o8, o9⟩ := id ok
  obtain ⟨h1, h2⟩ := mm_nI_in hi hj (mm_len_lt r)
  refine va_aldq (C := "CoconutShies$Stand") o1 o2 o8 hP r 2 (by rw [mm_wl_get hr, mm_cell_r hK]) rfl h1 hd ?_
  rw [h2, hq]
  exact kk ok hN0 H locs ls hl hP hS
theorem wp_iast {r : Nat} {i v : Int32} (j : Nat) (hi : i = nI j) (hK : mm_K r = 11) (hr : r < N) (hj : j < mm_len r) (hd : decode Y.2.1 pc = .ok (.iastore, 1)) (kk : WP Y X N (pc + 1) lv st F (u2 A r j v) R G) : WP Y X N pc lv (.int v :: .int i :: .ref r :: st) F A R G := by
  obtain ⟨⟨p, l, e, Rm, s⟩, ⟨m, args, below, meth, c⟩, ⟨D, cy, b, xx⟩, k, N0, N1, Q⟩ := X
  intro ok hN0 H locs ls hl hP hS
  obtain ⟨o1, o2, o3, o4, o5, o6, o7, o8, o9⟩ := id ok
  obtain ⟨h1, h2⟩ := mm_nI_in hi hj (mm_len_lt r)
  refine va_iast (A := fun q => b ≤ q) o1 o2 o8 hP mm_D hS r 0 (by rw [mm_wl_get hr, mm_cell_i hK]) rfl h1 hd (fun H1 locs1 hP1 _ hS1 => ?_)
  rw [h2, mm_set (F' := F) (A' := u2 A r j v) (R' := R) (G' := G) hr (by rw [mm_cell_i hK, u2_row]; rfl) (fun i hi => mm_cell_congr rfl (u2_ne hi) rfl rfl)] at hP1
  exact kk ok hN0 H1 locs1 ls hl hP1 hS1
theorem wp_zast {r : Nat} {i v : Int32} (j : Nat) (hi : i = nI j) (hv : vp_nar .boolean v = v) (hK : mm_K r = 12) (hr : r < N) (hj : j < mm_len r) (hd : decode Y.2.1 pc = .ok (.bastore, 1)) (kk : WP Y X N (pc + 1) lv st F (u2 A r j v) R G) : WP Y X N pc lv (.int v :: .int i :: .ref r :: st) F A R G := by
  obtain ⟨⟨p, l, e, Rm, s⟩, ⟨m, args, below, meth, c⟩, ⟨D, cy, b, xx⟩, k, N0, N1, Q⟩ := X
  intro ok hN0 H locs ls hl hP hS
  obtain ⟨o1, o2, o3, o4, o5, o6, o7, o8, o9⟩ := id ok
  obtain ⟨h1, h2⟩ := mm_nI_in hi hj (mm_len_lt r)
  refine va_zast (A := fun q => b ≤ q) o1 o2 o8 hP mm_D hS r 1 (by rw [mm_wl_get hr, mm_cell_z hK]) rfl h1 hd (fun H1 locs1 hP1 _ hS1 => ?_)
  rw [hv, h2, mm_set (F' := F) (A' := u2 A r j v) (R' := R) (G' := G) hr (by rw [mm_cell_z hK, u2_row]; rfl) (fun i hi => mm_cell_congr rfl (u2_ne hi) rfl rfl)] at hP1
  exact kk ok hN0 H1 locs1 ls hl hP1 hS1
theorem wp_aast {r q : Nat} {i : Int32} (j : Nat) (hi : i = nI j) (hK : mm_K r = 13) (hr : r < N) (hj : j < mm_len r) (hq : mm_K q = 7) (hqN : q < N) (hd : decode Y.2.1 pc = .ok (.aastore, 1)) (kk : WP Y X N (pc + 1) lv st F A (u2 R r j (some q)) G) : WP Y X N pc lv (.ref q :: .int i :: .ref r :: st) F A R G := by
  obtain ⟨⟨p, l, e, Rm, s⟩, ⟨m, args, below, meth, c⟩, ⟨D, cy, b, xx⟩, k, N0, N1, Q⟩ := X
  intro ok hN0 H locs ls hl hP hS
  obtain ⟨o1, o2, o3, o4, o5, o6, o7, o8, o9⟩ := id ok
  obtain ⟨h1, h2⟩ := mm_nI_in hi hj (mm_len_lt r)
  refine va_astq (A := fun q => b ≤ q) (r := (RX7, TX7, 7)) (v := b + q) (vs := mm_fs b F R G q 7) o1 o2 o8 hP mm_D hS r 2 q 7 (by rw [mm_wl_get hr, mm_cell_r hK]) rfl (by rw [mm_wl_get hqN, mm_cell_o hq (by decide)]) rfl h1 hd (fun H1 locs1 hP1 _ hS1 => ?_)
  rw [h2, mm_set (F' := F) (A' := A) (R' := u2 R r j (some q)) (G' := G) hr (by
    rw [mm_cell_r hK, u2_row]
    congr 7
    funext i
    by_cases hij : i = j
    · subst hij; simp [va_up]
    · simp [va_up, hij]) (fun i hi => mm_cell_congr rfl rfl (u2_ne hi) rfl)] at hP1
  exact kk ok hN0 H1 locs1 ls hl hP1 hS1
theorem wp_alen {r : Nat} {v : Int32} (hK : mm_K r = 11 ∨ mm_K r = 12 ∨ mm_K r = 13) (hr : r < N) (hv : nI (mm_len r) = v) (hd : decode Y.2.1 pc = .ok (.arraylength, 1)) (kk : WP Y X N (pc + 1) lv (.int v :: st) F A R G) : WP Y X N pc lv (.ref r :: st) F A R G := by
  obtain ⟨⟨p, l, e, Rm, s⟩, ⟨m, args, below, meth, c⟩, ⟨D, cy, b, xx⟩, k, N0, N1, Q⟩ := X
  intro ok hN0 H locs ls hl hP hS
  obtain ⟨o1, o2, o3, o4, o5, o6, o7, o8, o9⟩ := id ok
  rcases hK with hK | hK | hK
  · exact va_alen (x := (mm_len r, .inl (A r))) o1 o2 o8 hP r 0 (by rw [mm_wl_get hr, mm_cell_i hK]) rfl hv hd (kk ok hN0 H locs ls hl hP hS)
  · exact va_alen (x := (mm_len r, .inl (A r))) o1 o2 o8 hP r 1 (by rw [mm_wl_get hr, mm_cell_z hK]) rfl hv hd (kk ok hN0 H locs ls hl hP hS)
  · exact va_alen (x := (mm_len r, .inr (.inr (.inr (.inr (fun i => (R r i).map (b + ·))))))) o1 o2 o8 hP r 2 (by rw [mm_wl_get hr, mm_cell_r hK]) rfl hv hd (kk ok hN0 H locs ls hl hP hS)

end MMR
end
section
section MMC
variable {Y : mmY} {X : mmX} {N pc : Nat} {lv : List (Nat × Value)} {st : List Value} {F A : mmF} {R : mmR} {G : mmG} {l : Launch} {k N0 N1 : Nat} {post : mmP}
theorem mm_ret_ok {D : va_G} {cy : Nat → ClassId} {b : Nat} {x : Nat → Nat} {s : State} {H : Heap} {locs : List Loc} {args : Array Value} {v : Option Value} (h : post v F A R G) (hP : va_P D vwCl (mm_wl cy b N F A R G) H) (hS : va_S (fun q => b ≤ q) s.heap H locs) : ∀ t : State, t.heap = H → s.WarmedH t.vm → mm_Q D cy b x N post args s (.returned (v.map (mm_v b x))) t :=
  fun t ht _ => ⟨⟨v, F, A, R, G, rfl, h, by rw [ht]; exact hP⟩, hS.F ht⟩
theorem wp_iret {v : Int32} {ty : FieldType} (hC : mm_C l k N0 N post X) (hY : Y.2.2.2 = some ty) (hn : narrow ty (.int v) = .int v) (hd : decode Y.2.1 pc = .ok (.ireturn, 1)) (h : post (some (.int v)) F A R G) : WP Y X N pc lv [.int v] F A R G := by
  obtain ⟨⟨p, l, e, Rm, s⟩, ⟨m, args, below, meth, c⟩, ⟨D, cy, b, xx⟩, k, N0, N1, Q⟩ := X
  obtain ⟨rfl, rfl, rfl, rfl, rfl⟩ := hC
  intro ok hN0 H locs ls hl hP hS
  obtain ⟨o1, o2, o3, o4, o5, o6, o7, o8, o9⟩ := id ok
  exact W.zret (v := v) o1 o2 (o4.trans hY) hn (mm_ret_ok (v := some (.int v)) h hP hS) hS.2.2 hd o5
theorem wp_lret {v : Int64} (hC : mm_C l k N0 N post X) (hY : Y.2.2.2 = some .long) (hd : decode Y.2.1 pc = .ok (.lreturn, 1)) (h : post (some (.long v)) F A R G) : WP Y X N pc lv [.long v] F A R G := by
  obtain ⟨⟨p, l, e, Rm, s⟩, ⟨m, args, below, meth, c⟩, ⟨D, cy, b, xx⟩, k, N0, N1, Q⟩ := X
  obtain ⟨rfl, rfl, rfl, rfl, rfl⟩ := hC
  intro ok hN0 H locs ls hl hP hS
  obtain ⟨o1, o2, o3, o4, o5, o6, o7, o8, o9⟩ := id ok
  exact W.lret (v := v) o1 o2 (o4.trans hY) (mm_ret_ok (v := some (.long v)) h hP hS) hS.2.2 hd o5
theorem wp_vret (hC : mm_C l k N0 N post X) (hY : Y.2.2.2 = none) (hd : decode Y.2.1 pc = .ok (.return_, 1)) (h : post none F A R G) : WP Y X N pc lv [] F A R G := by
  obtain ⟨⟨p, l, e, Rm, s⟩, ⟨m, args, below, meth, c⟩, ⟨D, cy, b, xx⟩, k, N0, N1, Q⟩ := X
  obtain ⟨rfl, rfl, rfl, rfl, rfl⟩ := hC
  intro ok hN0 H locs ls hl hP hS
  obtain ⟨o1, o2, o3, o4, o5, o6, o7, o8, o9⟩ := id ok
  exact W.vret o1 o2 (o4.trans hY) (mm_ret_ok (v := none) h hP hS) hS.2.2 hd o5
theorem wp_aret {r : Nat} {t : FieldType} (hC : mm_C l k N0 N post X) (hY : Y.2.2.2 = some (.array t)) (hd : decode Y.2.1 pc = .ok (.areturn, 1)) (h : post (some (.ref r)) F A R G) : WP Y X N pc lv [.ref r] F A R G := by
  obtain ⟨⟨p, l, e, Rm, s⟩, ⟨m, args, below, meth, c⟩, ⟨D, cy, b, xx⟩, k, N0, N1, Q⟩ := X
  obtain ⟨rfl, rfl, rfl, rfl, rfl⟩ := hC
  intro ok hN0 H locs ls hl hP hS
  obtain ⟨o1, o2, o3, o4, o5, o6, o7, o8, o9⟩ := id ok
  exact W.aret (v := .ref (b + r)) o1 o2 (o4.trans hY) (Or.inr ⟨t, rfl⟩) (Or.inr ⟨_, rfl⟩) (mm_ret_ok (v := some (.ref r)) h hP hS) hS.2.2 hd o5
/-- the heap is just the roles' -/
theorem mm_size {p : Program} {l : Launch} {e : Env} {Rm : Room} {s : State} {m : MethodId} {args : Array Value} {below : List Frame} {meth : Method} {c : Code} {T : State} {H : Heap} {locs : List Loc} {n b N0 N : Nat} {D : va_G} {cy : Nat → ClassId} (hT : T.heap = H) (Z : Stand p l e Rm s m args below meth c T locs (N - N0) n) (h0 : s.heap.size = b + N0) (hN : N0 ≤ N) (hP : va_P D vwCl (mm_wl cy b N F A R G) H) (hS : va_S (fun q => b ≤ q) s.heap H locs) : H.size = b + N := by
  have h1 := Z.heapSize
  rw [hT, h0] at h1
  cases N with
  | zero => have := hS.1; omega
  | succ N =>
    have h2 := (hP N _ (mm_wl_get (Nat.lt_succ_self N))).lt
    have h3 : b + N < H.size := h2
    omega
theorem mm_blind {D : va_G} {cy : Nat → ClassId} {b : Nat} {x : Nat → Nat} {av : List Value} : FrameBlind (va_Pc av (mm_B D cy b x N F A R G)) := fun a U g mk ⟨q0, q1, q2, q3, q4, q5⟩ => ⟨q0, q1, q2, va_K.moved (u := U) (U := U.calling g mk a) (Vm.Alike.refl U.vm) q3, q4.same rfl, q5.moved (u := U) (U := U.calling g mk a) (Vm.Alike.refl U.vm)⟩
theorem mm_preU {D : va_G} {cy : Nat → ClassId} {b : Nat} {x : Nat → Nat} {s U : State} {H : Heap} {locs : List Loc} (hU : U.heap = H) (hW : s.WarmedH U.vm) (hsz : H.size = b + N) (hP : va_P D vwCl (mm_wl cy b N F A R G) H) (hK : va_K D vwCl (mm_tys cy) s) (hNW : mm_NW s) (hSF : mm_SF b x s s.heap) (hS : va_S (fun q => b ≤ q) s.heap H locs) : mm_B D cy b x N F A R G U :=
  ⟨by rw [hU]; exact hsz, by rw [hU]; exact hP, va_K.moved hW.alike hK, hNW.warm hW, (hSF.moved hW.alike).kept (fun a h1 h2 => by rw [hU]; exact hS.2.1 a h1 h2)⟩
/-- behind a call -/
theorem mm_behind {p : Program} {l : Launch} {e : Env} {Rm : Room} {s : State} {m : MethodId} {args : Array Value} {below : List Frame} {meth : Method} {c : Code} {H : Heap} {locs : List Loc} {cells slots : Nat} {Q : State → Prop} {D : va_G} {cy : Nat → ClassId} {b N' : Nat} {x : Nat → Nat} {ls : Array Slot} {rest st0 : List Value} {a : Array Value} {mc ms : Nat}
    (hr : va_Run p l e Rm s m args below meth c H locs cells slots mc ms (F0 m pc ls st0) rest (mm_Q D cy b x N' post a) (fun q => b ≤ q)) (hS : va_S (fun q => b ≤ q) s.heap H locs)
    (kk : ∀ (v : Option Value) (F1 A1 : mmF) (R1 : mmR) (G1 : mmG) (H1 : Heap) (locs1 : List Loc), post v F1 A1 R1 G1 → va_P D vwCl (mm_wl cy b N' F1 A1 R1 G1) H1 → va_S (fun q => b ≤ q) s.heap H1 locs1 → W p l e Rm s m args below meth c H1 locs1 (cells + mc) (slots + ms) Q (F0 m (pc + 3) ls ((v.map (mm_v b x)).toList ++ rest))) : W p l e Rm s m args below meth c H locs cells slots Q (F0 m pc ls st0) := by
  intro T hT Z
  obtain ⟨v, st₀, t, T', L, h0, Z', hL, e1, e2, ⟨⟨w, F1, A1, R1, G1, hv, hp, hP1⟩, hz, hk⟩, sg⟩ := hr T hT Z
  cases hv
  rw [h0] at hz hk
  obtain ⟨t2, a1, b1⟩ := kk w F1 A1 R1 G1 T'.heap (locs ++ L) hp (by rw [e1]; exact hP1)
    ⟨Nat.le_trans hS.1 (by rw [e1]; exact hz), fun q h1 h2 => by rw [e1, hk q (Nat.lt_of_lt_of_le h1 hS.1) h2]; exact hS.2.1 q h1 h2, fun q hq => by
      rcases List.mem_append.mp hq with h | h
      · exact hS.2.2 q h
      · exact hL q h⟩ T' rfl Z'
  exact ⟨t2, sg t2 a1, b1⟩
theorem mm_sl_mono : ∀ {a b : Nat}, a ≤ b → mm_sl a ≤ mm_sl b := by
  intro a b h
  induction h with
  | refl => exact Nat.le_refl _
  | step _ ih => exact Nat.le_trans ih (Nat.le_add_right _ _)
theorem mm_good {c : Cond} (hc : c ∈ mm_big) : GoodIn mm_big (c :: mm_big) := by
  intro w hw
  have h : w ∈ mm_big := by
    rcases List.mem_cons.mp hw with rfl | h
    · exact hc
    · exact h
  exact ⟨h, good_of_word (List.mem_filter.mp h).2⟩
/-- a call's site: what is owed of the tables for the callee Z called by the constant pool's entry idx; n: how many arguments -/
def mm_Ln (Z : mmY) (n : Nat) : Prop := Cond.code Z.1 Z.2.1 Z.2.2.1 Z.2.2.2 ∈ mm_big ∧ Cond.initialized Z.1.cls ∈ mm_big ∧ Z.1.cls ≠ "java/lang/invoke/MethodHandle" ∧ Z.1.cls ≠ "java/lang/invoke/VarHandle" ∧ (parseMethodDescriptor Z.1.desc).map (fun d => d.parameters.length) = some n ∧ Z.2.2.1 ≤ 40
def mm_LS (own : String) (idx : Nat) (Z : mmY) (n : Nat) : Prop := mm_Ln Z n ∧ Cond.methodLink own idx Z.1 ∈ mm_big ∧ Cond.static Z.1 ∈ mm_big
def mm_LV (own : String) (idx : Nat) (Z : mmY) (n : Nat) : Prop := mm_Ln Z n ∧ Cond.methodLink own idx Z.1 ∈ mm_big ∧ Cond.instanceMethod Z.1 ∈ mm_big ∧ Cond.selects Z.1.cls Z.1 Z.1 ∈ mm_big
def mm_LI (own : String) (idx : Nat) (Z : mmY) (n : Nat) : Prop := mm_Ln Z n ∧ Cond.methodLink own idx Z.1 ∈ mm_big ∧ Cond.instanceMethod Z.1 ∈ mm_big ∧ Z.1.name = "<init>"
def mm_LSN (own : String) (idx : Nat) (Z : mmY) (n : Nat) : Prop := mm_Ln Z n ∧ (own, idx, Z.1) ∈ mm_nest ∧ Cond.static Z.1 ∈ mm_big
def mm_LIN (own : String) (idx : Nat) (Z : mmY) (n : Nat) : Prop := mm_Ln Z n ∧ (own, idx, Z.1) ∈ mm_nest ∧ Cond.instanceMethod Z.1 ∈ mm_big ∧ Z.1.name = "<init>"
theorem mm_cat {b : Nat} {x : Nat → Nat} (st : List Value) : ((st.map (mm_v b x)).map fun v => v.category).sum = (st.map fun v => v.category).sum := by
  induction st with
  | nil => rfl
  | cons v st ih => simp only [List.map_cons, List.sum_cons, ih, mm_v_cat]
theorem mm_tl {b : Nat} {x : Nat → Nat} (v : Option Value) (st : List Value) : (v.map (mm_v b x)).toList ++ st.map (mm_v b x) = (v.toList ++ st).map (mm_v b x) := by cases v <;> rfl
theorem mm_rooms {k k' N N' N0 N1 maxL : Nat} {Rm : Room} (hR : k ≤ Rm.frames ∧ 64 * k ≤ Rm.locals ∧ N1 - N0 ≤ Rm.cells ∧ mm_sl N1 - mm_sl N0 ≤ Rm.slots) (hk : k' + 1 ≤ k) (hm : maxL ≤ 40) (h0 : N0 ≤ N) (h1 : N ≤ N') (h2 : N' ≤ N1) : ((mm_rm k' N N').frames + 1 ≤ Rm.frames ∧ 8 + (maxL + 11) + (mm_rm k' N N').locals ≤ Rm.locals) ∧ ((N - N0) + (N' - N) ≤ Rm.cells ∧ (mm_sl N - mm_sl N0) + (mm_sl N' - mm_sl N) ≤ Rm.slots) ∧ ((N - N0) + (N' - N) = N' - N0 ∧ (mm_sl N - mm_sl N0) + (mm_sl N' - mm_sl N) = mm_sl N' - mm_sl N0) := by
  have a1 := mm_sl_mono h0
  have a2 := mm_sl_mono h1
  have a3 := mm_sl_mono h2
  obtain ⟨r1, r2, r3, r4⟩ := hR
  refine ⟨⟨?_, ?_⟩, ⟨?_, ?_⟩, ?_, ?_⟩
  · show k' + 1 ≤ _; omega
  · show 8 + (maxL + 11) + 64 * k' ≤ _; omega
  · omega
  · omega
  · omega
  · omega
/-- what a call gives, whatever its kind -/
def mm_Site (Y : mmY) (X : mmX) (N pc : Nat) (lv : List (Nat × Value)) (st0 st : List Value) (Z : mmY) (av : List Value) (l : Launch) (k N0 N1 : Nat) (F A : mmF) (R : mmR) (G : mmG) : Prop :=
  ∀ {k' N' : Nat} {pst : mmP}, Meets l Z k' N N' av F A R G pst → k' + 1 ≤ k → N ≤ N' → N' ≤ N1 → (∀ v F1 A1 R1 G1, pst v F1 A1 R1 G1 → WP Y X N' (pc + 3) lv (v.toList ++ st) F1 A1 R1 G1) → WP Y X N pc lv st0 F A R G
theorem mm_siteS {idx n : Nat} {Z : mmY} {av : List Value} {st0 : List Value} (hC : mm_C l k N0 N1 post X) (hL : mm_LS Y.1.cls idx Z n) (hn : av.length = n) (hs : st0 = av.reverse ++ st) (hc : (st.map fun v => v.category).sum ≤ 8) (hd : decode Y.2.1 pc = .ok (.invokestatic idx, 3)) : mm_Site Y X N pc lv st0 st Z av l k N0 N1 F A R G := by
  intro k' N' pst hM hk hN1 hN2 kk
  obtain ⟨⟨p, l, e, Rm, s⟩, ⟨m, args, below, meth, c⟩, ⟨D, cy, b, xx⟩, k, N0, N1, Q⟩ := X
  obtain ⟨rfl, rfl, rfl, rfl, rfl⟩ := hC
  intro ok hN0 H locs ls hl hP hS
  obtain ⟨o1, o2, o3, o4, o5, o6, o7, o8, o9, o10, o11, o12, o13⟩ := id ok
  obtain ⟨⟨l1, l2, l3, l4, l5, l6⟩, l7, l8⟩ := hL
  obtain ⟨r1, r2, r3, r4⟩ := mm_rooms o13 hk l6 hN0 hN1 hN2
  intro T hT U
  have hsz := mm_size hT U o12 hN0 hP hS
  have hG := mm_good l1
  have hcw : CallB Rm s args Y.1.cls idx Z.1 Z.2.1 Z.2.2.1 Z.2.2.2 (.code Z.1 Z.2.1 Z.2.2.1 Z.2.2.2 :: mm_big) (mm_rm k' N N') (N' - N) (mm_sl N' - mm_sl N) n := callB_of n o7 hG rfl rfl rfl (o7 _ l2) (o7 _ l7) ⟨l3, l4, l5⟩ r1
  have hrun := va_runS (e := e) (below := below) (meth := meth) (locs := locs) (H := H) (g := F0 m pc ls (st0.map (mm_v b xx))) (rest := st.map (mm_v b xx)) (Ts := mm_big) ⟨o1, o2, o3, o6, o7⟩ (hM D cy b xx) ⟨hcw, o7 _ l8⟩ ⟨mm_blind, fun U hU hW => ⟨rfl, mm_preU hU hW hsz hP o8 o9 o10 hS⟩⟩ rfl (by simpa using hn) hl.1 (by rw [hs]; simp) (by show 2 * 0 + _ ≤ 8; rw [mm_cat]; omega) hd r2
  refine mm_behind (p := p) (l := l) (e := e) (below := below) (meth := meth) hrun hS (fun v F1 A1 R1 G1 H1 locs1 h1 h2 h3 => ?_) T hT U
  rw [r3, r4, mm_tl]
  exact kk v F1 A1 R1 G1 h1 ok (Nat.le_trans hN0 hN1) H1 locs1 ls hl h2 h3
theorem mm_siteV {idx n r ci : Nat} {Z : mmY} {av : List Value} {st0 : List Value} (hC : mm_C l k N0 N1 post X) (hL : mm_LV Y.1.cls idx Z n) (hK : mm_K r = ci) (hr : r < N) (hci : ∃ q, vwCl[ci]? = some q ∧ q.1 = Z.1.cls) (hn : av.length = n) (hs : st0 = av.reverse ++ .ref r :: st) (hc : (st.map fun v => v.category).sum ≤ 8) (hd : decode Y.2.1 pc = .ok (.invokevirtual idx, 3)) : mm_Site Y X N pc lv st0 st Z (.ref r :: av) l k N0 N1 F A R G := by
  intro k' N' pst hM hk hN1 hN2 kk
  obtain ⟨⟨p, l, e, Rm, s⟩, ⟨m, args, below, meth, c⟩, ⟨D, cy, b, xx⟩, k, N0, N1, Q⟩ := X
  obtain ⟨rfl, rfl, rfl, rfl, rfl⟩ := hC
  intro ok hN0 H locs ls hl hP hS
  obtain ⟨o1, o2, o3, o4, o5, o6, o7, o8, o9, o10, o11, o12, o13⟩ := id ok
  obtain ⟨⟨l1, l2, l3, l4, l5, l6⟩, l7, l8, l9⟩ := hL
  obtain ⟨r1, r2, r3, r4⟩ := mm_rooms o13 hk l6 hN0 hN1 hN2
  obtain ⟨q, hq1, hq2⟩ := hci
  intro T hT U
  have hsz := mm_size hT U o12 hN0 hP hS
  have hG := mm_good l1
  have hlt : ci < 11 := by have := (List.getElem?_eq_some_iff.mp hq1).1; simpa using this
  have hcw : CallB Rm s args Y.1.cls idx Z.1 Z.2.1 Z.2.2.1 Z.2.2.2 (.code Z.1 Z.2.1 Z.2.2.1 Z.2.2.2 :: mm_big) (mm_rm k' N N') (N' - N) (mm_sl N' - mm_sl N) n := callB_of n o7 hG rfl rfl rfl (o7 _ l2) (o7 _ l7) ⟨l3, l4, l5⟩ r1
  have hrv := va_recv o8 hP hq1 (q0 := r) (by rw [mm_wl_get hr, mm_cell_o hK hlt])
  rw [hq2] at hrv
  have hrun := va_runV (e := e) (below := below) (meth := meth) (locs := locs) (H := H) (b := b + r) (C := Z.1.cls) (g := F0 m pc ls (st0.map (mm_v b xx))) (rest := st.map (mm_v b xx)) (As := av.map (mm_v b xx)) (Ts := mm_big) ⟨o1, o2, o3, o6, o7⟩ (hM D cy b xx) ⟨hcw, o7 _ l8, o7 _ l9⟩ ⟨mm_blind, hrv, fun U hU hW => ⟨rfl, mm_preU hU hW hsz hP o8 o9 o10 hS⟩⟩ rfl (by simpa using hn) hl.1 (by rw [hs]; simp [mm_v]) (by show 2 * 0 + _ ≤ 8; rw [mm_cat]; omega) hd r2
  refine mm_behind (p := p) (l := l) (e := e) (below := below) (meth := meth) hrun hS (fun v F1 A1 R1 G1 H1 locs1 h1 h2 h3 => ?_) T hT U
  rw [r3, r4, mm_tl]
  exact kk v F1 A1 R1 G1 h1 ok (Nat.le_trans hN0 hN1) H1 locs1 ls hl h2 h3
theorem mm_siteI {idx n r : Nat} {Z : mmY} {av : List Value} {st0 : List Value} (hC : mm_C l k N0 N1 post X) (hZ : Z.2.2.2 = none) (hL : mm_LI Y.1.cls idx Z n) (hn : av.length = n) (hs : st0 = av.reverse ++ .ref r :: st) (hc : (st.map fun v => v.category).sum ≤ 8) (hd : decode Y.2.1 pc = .ok (.invokespecial idx, 3)) : mm_Site Y X N pc lv st0 st Z (.ref r :: av) l k N0 N1 F A R G := by
  intro k' N' pst hM hk hN1 hN2 kk
  obtain ⟨⟨p, l, e, Rm, s⟩, ⟨m, args, below, meth, c⟩, ⟨D, cy, b, xx⟩, k, N0, N1, Q⟩ := X
  obtain ⟨rfl, rfl, rfl, rfl, rfl⟩ := hC
  intro ok hN0 H locs ls hl hP hS
  obtain ⟨o1, o2, o3, o4, o5, o6, o7, o8, o9, o10, o11, o12, o13⟩ := id ok
  obtain ⟨⟨l1, l2, l3, l4, l5, l6⟩, l7, l8, l9⟩ := hL
  obtain ⟨r1, r2, r3, r4⟩ := mm_rooms o13 hk l6 hN0 hN1 hN2
  intro T hT U
  have hsz := mm_size hT U o12 hN0 hP hS
  have hG := mm_good l1
  obtain ⟨y, cc, nL, ret⟩ := Z
  dsimp only at hZ
  subst hZ
  have hcw : CallB Rm s args Y.1.cls idx y cc nL none (.code y cc nL none :: mm_big) (mm_rm k' N N') (N' - N) (mm_sl N' - mm_sl N) n := callB_of n o7 hG rfl rfl rfl (o7 _ l2) (o7 _ l7) ⟨l3, l4, l5⟩ r1
  have hrun := va_runI (e := e) (below := below) (meth := meth) (locs := locs) (H := H) (b := b + r) (g := F0 m pc ls (st0.map (mm_v b xx))) (rest := st.map (mm_v b xx)) (As := av.map (mm_v b xx)) (Ts := mm_big) ⟨o1, o2, o3, o6, o7⟩ (hM D cy b xx) ⟨hcw, l9, o7 _ l8⟩ ⟨mm_blind, fun U hU hW => ⟨rfl, mm_preU hU hW hsz hP o8 o9 o10 hS⟩⟩ rfl (by simpa using hn) hl.1 (by rw [hs]; simp [mm_v]) (by show 2 * 0 + _ ≤ 8; rw [mm_cat]; omega) hd r2
  refine mm_behind (p := p) (l := l) (e := e) (below := below) (meth := meth) hrun hS (fun v F1 A1 R1 G1 H1 locs1 h1 h2 h3 => ?_) T hT U
  rw [r3, r4, mm_tl]
  exact kk v F1 A1 R1 G1 h1 ok (Nat.le_trans hN0 hN1) H1 locs1 ls hl h2 h3
theorem mm_siteSN {idx n : Nat} {Z : mmY} {av : List Value} {st0 : List Value} (hC : mm_C l k N0 N1 post X) (hL : mm_LSN Y.1.cls idx Z n) (hn : av.length = n) (hs : st0 = av.reverse ++ st) (hc : (st.map fun v => v.category).sum ≤ 8) (hd : decode Y.2.1 pc = .ok (.invokestatic idx, 3)) : mm_Site Y X N pc lv st0 st Z av l k N0 N1 F A R G := by
  intro k' N' pst hM hk hN1 hN2 kk
  obtain ⟨⟨p, l, e, Rm, s⟩, ⟨m, args, below, meth, c⟩, ⟨D, cy, b, xx⟩, k, N0, N1, Q⟩ := X
  obtain ⟨rfl, rfl, rfl, rfl, rfl⟩ := hC
  intro ok hN0 H locs ls hl hP hS
  obtain ⟨o1, o2, o3, o4, o5, o6, o7, o8, o9, o10, o11, o12, o13⟩ := id ok
  obtain ⟨⟨l1, l2, l3, l4, l5, l6⟩, l7, l8⟩ := hL
  obtain ⟨r1, r2, r3, r4⟩ := mm_rooms o13 hk l6 hN0 hN1 hN2
  intro T hT U
  have hsz := mm_size hT U o12 hN0 hP hS
  have hG := mm_good l1
  have hcw : va_CN Rm s args Y.1.cls idx Z.1 "CoconutShies" Z.2.1 Z.2.2.1 Z.2.2.2 (.code Z.1 Z.2.1 Z.2.2.1 Z.2.2.2 :: mm_big) (mm_rm k' N N') (N' - N) (mm_sl N' - mm_sl N) n := va_cnB n o7 hG rfl rfl rfl (o9.1 _ l7) (o7 _ l2) ⟨l3, l4, l5⟩ r1
  have hrun := va_runSN (e := e) (below := below) (meth := meth) (locs := locs) (H := H) (g := F0 m pc ls (st0.map (mm_v b xx))) (rest := st.map (mm_v b xx)) (Ts := mm_big) ⟨o1, o2, o3, o6, o7⟩ (hM D cy b xx) ⟨hcw, o7 _ l8, trivial⟩ ⟨mm_blind, fun U hU hW => ⟨rfl, mm_preU hU hW hsz hP o8 o9 o10 hS⟩⟩ rfl (by simpa using hn) hl.1 (by rw [hs]; simp) (by show 2 * 0 + _ ≤ 8; rw [mm_cat]; omega) hd r2
  refine mm_behind (p := p) (l := l) (e := e) (below := below) (meth := meth) hrun hS (fun v F1 A1 R1 G1 H1 locs1 h1 h2 h3 => ?_) T hT U
  rw [r3, r4, mm_tl]
  exact kk v F1 A1 R1 G1 h1 ok (Nat.le_trans hN0 hN1) H1 locs1 ls hl h2 h3
theorem mm_siteIN {idx n r : Nat} {Z : mmY} {av : List Value} {st0 : List Value} (hC : mm_C l k N0 N1 post X) (hZ : Z.2.2.2 = none) (hL : mm_LIN Y.1.cls idx Z n) (hn : av.length = n) (hs : st0 = av.reverse ++ .ref r :: st) (hc : (st.map fun v => v.category).sum ≤ 8) (hd : decode Y.2.1 pc = .ok (.invokespecial idx, 3)) : mm_Site Y X N pc lv st0 st Z (.ref r :: av) l k N0 N1 F A R G := by
  intro k' N' pst hM hk hN1 hN2 kk
  obtain ⟨⟨p, l, e, Rm, s⟩, ⟨m, args, below, meth, c⟩, ⟨D, cy, b, xx⟩, k, N0, N1, Q⟩ := X
  obtain ⟨rfl, rfl, rfl, rfl, rfl⟩ := hC
  intro ok hN0 H locs ls hl hP hS
  obtain ⟨o1, o2, o3, o4, o5, o6, o7, o8, o9, o10, o11, o12, o13⟩ := id ok
  obtain ⟨⟨l1, l2, l3, l4, l5, l6⟩, l7, l8, l9⟩ := hL
  obtain ⟨r1, r2, r3, r4⟩ := mm_rooms o13 hk l6 hN0 hN1 hN2
  intro T hT U
  have hsz := mm_size hT U o12 hN0 hP hS
  have hG := mm_good l1
  obtain ⟨y, cc, nL, ret⟩ := Z
  dsimp only at hZ
  subst hZ
  have hcw : va_CN Rm s args Y.1.cls idx y "CoconutShies" cc nL none (.code y cc nL none :: mm_big) (mm_rm k' N N') (N' - N) (mm_sl N' - mm_sl N) n := va_cnB n o7 hG rfl rfl rfl (o9.1 _ l7) (o7 _ l2) ⟨l3, l4, l5⟩ r1
  have hrun := va_runIN (e := e) (below := below) (meth := meth) (locs := locs) (H := H) (b := b + r) (g := F0 m pc ls (st0.map (mm_v b xx))) (rest := st.map (mm_v b xx)) (As := av.map (mm_v b xx)) (Ts := mm_big) ⟨o1, o2, o3, o6, o7⟩ (hM D cy b xx) ⟨hcw, l9, o7 _ l8⟩ ⟨mm_blind, fun U hU hW => ⟨rfl, mm_preU hU hW hsz hP o8 o9 o10 hS⟩⟩ rfl (by simpa using hn) hl.1 (by rw [hs]; simp [mm_v]) (by show 2 * 0 + _ ≤ 8; rw [mm_cat]; omega) hd r2
  refine mm_behind (p := p) (l := l) (e := e) (below := below) (meth := meth) hrun hS (fun v F1 A1 R1 G1 H1 locs1 h1 h2 h3 => ?_) T hT U
  rw [r3, r4, mm_tl]
  exact kk v F1 A1 R1 G1 h1 ok (Nat.le_trans hN0 hN1) H1 locs1 ls hl h2 h3
/-- the kinds of post: a number and nothing changed; a number; nothing -/
def pP (e : Int32) (F A : mmF) (R : mmR) (G : mmG) : mmP := fun v F1 A1 R1 G1 => v = some (.int e) ∧ F1 = F ∧ A1 = A ∧ R1 = R ∧ G1 = G
def pI (Pi : Int32 → mmF → mmF → mmR → mmG → Prop) : mmP := fun v F1 A1 R1 G1 => ∃ r, v = some (.int r) ∧ Pi r F1 A1 R1 G1
def pV (Pv : mmF → mmF → mmR → mmG → Prop) : mmP := fun v F1 A1 R1 G1 => v = none ∧ Pv F1 A1 R1 G1
theorem wp_callP {Z : mmY} {av st0 : List Value} {k' : Nat} {e : Int32} (hs : mm_Site Y X N pc lv st0 st Z av l k N0 N1 F A R G) (hM : Meets l Z k' N N av F A R G (pP e F A R G)) (hk : k' + 1 ≤ k) (hN : N ≤ N1) (kk : WP Y X N (pc + 3) lv (.int e :: st) F A R G) : WP Y X N pc lv st0 F A R G :=
  hs hM hk (Nat.le_refl _) hN (fun v F1 A1 R1 G1 ⟨h1, h2, h3, h4, h5⟩ => by subst h1 h2 h3 h4 h5; exact kk)
theorem wp_callI {Z : mmY} {av st0 : List Value} {k' : Nat} {Pi : Int32 → mmF → mmF → mmR → mmG → Prop} (hs : mm_Site Y X N pc lv st0 st Z av l k N0 N1 F A R G) (hM : Meets l Z k' N N av F A R G (pI Pi)) (hk : k' + 1 ≤ k) (hN : N ≤ N1) (kk : ∀ r F1 A1 R1 G1, Pi r F1 A1 R1 G1 → WP Y X N (pc + 3) lv (.int r :: st) F1 A1 R1 G1) : WP Y X N pc lv st0 F A R G :=
  hs hM hk (Nat.le_refl _) hN (fun v F1 A1 R1 G1 ⟨r, h1, h2⟩ => by subst h1; exact kk r F1 A1 R1 G1 h2)
theorem wp_callV {Z : mmY} {av st0 : List Value} {k' N' : Nat} {Pv : mmF → mmF → mmR → mmG → Prop} (hs : mm_Site Y X N pc lv st0 st Z av l k N0 N1 F A R G) (hM : Meets l Z k' N N' av F A R G (pV Pv)) (hk : k' + 1 ≤ k) (hN1 : N ≤ N') (hN : N' ≤ N1) (kk : ∀ F1 A1 R1 G1, Pv F1 A1 R1 G1 → WP Y X N' (pc + 3) lv st F1 A1 R1 G1) : WP Y X N pc lv st0 F A R G :=
  hs hM hk hN1 hN (fun v F1 A1 R1 G1 ⟨h1, h2⟩ => by subst h1; exact kk F1 A1 R1 G1 h2)
end MMC
end
section
section MMA
variable {Y : mmY} {X : mmX} {N pc : Nat} {lv : List (Nat × Value)} {st : List Value} {F A : mmF} {R : mmR} {G : mmG} {l : Launch} {k N0 N1 : Nat} {post : mmP}
theorem mm_wl_succ {cy : Nat → ClassId} {b N : Nat} {F A : mmF} {R : mmR} {G : mmG} : mm_wl cy b (N + 1) F A R G = mm_wl cy b N F A R G ++ [(b + N, mm_cell cy b F A R G N)] := by
  simp [mm_wl, List.range_succ]
/-- a new cell's address is the next role's -/
theorem mm_next {p : Program} {l : Launch} {e : Env} {Rm : Room} {s : State} {m : MethodId} {args : Array Value} {below : List Frame} {meth : Method} {c : Code} {T : State} {H1 : Heap} {locs : List Loc} {n b N0 N q : Nat} {D : va_G} {cy : Nat → ClassId} {E : va_E} (hT : T.heap = H1) (Z : Stand p l e Rm s m args below meth c T locs (N - N0 + 1) n) (h0 : s.heap.size = b + N0) (hN : N0 ≤ N) (hP : va_P D vwCl (mm_wl cy b N F A R G ++ [(q, E)]) H1) (hD : va_D (fun q => b ≤ q) (mm_wl cy b N F A R G ++ [(q, E)])) : q = b + N := by
  have h1 := Z.heapSize
  rw [hT, h0] at h1
  have hlen : (mm_wl cy b N F A R G).length = N := by simp [mm_wl]
  have hq : (mm_wl cy b N F A R G ++ [(q, E)])[N]? = some (q, E) := by
    rw [List.getElem?_append_right (by rw [hlen]; exact Nat.le_refl _), hlen, Nat.sub_self]; rfl
  have h2 : q < H1.size := (hP N _ hq).lt
  have h3 : b ≤ q := hD.2 N _ hq
  rcases Nat.lt_or_ge q (b + N) with h | h
  · have h4 : (mm_wl cy b N F A R G ++ [(q, E)])[q - b]? = some (b + (q - b), mm_cell cy b F A R G (q - b)) := by
      rw [List.getElem?_append_left (by rw [hlen]; omega), mm_wl_get (by omega)]
    have := hD.1 _ _ _ _ h4 hq (show b + (q - b) = q by omega)
    omega
  · omega
theorem mm_sl_succ {N n : Nat} (h : (if mm_K N < 11 then mm_nf (mm_K N) else mm_len N) = n) (h0 : N0 ≤ N) : mm_sl N - mm_sl N0 + n = mm_sl (N + 1) - mm_sl N0 := by
  have := mm_sl_mono h0
  show _ = mm_sl N + _ - _
  rw [h]; omega
theorem wp_new {idx ci n : Nat} {C : String} {T : u_T} {ty : Nat → FieldType} (hC : mm_C l k N0 N1 post X) (hN1 : N + 1 ≤ N1) (hK : mm_K N = ci) (hci : vwCl[ci]? = some (C, T, n)) (hnf : mm_nf ci = n) (hin : ∀ w ∈ u_ws C T n, w ∈ mm_big) (hty : ∀ j, j < n → parseFieldDescriptor (T j).2.2.1 = some (ty j)) (hcl : Cond.classLink Y.1.cls idx C ∈ mm_big) (hinst : Cond.instantiable C n ∈ mm_big) (hini : Cond.initialized C ∈ mm_big) (hfv : ∀ b j, j < n → defaultValue (ty j) = mm_fv b F R G N ci j) (hd : decode Y.2.1 pc = .ok (.new idx, 3)) (kk : WP Y X (N + 1) (pc + 3) lv (.ref N :: st) F A R G) : WP Y X N pc lv st F A R G := by
  obtain ⟨⟨p, l, e, Rm, s⟩, ⟨m, args, below, meth, c⟩, ⟨D, cy, b, xx⟩, k, N0, N1, Q⟩ := X
  obtain ⟨rfl, rfl, rfl, rfl, rfl⟩ := hC
  intro ok hN0 H locs ls hl hP hS
  obtain ⟨o1, o2, o3, o4, o5, o6, o7, o8, o9, o10, o11, o12, o13⟩ := id ok
  have hlt : ci < 11 := by have := (List.getElem?_eq_some_iff.mp hci).1; simpa using this
  have hs := mm_sl_succ (N0 := N0) (N := N) (n := n) (by rw [hK, if_pos hlt, hnf]) hN0
  have hmono := mm_sl_mono hN1
  refine va_new (D := D) (ci := ci) (fs := mm_fs b F R G N ci) (C := C) (T := T) (N := n) (A := fun q => b ≤ q) o1 o2 o7 hin ty hty o6 (o7 _ hcl) (o7 _ hinst) (o7 _ hini) o8 hP mm_D hS (fun q h => by show b ≤ q; omega) hci (fun j hj => by rw [hfv b j hj]; simp [vp_V, mm_fs, hnf, hj]) (by omega) (by omega) hd (fun q H1 hP1 hD1 hS1 => ?_)
  intro T1 hT1 Z1
  have hq := mm_next hT1 Z1 o12 hN0 hP1 hD1
  subst hq
  rw [← mm_cell_o (cy := cy) (A := A) hK hlt, ← mm_wl_succ] at hP1
  have K := kk ok (by omega) H1 locs ls hl hP1 hS1
  rw [hs, show N - N0 + 1 = N + 1 - N0 by omega] at Z1
  exact K T1 hT1 Z1
theorem wp_newI {a : ArrayType} {ty : FieldType} {i : Int32} {n t0 : Nat} (hC : mm_C l k N0 N1 post X) (hN1 : N + 1 ≤ N1) (hi : i = nI n) (hn : mm_len N = n) (hb : n * 4 ≤ 536870912) (hty : newarray.typeOf a = ty) (hT : (ty = .int ∧ mm_K N = 11) ∨ (ty = .boolean ∧ mm_K N = 12)) (hw : Cond.arrayClass ty ∈ mm_big) (hA : A N = fun _ => 0) (hd : decode Y.2.1 pc = .ok (.newarray a, 2)) (kk : WP Y X (N + 1) (pc + 2) lv (.ref N :: st) F A R G) : WP Y X N pc lv (.int i :: st) F A R G := by
  obtain ⟨⟨p, l, e, Rm, s⟩, ⟨m, args, below, meth, c⟩, ⟨D, cy, b, xx⟩, k, N0, N1, Q⟩ := X
  obtain ⟨rfl, rfl, rfl, rfl, rfl⟩ := hC
  intro ok hN0 H locs ls hl hP hS
  obtain ⟨o1, o2, o3, o4, o5, o6, o7, o8, o9, o10, o11, o12, o13⟩ := id ok
  have hs := mm_sl_succ (N0 := N0) (N := N) (n := n) (by rcases hT with ⟨-, h⟩ | ⟨-, h⟩ <;> rw [h] <;> simp [hn]) hN0
  have hmono := mm_sl_mono hN1
  have hlt := mm_len_lt N
  subst hi
  refine va_newa (A := fun q => b ≤ q) (ty := ty) (a0 := (n, .inl (fun _ => 0))) o1 o2 (by rw [hty]; exact o7 _ hw) hty o8 hP mm_D hS (fun q h => by show b ≤ q; omega) (fun cA => by rcases hT with ⟨h, -⟩ | ⟨h, -⟩ <;> rw [h] <;> rfl) (nI_pos (by omega)) (nI_clamp (by omega)) (by rcases hT with ⟨h, -⟩ | ⟨h, -⟩ <;> rw [h] <;> simp [componentBytes] <;> omega) (by omega) (by omega) hd (fun q cA H1 hK1 hP1 hD1 hS1 => ?_)
  intro T1 hT1 Z1
  have hq := mm_next hT1 Z1 o12 hN0 hP1 hD1
  subst hq
  have hcA : (Sum.inl (cA, n, Sum.inl (fun _ => 0)) : va_E) = mm_cell cy b F A R G N := by
    have h3 := (hK1.2 3 (cA, ty) rfl).2
    rcases hT with ⟨h, h1⟩ | ⟨h, h1⟩
    · subst h
      have h4 := (o8.2 0 (cy 0, .int) rfl).2
      rw [mm_cell_i h1, hn, hA, show cA = cy 0 from Option.some.inj ((show s.vm.findClass _ = some cA from h3).symm.trans h4)]
    · subst h
      have h4 := (o8.2 1 (cy 1, .boolean) rfl).2
      rw [mm_cell_z h1, hn, hA, show cA = cy 1 from Option.some.inj ((show s.vm.findClass _ = some cA from h3).symm.trans h4)]
  rw [hcA, ← mm_wl_succ] at hP1
  have K := kk ok (by omega) H1 locs ls hl hP1 hS1
  rw [hs, show N - N0 + 1 = N + 1 - N0 by omega] at Z1
  exact K T1 hT1 Z1
theorem wp_newR {idx : Nat} {i : Int32} {n : Nat} (hC : mm_C l k N0 N1 post X) (hN1 : N + 1 ≤ N1) (hi : i = nI n) (hn : mm_len N = n) (hb : n * 4 ≤ 536870912) (hK : mm_K N = 13) (hw : Cond.classLink Y.1.cls idx "CoconutShies$Stand" ∈ mm_big) (hA : R N = fun _ => none) (hd : decode Y.2.1 pc = .ok (.anewarray idx, 3)) (kk : WP Y X (N + 1) (pc + 3) lv (.ref N :: st) F A R G) : WP Y X N pc lv (.int i :: st) F A R G := by
  obtain ⟨⟨p, l, e, Rm, s⟩, ⟨m, args, below, meth, c⟩, ⟨D, cy, b, xx⟩, k, N0, N1, Q⟩ := X
  obtain ⟨rfl, rfl, rfl, rfl, rfl⟩ := hC
  intro ok hN0 H locs ls hl hP hS
  obtain ⟨o1, o2, o3, o4, o5, o6, o7, o8, o9, o10, o11, o12, o13⟩ := id ok
  have hs := mm_sl_succ (N0 := N0) (N := N) (n := n) (by rw [hK]; simp [hn]) hN0
  have hmono := mm_sl_mono hN1
  have hlt := mm_len_lt N
  subst hi
  refine va_newq (A := fun q => b ≤ q) (C := "CoconutShies$Stand") o1 o2 o6 (o7 _ hw) o9.2 o8 hP mm_D hS (fun q h => by show b ≤ q; omega) (nI_pos (by omega)) (nI_clamp (by omega)) hb (by omega) (by omega) hd (fun q cA H1 hK1 hP1 hD1 hS1 => ?_)
  intro T1 hT1 Z1
  have hq := mm_next hT1 Z1 o12 hN0 hP1 hD1
  subst hq
  have hcA : (Sum.inl (cA, n, .inr (.inr (.inr (.inr (fun _ => none))))) : va_E) = mm_cell cy b F A R G N := by
    obtain ⟨-, -, -, -, -, h3⟩ := (hK1.2 3 (cA, .object "CoconutShies$Stand") rfl).2
    obtain ⟨-, -, -, -, -, h4⟩ := (o8.2 2 (cy 2, .object "CoconutShies$Stand") rfl).2
    rw [mm_cell_r hK, hn, hA, show cA = cy 2 from Option.some.inj (h3.symm.trans h4)]
    rfl
  rw [hcA, ← mm_wl_succ] at hP1
  have K := kk ok (by omega) H1 locs ls hl hP1 hS1
  rw [hs, show N - N0 + 1 = N + 1 - N0 by omega] at Z1
  exact K T1 hT1 Z1
theorem wp_objInit {idx r : Nat} (hC : mm_C l k N0 N1 post X) (hk : 1 ≤ k) (hl1 : Cond.methodLink Y.1.cls idx objectInit ∈ mm_big) (hl2 : Cond.instanceMethod objectInit ∈ mm_big) (hl3 : Cond.code objectInit ⟨#[0xb1]⟩ 1 none ∈ mm_big) (hc : (st.map fun v => v.category).sum ≤ 8) (hd : decode Y.2.1 pc = .ok (.invokespecial idx, 3)) (kk : WP Y X N (pc + 3) lv st F A R G) : WP Y X N pc lv (.ref r :: st) F A R G := by
  obtain ⟨⟨p, l, e, Rm, s⟩, ⟨m, args, below, meth, c⟩, ⟨D, cy, b, xx⟩, k, N0, N1, Q⟩ := X
  obtain ⟨rfl, rfl, rfl, rfl, rfl⟩ := hC
  intro ok hN0 H locs ls hl hP hS
  obtain ⟨o1, o2, o3, o4, o5, o6, o7, o8, o9, o10, o11, o12, o13⟩ := id ok
  exact W.objInit (g := F0 m pc ls (.ref (b + r) :: st.map (mm_v b xx))) o1 o2 o6 (o7 _ hl1) (o7 _ hl2) (o7 _ hl3) rfl (by rw [o3]; exact hl.1) rfl hd (by omega) (by show 2 * 0 + _ + 12 ≤ _; rw [mm_cat]; omega) (kk ok hN0 H locs ls hl hP hS)
theorem wp_max {idx : Nat} {x y : Int32} (hC : mm_C l k N0 N1 post X) (hk : 1 ≤ k) (hN : N ≤ N1) (hl1 : Cond.methodLink Y.1.cls idx Lib.Math.max.name ∈ mm_big) (hl2 : Cond.static Lib.Math.max.name ∈ mm_big) (hl3 : Cond.initialized "java/lang/Math" ∈ mm_big) (hl4 : Cond.code Lib.Math.max.name Lib.Math.max.code 2 (some .int) ∈ mm_big) (hc : (st.map fun v => v.category).sum ≤ 8) (hd : decode Y.2.1 pc = .ok (.invokestatic idx, 3)) (kk : WP Y X N (pc + 3) lv (.int (if x < y then y else x) :: st) F A R G) : WP Y X N pc lv (.int y :: .int x :: st) F A R G := by
  obtain ⟨⟨p, l, e, Rm, s⟩, ⟨m, args, below, meth, c⟩, ⟨D, cy, b, xx⟩, k, N0, N1, Q⟩ := X
  obtain ⟨rfl, rfl, rfl, rfl, rfl⟩ := hC
  intro ok hN0 H locs ls hl hP hS
  obtain ⟨o1, o2, o3, o4, o5, o6, o7, o8, o9, o10, o11, o12, o13⟩ := id ok
  have a1 := mm_sl_mono hN
  exact va_mmax o1 o2 (by rw [o3]; exact hl.1.symm) o6 (o7 _ hl1) (o7 _ hl2) (o7 _ hl3) (o7 _ hl4) (by omega) (by rw [mm_cat]; omega) (by omega) (by omega) hd (kk ok hN0 H locs ls hl hP hS)
theorem wp_min {idx : Nat} {x y : Int32} (hC : mm_C l k N0 N1 post X) (hk : 1 ≤ k) (hN : N ≤ N1) (hl1 : Cond.methodLink Y.1.cls idx Lib.Math.min.name ∈ mm_big) (hl2 : Cond.static Lib.Math.min.name ∈ mm_big) (hl3 : Cond.initialized "java/lang/Math" ∈ mm_big) (hl4 : Cond.code Lib.Math.min.name Lib.Math.min.code 2 (some .int) ∈ mm_big) (hc : (st.map fun v => v.category).sum ≤ 8) (hd : decode Y.2.1 pc = .ok (.invokestatic idx, 3)) (kk : WP Y X N (pc + 3) lv (.int (if y < x then y else x) :: st) F A R G) : WP Y X N pc lv (.int y :: .int x :: st) F A R G := by
  obtain ⟨⟨p, l, e, Rm, s⟩, ⟨m, args, below, meth, c⟩, ⟨D, cy, b, xx⟩, k, N0, N1, Q⟩ := X
  obtain ⟨rfl, rfl, rfl, rfl, rfl⟩ := hC
  intro ok hN0 H locs ls hl hP hS
  obtain ⟨o1, o2, o3, o4, o5, o6, o7, o8, o9, o10, o11, o12, o13⟩ := id ok
  have a1 := mm_sl_mono hN
  have K := kk ok hN0 H locs ls hl hP hS
  refine va_mmin o1 o2 (by rw [o3]; exact hl.1.symm) o6 (o7 _ hl1) (o7 _ hl2) (o7 _ hl3) (o7 _ hl4) (by omega) (by rw [mm_cat]; omega) (by omega) (by omega) hd ?_
  first | exact K | (refine W.eq ?_ K; congr 2; split <;> split <;> simp_all <;> bv_omega)
/-- System.arraycopy of n ints from the one's start to the other's -/
theorem wp_copy {idx r0 r1 n : Nat} {i : Int32} (hC : mm_C l k N0 N1 post X) (hk : 2 ≤ k) (hi : i = nI n) (h0 : mm_K r0 = 11) (h1 : mm_K r1 = 11) (hr0 : r0 < N) (hr1 : r1 < N) (hn0 : n ≤ mm_len r0) (hn1 : n ≤ mm_len r1) (hl1 : Cond.methodLink Y.1.cls idx arraycopyName ∈ mm_big) (hl2 : Cond.native arraycopyName ∈ mm_big) (hl3 : Cond.static arraycopyName ∈ mm_big) (hl4 : Cond.initialized "java/lang/System" ∈ mm_big) (hc : (st.map fun v => v.category).sum ≤ 8) (hd : decode Y.2.1 pc = .ok (.invokestatic idx, 3)) (kk : WP Y X N (pc + 3) lv st F (va_up A r1 (va_cpy (A r0) (A r1) 0 0 n)) R G) : WP Y X N pc lv (.int i :: .int 0 :: .ref r1 :: .int 0 :: .ref r0 :: st) F A R G := by
  obtain ⟨⟨p, l, e, Rm, s⟩, ⟨m, args, below, meth, c⟩, ⟨D, cy, b, xx⟩, k, N0, N1, Q⟩ := X
  obtain ⟨rfl, rfl, rfl, rfl, rfl⟩ := hC
  intro ok hN0 H locs ls hl hP hS
  obtain ⟨o1, o2, o3, o4, o5, o6, o7, o8, o9, o10, o11, o12, o13⟩ := id ok
  subst hi
  have hlt := mm_len_lt r0
  have hz : (0 : Int32).toNatClampNeg = 0 := rfl
  have hnn : (nI n).toNatClampNeg = n := nI_clamp (by omega)
  refine va_copyi (A := fun q => b ≤ q) (ty := .int) o1 o2 (by rw [o3]; exact hl.1.symm) o6 (o7 _ hl1) (o7 _ hl2) (o7 _ hl3) (o7 _ hl4) o8 hP mm_D hS r0 r1 0 0 (by rw [mm_wl_get hr0, mm_cell_i h0]) (by rw [mm_wl_get hr1, mm_cell_i h1]) rfl rfl rfl (by decide) (by decide) (nI_pos (by omega)) (by rw [hz, hnn]; omega) (by rw [hz, hnn]; omega) (fun _ _ => rfl) (by omega) (by rw [mm_cat]; simp [nativeFrameWords]; omega) hd (fun H1 locs1 hP1 _ hS1 => ?_)
  rw [hz, hnn, mm_set (F' := F) (A' := va_up A r1 (va_cpy (A r0) (A r1) 0 0 n)) (R' := R) (G' := G) hr1 (by rw [mm_cell_i h1, va_up_self]) (fun i hi => mm_cell_congr rfl (va_up_ne _ _ hi) rfl rfl)] at hP1
  exact kk ok hN0 H1 locs1 ls hl hP1 hS1
theorem wp_gets1 {idx : Nat} (hw : Cond.fieldLink Y.1.cls idx "CoconutShies" "HUNDREDS" "[I" ∈ mm_big) (hd : decode Y.2.1 pc = .ok (.getstatic idx, 3)) (kk : WP Y X N (pc + 3) lv (.float 1 :: st) F A R G) : WP Y X N pc lv st F A R G := by
  obtain ⟨⟨p, l, e, Rm, s⟩, ⟨m, args, below, meth, c⟩, ⟨D, cy, b, xx⟩, k, N0, N1, Q⟩ := X
  intro ok hN0 H locs ls hl hP hS
  obtain ⟨o1, o2, o3, o4, o5, o6, o7, o8, o9, o10, o11, o12, o13⟩ := id ok
  exact va_gets o1 o2 o10.1.1 hS o6 (o7 _ hw) (fun _ h => h) hd (kk ok hN0 H locs ls hl hP hS)
theorem wp_gets2 {idx : Nat} (hw : Cond.fieldLink Y.1.cls idx "CoconutShies" "ORDERS" "[I" ∈ mm_big) (hd : decode Y.2.1 pc = .ok (.getstatic idx, 3)) (kk : WP Y X N (pc + 3) lv (.float 2 :: st) F A R G) : WP Y X N pc lv st F A R G := by
  obtain ⟨⟨p, l, e, Rm, s⟩, ⟨m, args, below, meth, c⟩, ⟨D, cy, b, xx⟩, k, N0, N1, Q⟩ := X
  intro ok hN0 H locs ls hl hP hS
  obtain ⟨o1, o2, o3, o4, o5, o6, o7, o8, o9, o10, o11, o12, o13⟩ := id ok
  exact va_gets o1 o2 o10.2.1 hS o6 (o7 _ hw) (fun _ h => h) hd (kk ok hN0 H locs ls hl hP hS)
theorem wp_tld1 {i : Int32} (j : Nat) (hi : i = nI j) (hj : j < 5) (hd : decode Y.2.1 pc = .ok (.iaload, 1)) (kk : WP Y X N (pc + 1) lv (.int (mm_hu j) :: st) F A R G) : WP Y X N pc lv (.int i :: .float 1 :: st) F A R G := by
  obtain ⟨⟨p, l, e, Rm, s⟩, ⟨m, args, below, meth, c⟩, ⟨D, cy, b, xx⟩, k, N0, N1, Q⟩ := X
  intro ok hN0 H locs ls hl hP hS
  obtain ⟨o1, o2, o3, o4, o5, o6, o7, o8, o9, o10, o11, o12, o13⟩ := id ok
  obtain ⟨h1, h2⟩ := mm_nI_in hi hj (by decide)
  exact va_ti o1 o2 o10.1.2 hS h1 (by rw [h2]) hd (kk ok hN0 H locs ls hl hP hS)
theorem wp_tld2 {i : Int32} (j : Nat) (hi : i = nI j) (hj : j < 5) (hd : decode Y.2.1 pc = .ok (.iaload, 1)) (kk : WP Y X N (pc + 1) lv (.int (mm_or j) :: st) F A R G) : WP Y X N pc lv (.int i :: .float 2 :: st) F A R G := by
  obtain ⟨⟨p, l, e, Rm, s⟩, ⟨m, args, below, meth, c⟩, ⟨D, cy, b, xx⟩, k, N0, N1, Q⟩ := X
  intro ok hN0 H locs ls hl hP hS
  obtain ⟨o1, o2, o3, o4, o5, o6, o7, o8, o9, o10, o11, o12, o13⟩ := id ok
  obtain ⟨h1, h2⟩ := mm_nI_in hi hj (by decide)
  exact va_ti o1 o2 o10.2.2 hS h1 (by rw [h2]) hd (kk ok hN0 H locs ls hl hP hS)
theorem wp_tlen1 (hd : decode Y.2.1 pc = .ok (.arraylength, 1)) (kk : WP Y X N (pc + 1) lv (.int 5 :: st) F A R G) : WP Y X N pc lv (.float 1 :: st) F A R G := by
  obtain ⟨⟨p, l, e, Rm, s⟩, ⟨m, args, below, meth, c⟩, ⟨D, cy, b, xx⟩, k, N0, N1, Q⟩ := X
  intro ok hN0 H locs ls hl hP hS
  obtain ⟨o1, o2, o3, o4, o5, o6, o7, o8, o9, o10, o11, o12, o13⟩ := id ok
  exact va_tlen o1 o2 o10.1.2 hS rfl hd (kk ok hN0 H locs ls hl hP hS)
theorem wp_tlen2 (hd : decode Y.2.1 pc = .ok (.arraylength, 1)) (kk : WP Y X N (pc + 1) lv (.int 5 :: st) F A R G) : WP Y X N pc lv (.float 2 :: st) F A R G := by
  obtain ⟨⟨p, l, e, Rm, s⟩, ⟨m, args, below, meth, c⟩, ⟨D, cy, b, xx⟩, k, N0, N1, Q⟩ := X
  intro ok hN0 H locs ls hl hP hS
  obtain ⟨o1, o2, o3, o4, o5, o6, o7, o8, o9, o10, o11, o12, o13⟩ := id ok
  exact va_tlen o1 o2 o10.2.2 hS rfl hd (kk ok hN0 H locs ls hl hP hS)
end MMA
end
