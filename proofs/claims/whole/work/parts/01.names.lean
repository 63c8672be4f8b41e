/-- a private method of a class that the tables say can be made, by its rows of tables_1 -/
def lw_okq (q : MethodName × Nat) : Prop := (q.1.cls ≠ "java/lang/invoke/MethodHandle" ∧ q.1.cls ≠ "java/lang/invoke/VarHandle") ∧ Cond.instantiable q.1.cls q.2 ∈ tables_1 ∧ Cond.privateMethod q.1 ∈ tables_1 ∧ Cond.instanceMethod q.1 ∈ tables_1
theorem lw_p0 : lw_okq (⟨"CoconutShies$Booth", "readPart", "(LCoconutShies$Text;I)I"⟩, 14) := ⟨⟨by decide +kernel, by decide +kernel⟩, List.mem_of_getElem? (i := 205) (by decide +kernel), List.mem_of_getElem? (i := 338) (by decide +kernel), List.mem_of_getElem? (i := 339) (by decide +kernel)⟩
theorem lw_p1 : lw_okq (⟨"CoconutShies$Booth", "readHusk", "(LCoconutShies$Text;I)I"⟩, 14) := ⟨⟨by decide +kernel, by decide +kernel⟩, List.mem_of_getElem? (i := 205) (by decide +kernel), List.mem_of_getElem? (i := 342) (by decide +kernel), List.mem_of_getElem? (i := 343) (by decide +kernel)⟩
theorem lw_p2 : lw_okq (⟨"CoconutShies$Booth", "readThrower", "(LCoconutShies$Text;I)I"⟩, 14) := ⟨⟨by decide +kernel, by decide +kernel⟩, List.mem_of_getElem? (i := 205) (by decide +kernel), List.mem_of_getElem? (i := 350) (by decide +kernel), List.mem_of_getElem? (i := 351) (by decide +kernel)⟩
theorem lw_p3 : lw_okq (⟨"CoconutShies$Booth", "readLaw", "(LCoconutShies$Text;I)I"⟩, 14) := ⟨⟨by decide +kernel, by decide +kernel⟩, List.mem_of_getElem? (i := 205) (by decide +kernel), List.mem_of_getElem? (i := 354) (by decide +kernel), List.mem_of_getElem? (i := 355) (by decide +kernel)⟩
theorem lw_p4 : lw_okq (⟨"CoconutShies", "refusalOfThrow", "(III)I"⟩, 11) := ⟨⟨by decide +kernel, by decide +kernel⟩, List.mem_of_getElem? (i := 16) (by decide +kernel), List.mem_of_getElem? (i := 411) (by decide +kernel), List.mem_of_getElem? (i := 412) (by decide +kernel)⟩
theorem lw_p5 : lw_okq (⟨"CoconutShies$Booth", "astray", "(II)I"⟩, 14) := ⟨⟨by decide +kernel, by decide +kernel⟩, List.mem_of_getElem? (i := 205) (by decide +kernel), List.mem_of_getElem? (i := 422) (by decide +kernel), List.mem_of_getElem? (i := 423) (by decide +kernel)⟩
theorem lw_p6 : lw_okq (⟨"CoconutShies$Booth", "drift", "(II)I"⟩, 14) := ⟨⟨by decide +kernel, by decide +kernel⟩, List.mem_of_getElem? (i := 205) (by decide +kernel), List.mem_of_getElem? (i := 426) (by decide +kernel), List.mem_of_getElem? (i := 427) (by decide +kernel)⟩
theorem lw_p7 : lw_okq (⟨"CoconutShies$Seeker", "weigh", "(II)V"⟩, 3) := ⟨⟨by decide +kernel, by decide +kernel⟩, List.mem_of_getElem? (i := 137) (by decide +kernel), List.mem_of_getElem? (i := 568) (by decide +kernel), List.mem_of_getElem? (i := 569) (by decide +kernel)⟩
theorem lw_p8 : lw_okq (⟨"CoconutShies$Seeker", "staysUp", "(LCoconutShies$Booth;LCoconutShies$Stand;II)Z"⟩, 3) := ⟨⟨by decide +kernel, by decide +kernel⟩, List.mem_of_getElem? (i := 137) (by decide +kernel), List.mem_of_getElem? (i := 582) (by decide +kernel), List.mem_of_getElem? (i := 583) (by decide +kernel)⟩
theorem lw_p9 : lw_okq (⟨"CoconutShies$Sightings", "agree", "(II)Z"⟩, 4) := ⟨⟨by decide +kernel, by decide +kernel⟩, List.mem_of_getElem? (i := 102) (by decide +kernel), List.mem_of_getElem? (i := 639) (by decide +kernel), List.mem_of_getElem? (i := 640) (by decide +kernel)⟩
theorem lw_p10 : lw_okq (⟨"CoconutShies$Parties", "weigh", "(LCoconutShies$Booth;LCoconutShies$Stand;II)V"⟩, 5) := ⟨⟨by decide +kernel, by decide +kernel⟩, List.mem_of_getElem? (i := 156) (by decide +kernel), List.mem_of_getElem? (i := 651) (by decide +kernel), List.mem_of_getElem? (i := 652) (by decide +kernel)⟩
theorem lw_p11 : lw_okq (⟨"CoconutShies$Parties", "costOf", "(LCoconutShies$Booth;II)I"⟩, 5) := ⟨⟨by decide +kernel, by decide +kernel⟩, List.mem_of_getElem? (i := 156) (by decide +kernel), List.mem_of_getElem? (i := 656) (by decide +kernel), List.mem_of_getElem? (i := 657) (by decide +kernel)⟩
theorem lw_p12 : lw_okq (⟨"CoconutShies$Parties", "isRest", "(III)Z"⟩, 5) := ⟨⟨by decide +kernel, by decide +kernel⟩, List.mem_of_getElem? (i := 156) (by decide +kernel), List.mem_of_getElem? (i := 664) (by decide +kernel), List.mem_of_getElem? (i := 665) (by decide +kernel)⟩
theorem lw_p13 : lw_okq (⟨"CoconutShiesModel", "readFair", "()I"⟩, 41) := ⟨⟨by decide +kernel, by decide +kernel⟩, List.mem_of_getElem? (i := 724) (by decide +kernel), List.mem_of_getElem? (i := 870) (by decide +kernel), List.mem_of_getElem? (i := 871) (by decide +kernel)⟩
theorem lw_p14 : lw_okq (⟨"CoconutShiesModel", "figure", "(II)I"⟩, 41) := ⟨⟨by decide +kernel, by decide +kernel⟩, List.mem_of_getElem? (i := 724) (by decide +kernel), List.mem_of_getElem? (i := 874) (by decide +kernel), List.mem_of_getElem? (i := 875) (by decide +kernel)⟩
theorem lw_p15 : lw_okq (⟨"CoconutShiesModel", "readPart", "()Z"⟩, 41) := ⟨⟨by decide +kernel, by decide +kernel⟩, List.mem_of_getElem? (i := 724) (by decide +kernel), List.mem_of_getElem? (i := 878) (by decide +kernel), List.mem_of_getElem? (i := 879) (by decide +kernel)⟩
def lw_privs_1 : List (MethodName × Nat) := [(⟨"CoconutShies$Booth", "readPart", "(LCoconutShies$Text;I)I"⟩, 14), (⟨"CoconutShies$Booth", "readHusk", "(LCoconutShies$Text;I)I"⟩, 14), (⟨"CoconutShies$Booth", "readThrower", "(LCoconutShies$Text;I)I"⟩, 14), (⟨"CoconutShies$Booth", "readLaw", "(LCoconutShies$Text;I)I"⟩, 14), (⟨"CoconutShies", "refusalOfThrow", "(III)I"⟩, 11), (⟨"CoconutShies$Booth", "astray", "(II)I"⟩, 14), (⟨"CoconutShies$Booth", "drift", "(II)I"⟩, 14), (⟨"CoconutShies$Seeker", "weigh", "(II)V"⟩, 3), (⟨"CoconutShies$Seeker", "staysUp", "(LCoconutShies$Booth;LCoconutShies$Stand;II)Z"⟩, 3), (⟨"CoconutShies$Sightings", "agree", "(II)Z"⟩, 4), (⟨"CoconutShies$Parties", "weigh", "(LCoconutShies$Booth;LCoconutShies$Stand;II)V"⟩, 5), (⟨"CoconutShies$Parties", "costOf", "(LCoconutShies$Booth;II)I"⟩, 5), (⟨"CoconutShies$Parties", "isRest", "(III)Z"⟩, 5), (⟨"CoconutShiesModel", "readFair", "()I"⟩, 41), (⟨"CoconutShiesModel", "figure", "(II)I"⟩, 41), (⟨"CoconutShiesModel", "readPart", "()Z"⟩, 41)]
theorem lw_r1 : ∀ q ∈ lw_privs_1, lw_okq q := List.forall_mem_cons.mpr ⟨lw_p0, List.forall_mem_cons.mpr ⟨lw_p1, List.forall_mem_cons.mpr ⟨lw_p2, List.forall_mem_cons.mpr ⟨lw_p3, List.forall_mem_cons.mpr ⟨lw_p4, List.forall_mem_cons.mpr ⟨lw_p5, List.forall_mem_cons.mpr ⟨lw_p6, List.forall_mem_cons.mpr ⟨lw_p7, List.forall_mem_cons.mpr ⟨lw_p8, List.forall_mem_cons.mpr ⟨lw_p9, List.forall_mem_cons.mpr ⟨lw_p10, List.forall_mem_cons.mpr ⟨lw_p11, List.forall_mem_cons.mpr ⟨lw_p12, List.forall_mem_cons.mpr ⟨lw_p13, List.forall_mem_cons.mpr ⟨lw_p14, List.forall_mem_cons.mpr ⟨lw_p15, fun _ h => absurd h List.not_mem_nil⟩⟩⟩⟩⟩⟩⟩⟩⟩⟩⟩⟩⟩⟩⟩⟩
theorem lw_p16 : lw_okq (⟨"CoconutShiesModel", "readOneHusk", "()Z"⟩, 41) := ⟨⟨by decide +kernel, by decide +kernel⟩, List.mem_of_getElem? (i := 724) (by decide +kernel), List.mem_of_getElem? (i := 882) (by decide +kernel), List.mem_of_getElem? (i := 883) (by decide +kernel)⟩
theorem lw_p17 : lw_okq (⟨"CoconutShiesModel", "readPlace", "()I"⟩, 41) := ⟨⟨by decide +kernel, by decide +kernel⟩, List.mem_of_getElem? (i := 724) (by decide +kernel), List.mem_of_getElem? (i := 886) (by decide +kernel), List.mem_of_getElem? (i := 887) (by decide +kernel)⟩
theorem lw_p18 : lw_okq (⟨"CoconutShiesModel", "readOneThrower", "()Z"⟩, 41) := ⟨⟨by decide +kernel, by decide +kernel⟩, List.mem_of_getElem? (i := 724) (by decide +kernel), List.mem_of_getElem? (i := 891) (by decide +kernel), List.mem_of_getElem? (i := 892) (by decide +kernel)⟩
theorem lw_p19 : lw_okq (⟨"CoconutShiesModel", "readOneLaw", "()Z"⟩, 41) := ⟨⟨by decide +kernel, by decide +kernel⟩, List.mem_of_getElem? (i := 724) (by decide +kernel), List.mem_of_getElem? (i := 895) (by decide +kernel), List.mem_of_getElem? (i := 896) (by decide +kernel)⟩
theorem lw_p20 : lw_okq (⟨"CoconutShiesModel", "noHusk", "(I)Z"⟩, 41) := ⟨⟨by decide +kernel, by decide +kernel⟩, List.mem_of_getElem? (i := 724) (by decide +kernel), List.mem_of_getElem? (i := 914) (by decide +kernel), List.mem_of_getElem? (i := 915) (by decide +kernel)⟩
theorem lw_p21 : lw_okq (⟨"CoconutShiesModel", "firm", "([II)I"⟩, 41) := ⟨⟨by decide +kernel, by decide +kernel⟩, List.mem_of_getElem? (i := 724) (by decide +kernel), List.mem_of_getElem? (i := 918) (by decide +kernel), List.mem_of_getElem? (i := 919) (by decide +kernel)⟩
theorem lw_p22 : lw_okq (⟨"CoconutShiesModel", "noThrower", "(I)Z"⟩, 41) := ⟨⟨by decide +kernel, by decide +kernel⟩, List.mem_of_getElem? (i := 724) (by decide +kernel), List.mem_of_getElem? (i := 929) (by decide +kernel), List.mem_of_getElem? (i := 930) (by decide +kernel)⟩
theorem lw_p23 : lw_okq (⟨"CoconutShiesModel", "force", "(I)I"⟩, 41) := ⟨⟨by decide +kernel, by decide +kernel⟩, List.mem_of_getElem? (i := 724) (by decide +kernel), List.mem_of_getElem? (i := 934) (by decide +kernel), List.mem_of_getElem? (i := 935) (by decide +kernel)⟩
theorem lw_p24 : lw_okq (⟨"CoconutShiesModel", "noThrow", "(III)I"⟩, 41) := ⟨⟨by decide +kernel, by decide +kernel⟩, List.mem_of_getElem? (i := 724) (by decide +kernel), List.mem_of_getElem? (i := 942) (by decide +kernel), List.mem_of_getElem? (i := 943) (by decide +kernel)⟩
theorem lw_p25 : lw_okq (⟨"CoconutShiesModel", "landing", "([IIII)I"⟩, 41) := ⟨⟨by decide +kernel, by decide +kernel⟩, List.mem_of_getElem? (i := 724) (by decide +kernel), List.mem_of_getElem? (i := 946) (by decide +kernel), List.mem_of_getElem? (i := 947) (by decide +kernel)⟩
theorem lw_p26 : lw_okq (⟨"CoconutShiesModel", "blows", "([II)I"⟩, 41) := ⟨⟨by decide +kernel, by decide +kernel⟩, List.mem_of_getElem? (i := 724) (by decide +kernel), List.mem_of_getElem? (i := 950) (by decide +kernel), List.mem_of_getElem? (i := 951) (by decide +kernel)⟩
theorem lw_p27 : lw_okq (⟨"CoconutShiesModel", "note", "()V"⟩, 41) := ⟨⟨by decide +kernel, by decide +kernel⟩, List.mem_of_getElem? (i := 724) (by decide +kernel), List.mem_of_getElem? (i := 958) (by decide +kernel), List.mem_of_getElem? (i := 959) (by decide +kernel)⟩
theorem lw_p28 : lw_okq (⟨"CoconutShiesModel", "goThrow", "([IIII)V"⟩, 41) := ⟨⟨by decide +kernel, by decide +kernel⟩, List.mem_of_getElem? (i := 724) (by decide +kernel), List.mem_of_getElem? (i := 962) (by decide +kernel), List.mem_of_getElem? (i := 963) (by decide +kernel)⟩
theorem lw_p29 : lw_okq (⟨"CoconutShiesModel", "huskAt", "(I)I"⟩, 41) := ⟨⟨by decide +kernel, by decide +kernel⟩, List.mem_of_getElem? (i := 724) (by decide +kernel), List.mem_of_getElem? (i := 966) (by decide +kernel), List.mem_of_getElem? (i := 967) (by decide +kernel)⟩
theorem lw_p30 : lw_okq (⟨"CoconutShiesModel", "fall", "([II)V"⟩, 41) := ⟨⟨by decide +kernel, by decide +kernel⟩, List.mem_of_getElem? (i := 724) (by decide +kernel), List.mem_of_getElem? (i := 970) (by decide +kernel), List.mem_of_getElem? (i := 971) (by decide +kernel)⟩
theorem lw_p31 : lw_okq (⟨"CoconutShiesModel", "findFewest", "(I)V"⟩, 41) := ⟨⟨by decide +kernel, by decide +kernel⟩, List.mem_of_getElem? (i := 724) (by decide +kernel), List.mem_of_getElem? (i := 1008) (by decide +kernel), List.mem_of_getElem? (i := 1009) (by decide +kernel)⟩
def lw_privs_2 : List (MethodName × Nat) := [(⟨"CoconutShiesModel", "readOneHusk", "()Z"⟩, 41), (⟨"CoconutShiesModel", "readPlace", "()I"⟩, 41), (⟨"CoconutShiesModel", "readOneThrower", "()Z"⟩, 41), (⟨"CoconutShiesModel", "readOneLaw", "()Z"⟩, 41), (⟨"CoconutShiesModel", "noHusk", "(I)Z"⟩, 41), (⟨"CoconutShiesModel", "firm", "([II)I"⟩, 41), (⟨"CoconutShiesModel", "noThrower", "(I)Z"⟩, 41), (⟨"CoconutShiesModel", "force", "(I)I"⟩, 41), (⟨"CoconutShiesModel", "noThrow", "(III)I"⟩, 41), (⟨"CoconutShiesModel", "landing", "([IIII)I"⟩, 41), (⟨"CoconutShiesModel", "blows", "([II)I"⟩, 41), (⟨"CoconutShiesModel", "note", "()V"⟩, 41), (⟨"CoconutShiesModel", "goThrow", "([IIII)V"⟩, 41), (⟨"CoconutShiesModel", "huskAt", "(I)I"⟩, 41), (⟨"CoconutShiesModel", "fall", "([II)V"⟩, 41), (⟨"CoconutShiesModel", "findFewest", "(I)V"⟩, 41)]
theorem lw_r2 : ∀ q ∈ lw_privs_2, lw_okq q := List.forall_mem_cons.mpr ⟨lw_p16, List.forall_mem_cons.mpr ⟨lw_p17, List.forall_mem_cons.mpr ⟨lw_p18, List.forall_mem_cons.mpr ⟨lw_p19, List.forall_mem_cons.mpr ⟨lw_p20, List.forall_mem_cons.mpr ⟨lw_p21, List.forall_mem_cons.mpr ⟨lw_p22, List.forall_mem_cons.mpr ⟨lw_p23, List.forall_mem_cons.mpr ⟨lw_p24, List.forall_mem_cons.mpr ⟨lw_p25, List.forall_mem_cons.mpr ⟨lw_p26, List.forall_mem_cons.mpr ⟨lw_p27, List.forall_mem_cons.mpr ⟨lw_p28, List.forall_mem_cons.mpr ⟨lw_p29, List.forall_mem_cons.mpr ⟨lw_p30, List.forall_mem_cons.mpr ⟨lw_p31, fun _ h => absurd h List.not_mem_nil⟩⟩⟩⟩⟩⟩⟩⟩⟩⟩⟩⟩⟩⟩⟩⟩
theorem lw_p32 : lw_okq (⟨"CoconutShiesModel", "throwsAt", "(II)Z"⟩, 41) := ⟨⟨by decide +kernel, by decide +kernel⟩, List.mem_of_getElem? (i := 724) (by decide +kernel), List.mem_of_getElem? (i := 1015) (by decide +kernel), List.mem_of_getElem? (i := 1016) (by decide +kernel)⟩
theorem lw_p33 : lw_okq (⟨"CoconutShiesModel", "placeAt", "([III)I"⟩, 41) := ⟨⟨by decide +kernel, by decide +kernel⟩, List.mem_of_getElem? (i := 724) (by decide +kernel), List.mem_of_getElem? (i := 1019) (by decide +kernel), List.mem_of_getElem? (i := 1020) (by decide +kernel)⟩
theorem lw_p34 : lw_okq (⟨"CoconutShiesModel", "findMatch", "(I)V"⟩, 41) := ⟨⟨by decide +kernel, by decide +kernel⟩, List.mem_of_getElem? (i := 724) (by decide +kernel), List.mem_of_getElem? (i := 1031) (by decide +kernel), List.mem_of_getElem? (i := 1032) (by decide +kernel)⟩
theorem lw_p35 : lw_okq (⟨"CoconutShiesModel", "holdsUp", "(I)Z"⟩, 41) := ⟨⟨by decide +kernel, by decide +kernel⟩, List.mem_of_getElem? (i := 724) (by decide +kernel), List.mem_of_getElem? (i := 1042) (by decide +kernel), List.mem_of_getElem? (i := 1043) (by decide +kernel)⟩
theorem lw_p36 : lw_okq (⟨"CoconutShiesModel", "does", "(I)Z"⟩, 41) := ⟨⟨by decide +kernel, by decide +kernel⟩, List.mem_of_getElem? (i := 724) (by decide +kernel), List.mem_of_getElem? (i := 1051) (by decide +kernel), List.mem_of_getElem? (i := 1052) (by decide +kernel)⟩
theorem lw_p37 : lw_okq (⟨"CoconutShiesModel", "findRests", "()V"⟩, 41) := ⟨⟨by decide +kernel, by decide +kernel⟩, List.mem_of_getElem? (i := 724) (by decide +kernel), List.mem_of_getElem? (i := 1085) (by decide +kernel), List.mem_of_getElem? (i := 1086) (by decide +kernel)⟩
theorem lw_p38 : lw_okq (⟨"CoconutShiesModel", "layWorth", "(II)V"⟩, 41) := ⟨⟨by decide +kernel, by decide +kernel⟩, List.mem_of_getElem? (i := 724) (by decide +kernel), List.mem_of_getElem? (i := 1089) (by decide +kernel), List.mem_of_getElem? (i := 1090) (by decide +kernel)⟩
def lw_privs_3 : List (MethodName × Nat) := [(⟨"CoconutShiesModel", "throwsAt", "(II)Z"⟩, 41), (⟨"CoconutShiesModel", "placeAt", "([III)I"⟩, 41), (⟨"CoconutShiesModel", "findMatch", "(I)V"⟩, 41), (⟨"CoconutShiesModel", "holdsUp", "(I)Z"⟩, 41), (⟨"CoconutShiesModel", "does", "(I)Z"⟩, 41), (⟨"CoconutShiesModel", "findRests", "()V"⟩, 41), (⟨"CoconutShiesModel", "layWorth", "(II)V"⟩, 41)]
theorem lw_r3 : ∀ q ∈ lw_privs_3, lw_okq q := List.forall_mem_cons.mpr ⟨lw_p32, List.forall_mem_cons.mpr ⟨lw_p33, List.forall_mem_cons.mpr ⟨lw_p34, List.forall_mem_cons.mpr ⟨lw_p35, List.forall_mem_cons.mpr ⟨lw_p36, List.forall_mem_cons.mpr ⟨lw_p37, List.forall_mem_cons.mpr ⟨lw_p38, fun _ h => absurd h List.not_mem_nil⟩⟩⟩⟩⟩⟩⟩
def lw_privs : List (MethodName × Nat) := lw_privs_1 ++ (lw_privs_2 ++ (lw_privs_3))
def lw_tbl : List Cond := k2_sels lw_privs ++ tables_1
theorem lw_privs_ok : ∀ q ∈ lw_privs, lw_okq q := by
  show ∀ q ∈ lw_privs_1 ++ (lw_privs_2 ++ (lw_privs_3)), lw_okq q
  exact List.forall_mem_append.mpr ⟨lw_r1, List.forall_mem_append.mpr ⟨lw_r2, lw_r3⟩⟩
def RX0 : String := "CoconutShies$Acts"
def TX0 : u_T := fun k => match k with
  | 0 => ("CoconutShies$Acts", "before", "[LCoconutShies$Stand;", true)
  | 1 => ("CoconutShies$Acts", "first", "I", false)
  | _ => ("CoconutShies$Acts", "count", "I", false)
def tyX0 : Nat → FieldType := fun k => match k with
  | 0 => .array (.object "CoconutShies$Stand")
  | 1 => .int
  | _ => .int
abbrev wsX00 : List Cond := u_ws RX0 TX0 3
theorem nmX0 : ∀ a, a < 3 → ∀ b, b < 3 → a ≠ b → (TX0 a).2.1 ≠ (TX0 b).2.1 := by decide +kernel
theorem tyX0_ok : ∀ k, k < 3 → parseFieldDescriptor (TX0 k).2.2.1 = some (tyX0 k) := by decide +kernel
abbrev cX0_init : ByteArray := prog_2_method_1_code
def yX0_init : MethodName := ⟨RX0, "<init>", "()V"⟩
abbrev cX0_remember : ByteArray := prog_2_method_2_code
def yX0_remember : MethodName := ⟨RX0, "remember", "(LCoconutShies$Stand;)V"⟩
abbrev cX0_takeBack : ByteArray := prog_2_method_3_code
def yX0_takeBack : MethodName := ⟨RX0, "takeBack", "(LCoconutShies$Stand;)Z"⟩
abbrev cX0_forgetAll : ByteArray := prog_2_method_4_code
def yX0_forgetAll : MethodName := ⟨RX0, "forgetAll", "()V"⟩
def RX1 : String := "CoconutShies$Booth"
def TX1 : u_T := fun k => match k with
  | 0 => ("CoconutShies$Booth", "place", "[I", true)
  | 1 => ("CoconutShies$Booth", "hold", "[I", true)
  | 2 => ("CoconutShies$Booth", "huskKind", "[I", true)
  | 3 => ("CoconutShies$Booth", "aim", "[I", true)
  | 4 => ("CoconutShies$Booth", "force", "[I", true)
  | 5 => ("CoconutShies$Booth", "throwerKind", "[I", true)
  | 6 => ("CoconutShies$Booth", "lawOf", "[I", true)
  | 7 => ("CoconutShies$Booth", "lawFor", "[I", true)
  | 8 => ("CoconutShies$Booth", "lawKind", "[I", true)
  | 9 => ("CoconutShies$Booth", "husks", "I", false)
  | 10 => ("CoconutShies$Booth", "throwers", "I", false)
  | 11 => ("CoconutShies$Booth", "laws", "I", false)
  | 12 => ("CoconutShies$Booth", "windAtFirst", "I", false)
  | _ => ("CoconutShies$Booth", "paidAtFirst", "I", false)
def tyX1 : Nat → FieldType := fun k => match k with
  | 0 => .array .int
  | 1 => .array .int
  | 2 => .array .int
  | 3 => .array .int
  | 4 => .array .int
  | 5 => .array .int
  | 6 => .array .int
  | 7 => .array .int
  | 8 => .array .int
  | 9 => .int
  | 10 => .int
  | 11 => .int
  | 12 => .int
  | _ => .int
abbrev wsX10 : List Cond := u_ws RX1 TX1 14
theorem nmX1 : ∀ a, a < 14 → ∀ b, b < 14 → a ≠ b → (TX1 a).2.1 ≠ (TX1 b).2.1 := by decide +kernel
theorem tyX1_ok : ∀ k, k < 14 → parseFieldDescriptor (TX1 k).2.2.1 = some (tyX1 k) := by decide +kernel
abbrev cX1_init : ByteArray := prog_3_method_1_code
def yX1_init : MethodName := ⟨RX1, "<init>", "()V"⟩
abbrev cX1_isHusk : ByteArray := prog_3_method_2_code
def yX1_isHusk : MethodName := ⟨RX1, "isHusk", "(I)Z"⟩
abbrev cX1_isThrower : ByteArray := prog_3_method_3_code
def yX1_isThrower : MethodName := ⟨RX1, "isThrower", "(I)Z"⟩
abbrev cX1_readFrom : ByteArray := prog_3_method_4_code
def yX1_readFrom : MethodName := ⟨RX1, "readFrom", "(LCoconutShies$Text;)I"⟩
abbrev cX1_readPart : ByteArray := prog_3_method_5_code
def yX1_readPart : MethodName := ⟨RX1, "readPart", "(LCoconutShies$Text;I)I"⟩
abbrev cX1_readHusk : ByteArray := prog_3_method_6_code
def yX1_readHusk : MethodName := ⟨RX1, "readHusk", "(LCoconutShies$Text;I)I"⟩
abbrev cX1_readThrower : ByteArray := prog_3_method_7_code
def yX1_readThrower : MethodName := ⟨RX1, "readThrower", "(LCoconutShies$Text;I)I"⟩
abbrev cX1_readLaw : ByteArray := prog_3_method_8_code
def yX1_readLaw : MethodName := ⟨RX1, "readLaw", "(LCoconutShies$Text;I)I"⟩
abbrev cX1_huskAt : ByteArray := prog_3_method_9_code
def yX1_huskAt : MethodName := ⟨RX1, "huskAt", "(I)I"⟩
abbrev cX1_loosensBy : ByteArray := prog_3_method_10_code
def yX1_loosensBy : MethodName := ⟨RX1, "loosensBy", "(I)I"⟩
abbrev cX1_landing : ByteArray := prog_3_method_11_code
def yX1_landing : MethodName := ⟨RX1, "landing", "(IIII)I"⟩
abbrev cX1_reaches : ByteArray := prog_3_method_12_code
def yX1_reaches : MethodName := ⟨RX1, "reaches", "(III)Z"⟩
abbrev cX1_astray : ByteArray := prog_3_method_13_code
def yX1_astray : MethodName := ⟨RX1, "astray", "(II)I"⟩
abbrev cX1_drift : ByteArray := prog_3_method_14_code
def yX1_drift : MethodName := ⟨RX1, "drift", "(II)I"⟩
def RX2 : String := "CoconutShies$Chances"
def TX2 : u_T := fun k => match k with
  | 0 => ("CoconutShies$Chances", "tries", "[LCoconutShies$Stand;", true)
  | 1 => ("CoconutShies$Chances", "thrower", "I", false)
  | 2 => ("CoconutShies$Chances", "place", "I", false)
  | _ => ("CoconutShies$Chances", "tenths", "I", false)
def tyX2 : Nat → FieldType := fun k => match k with
  | 0 => .array (.object "CoconutShies$Stand")
  | 1 => .int
  | 2 => .int
  | _ => .int
abbrev wsX20 : List Cond := u_ws RX2 TX2 4
theorem nmX2 : ∀ a, a < 4 → ∀ b, b < 4 → a ≠ b → (TX2 a).2.1 ≠ (TX2 b).2.1 := by decide +kernel
theorem tyX2_ok : ∀ k, k < 4 → parseFieldDescriptor (TX2 k).2.2.1 = some (tyX2 k) := by decide +kernel
abbrev cX2_init : ByteArray := prog_4_method_1_code
def yX2_init : MethodName := ⟨RX2, "<init>", "()V"⟩
abbrev cX2_waysDown : ByteArray := prog_4_method_2_code
def yX2_waysDown : MethodName := ⟨RX2, "waysDown", "(LCoconutShies$Booth;LCoconutShies$Stand;II)I"⟩
abbrev cX2_allWays : ByteArray := prog_4_method_3_code
def yX2_allWays : MethodName := ⟨RX2, "allWays", "(I)I"⟩
abbrev cX2_waysFrom : ByteArray := prog_4_method_4_code
def yX2_waysFrom : MethodName := ⟨RX2, "waysFrom", "(LCoconutShies$Chances;LCoconutShies$Booth;III)I"⟩
abbrev cX2_startFrom : ByteArray := prog_4_method_5_code
def yX2_startFrom : MethodName := ⟨RX2, "startFrom", "(LCoconutShies$Stand;)V"⟩
abbrev cX2_downBehindDrawn : ByteArray := prog_4_method_6_code
def yX2_downBehindDrawn : MethodName := ⟨RX2, "downBehindDrawn", "(LCoconutShies$Booth;I)I"⟩
def RX3 : String := "CoconutShies$Parties"
def TX3 : u_T := fun k => match k with
  | 0 => ("CoconutShies$Parties", "worthToOne", "[I", true)
  | 1 => ("CoconutShies$Parties", "worthToOther", "[I", true)
  | 2 => ("CoconutShies$Parties", "tried", "LCoconutShies$Stand;", true)
  | 3 => ("CoconutShies$Parties", "count", "I", false)
  | _ => ("CoconutShies$Parties", "first", "I", false)
def tyX3 : Nat → FieldType := fun k => match k with
  | 0 => .array .int
  | 1 => .array .int
  | 2 => .object "CoconutShies$Stand"
  | 3 => .int
  | _ => .int
abbrev wsX30 : List Cond := u_ws RX3 TX3 5
theorem nmX3 : ∀ a, a < 5 → ∀ b, b < 5 → a ≠ b → (TX3 a).2.1 ≠ (TX3 b).2.1 := by decide +kernel
theorem tyX3_ok : ∀ k, k < 5 → parseFieldDescriptor (TX3 k).2.2.1 = some (tyX3 k) := by decide +kernel
abbrev cX3_init : ByteArray := prog_5_method_1_code
def yX3_init : MethodName := ⟨RX3, "<init>", "()V"⟩
abbrev cX3_settle : ByteArray := prog_5_method_2_code
def yX3_settle : MethodName := ⟨RX3, "settle", "(LCoconutShies$Booth;LCoconutShies$Stand;)V"⟩
abbrev cX3_weigh : ByteArray := prog_5_method_3_code
def yX3_weigh : MethodName := ⟨RX3, "weigh", "(LCoconutShies$Booth;LCoconutShies$Stand;II)V"⟩
abbrev cX3_costOf : ByteArray := prog_5_method_4_code
def yX3_costOf : MethodName := ⟨RX3, "costOf", "(LCoconutShies$Booth;II)I"⟩
abbrev cX3_isRest : ByteArray := prog_5_method_5_code
def yX3_isRest : MethodName := ⟨RX3, "isRest", "(III)Z"⟩
def RX4 : String := "CoconutShies$Seeker"
def TX4 : u_T := fun k => match k with
  | 0 => ("CoconutShies$Seeker", "tries", "[LCoconutShies$Stand;", true)
  | 1 => ("CoconutShies$Seeker", "mostDown", "I", false)
  | _ => ("CoconutShies$Seeker", "firstFigures", "I", false)
def tyX4 : Nat → FieldType := fun k => match k with
  | 0 => .array (.object "CoconutShies$Stand")
  | 1 => .int
  | _ => .int
abbrev wsX40 : List Cond := u_ws RX4 TX4 3
theorem nmX4 : ∀ a, a < 3 → ∀ b, b < 3 → a ≠ b → (TX4 a).2.1 ≠ (TX4 b).2.1 := by decide +kernel
theorem tyX4_ok : ∀ k, k < 3 → parseFieldDescriptor (TX4 k).2.2.1 = some (tyX4 k) := by decide +kernel
abbrev cX4_init : ByteArray := prog_6_method_1_code
def yX4_init : MethodName := ⟨RX4, "<init>", "()V"⟩
abbrev cX4_downBehind : ByteArray := prog_6_method_2_code
def yX4_downBehind : MethodName := ⟨RX4, "downBehind", "(LCoconutShies$Booth;LCoconutShies$Stand;III)I"⟩
abbrev cX4_firstRow : ByteArray := prog_6_method_3_code
def yX4_firstRow : MethodName := ⟨RX4, "firstRow", "(LCoconutShies$Booth;LCoconutShies$Stand;II)I"⟩
abbrev cX4_rowFrom : ByteArray := prog_6_method_4_code
def yX4_rowFrom : MethodName := ⟨RX4, "rowFrom", "([LCoconutShies$Stand;LCoconutShies$Booth;III)I"⟩
abbrev cX4_matchAmong : ByteArray := prog_6_method_5_code
def yX4_matchAmong : MethodName := ⟨RX4, "matchAmong", "(LCoconutShies$Booth;LCoconutShies$Stand;I)I"⟩
abbrev cX4_matchFrom : ByteArray := prog_6_method_6_code
def yX4_matchFrom : MethodName := ⟨RX4, "matchFrom", "(LCoconutShies$Seeker;LCoconutShies$Booth;III)V"⟩
abbrev cX4_weigh : ByteArray := prog_6_method_7_code
def yX4_weigh : MethodName := ⟨RX4, "weigh", "(II)V"⟩
abbrev cX4_fewestNails : ByteArray := prog_6_method_8_code
def yX4_fewestNails : MethodName := ⟨RX4, "fewestNails", "(LCoconutShies$Booth;LCoconutShies$Stand;I)I"⟩
abbrev cX4_staysUp : ByteArray := prog_6_method_9_code
def yX4_staysUp : MethodName := ⟨RX4, "staysUp", "(LCoconutShies$Booth;LCoconutShies$Stand;II)Z"⟩
abbrev cX4_firstThatCanNotBe : ByteArray := prog_6_method_10_code
def yX4_firstThatCanNotBe : MethodName := ⟨RX4, "firstThatCanNotBe", "(LCoconutShies$Booth;LCoconutShies$Stand;II)I"⟩
abbrev cX4_couldBeDone : ByteArray := prog_6_method_11_code
def yX4_couldBeDone : MethodName := ⟨RX4, "couldBeDone", "(LCoconutShies$Booth;LCoconutShies$Stand;II)Z"⟩
def RX5 : String := "CoconutShies$Sightings"
def TX5 : u_T := fun k => match k with
  | 0 => ("CoconutShies$Sightings", "husks", "[I", true)
  | 1 => ("CoconutShies$Sightings", "forces", "[I", true)
  | 2 => ("CoconutShies$Sightings", "fell", "[I", true)
  | _ => ("CoconutShies$Sightings", "count", "I", false)
def tyX5 : Nat → FieldType := fun k => match k with
  | 0 => .array .int
  | 1 => .array .int
  | 2 => .array .int
  | _ => .int
abbrev wsX50 : List Cond := u_ws RX5 TX5 4
theorem nmX5 : ∀ a, a < 4 → ∀ b, b < 4 → a ≠ b → (TX5 a).2.1 ≠ (TX5 b).2.1 := by decide +kernel
theorem tyX5_ok : ∀ k, k < 4 → parseFieldDescriptor (TX5 k).2.2.1 = some (tyX5 k) := by decide +kernel
abbrev cX5_init : ByteArray := prog_7_method_1_code
def yX5_init : MethodName := ⟨RX5, "<init>", "()V"⟩
abbrev cX5_append : ByteArray := prog_7_method_2_code
def yX5_append : MethodName := ⟨RX5, "append", "(III)Z"⟩
abbrev cX5_holdsOf : ByteArray := prog_7_method_3_code
def yX5_holdsOf : MethodName := ⟨RX5, "holdsOf", "(II)I"⟩
abbrev cX5_agree : ByteArray := prog_7_method_4_code
def yX5_agree : MethodName := ⟨RX5, "agree", "(II)Z"⟩
def RX6 : String := "CoconutShies$Slots"
def TX6 : u_T := fun k => match k with
  | 0 => ("CoconutShies$Slots", "kept", "[LCoconutShies$Stand;", true)
  | _ => ("CoconutShies$Slots", "used", "[Z", true)
def tyX6 : Nat → FieldType := fun k => match k with
  | 0 => .array (.object "CoconutShies$Stand")
  | _ => .array .boolean
abbrev wsX60 : List Cond := u_ws RX6 TX6 2
theorem nmX6 : ∀ a, a < 2 → ∀ b, b < 2 → a ≠ b → (TX6 a).2.1 ≠ (TX6 b).2.1 := by decide +kernel
theorem tyX6_ok : ∀ k, k < 2 → parseFieldDescriptor (TX6 k).2.2.1 = some (tyX6 k) := by decide +kernel
abbrev cX6_init : ByteArray := prog_8_method_1_code
def yX6_init : MethodName := ⟨RX6, "<init>", "()V"⟩
abbrev cX6_put : ByteArray := prog_8_method_2_code
def yX6_put : MethodName := ⟨RX6, "put", "(ILCoconutShies$Stand;)Z"⟩
abbrev cX6_get : ByteArray := prog_8_method_3_code
def yX6_get : MethodName := ⟨RX6, "get", "(ILCoconutShies$Stand;)Z"⟩
abbrev cX6_forgetAll : ByteArray := prog_8_method_4_code
def yX6_forgetAll : MethodName := ⟨RX6, "forgetAll", "()V"⟩
def RX7 : String := "CoconutShies$Stand"
def TX7 : u_T := fun k => match k with
  | 0 => ("CoconutShies$Stand", "loose", "[I", true)
  | 1 => ("CoconutShies$Stand", "hits", "[I", true)
  | 2 => ("CoconutShies$Stand", "down", "I", false)
  | 3 => ("CoconutShies$Stand", "halved", "I", false)
  | 4 => ("CoconutShies$Stand", "nailed", "I", false)
  | 5 => ("CoconutShies$Stand", "wind", "I", false)
  | _ => ("CoconutShies$Stand", "paid", "I", false)
def tyX7 : Nat → FieldType := fun k => match k with
  | 0 => .array .int
  | 1 => .array .int
  | 2 => .int
  | 3 => .int
  | 4 => .int
  | 5 => .int
  | _ => .int
abbrev wsX70 : List Cond := u_ws RX7 TX7 7
theorem nmX7 : ∀ a, a < 7 → ∀ b, b < 7 → a ≠ b → (TX7 a).2.1 ≠ (TX7 b).2.1 := by decide +kernel
theorem tyX7_ok : ∀ k, k < 7 → parseFieldDescriptor (TX7 k).2.2.1 = some (tyX7 k) := by decide +kernel
abbrev cX7_init : ByteArray := prog_9_method_1_code
def yX7_init : MethodName := ⟨RX7, "<init>", "()V"⟩
abbrev cX7_makeAnew : ByteArray := prog_9_method_2_code
def yX7_makeAnew : MethodName := ⟨RX7, "makeAnew", "(LCoconutShies$Booth;)V"⟩
abbrev cX7_becomeAs : ByteArray := prog_9_method_3_code
def yX7_becomeAs : MethodName := ⟨RX7, "becomeAs", "(LCoconutShies$Stand;)V"⟩
abbrev cX7_isUp : ByteArray := prog_9_method_4_code
def yX7_isUp : MethodName := ⟨RX7, "isUp", "(I)Z"⟩
abbrev cX7_howManyDown : ByteArray := prog_9_method_5_code
def yX7_howManyDown : MethodName := ⟨RX7, "howManyDown", "()I"⟩
abbrev cX7_firmness : ByteArray := prog_9_method_6_code
def yX7_firmness : MethodName := ⟨RX7, "firmness", "(LCoconutShies$Booth;I)I"⟩
abbrev cX7_setUp : ByteArray := prog_9_method_7_code
def yX7_setUp : MethodName := ⟨RX7, "setUp", "(I)Z"⟩
abbrev cX7_turnNail : ByteArray := prog_9_method_8_code
def yX7_turnNail : MethodName := ⟨RX7, "turnNail", "(I)Z"⟩
abbrev cX7_takePenny : ByteArray := prog_9_method_9_code
def yX7_takePenny : MethodName := ⟨RX7, "takePenny", "()Z"⟩
abbrev cX7_throwBy : ByteArray := prog_9_method_10_code
def yX7_throwBy : MethodName := ⟨RX7, "throwBy", "(LCoconutShies$Booth;III)I"⟩
abbrev cX7_canBeThrownAt : ByteArray := prog_9_method_11_code
def yX7_canBeThrownAt : MethodName := ⟨RX7, "canBeThrownAt", "(LCoconutShies$Booth;II)Z"⟩
abbrev cX7_strike : ByteArray := prog_9_method_12_code
def yX7_strike : MethodName := ⟨RX7, "strike", "(LCoconutShies$Booth;II)I"⟩
abbrev cX7_fall : ByteArray := prog_9_method_13_code
def yX7_fall : MethodName := ⟨RX7, "fall", "(LCoconutShies$Booth;LCoconutShies$Stand;III)I"⟩
def RX8 : String := "CoconutShies$Text"
def TX8 : u_T := fun k => match k with
  | 0 => ("CoconutShies$Text", "bytes", "[I", true)
  | _ => ("CoconutShies$Text", "length", "I", false)
def tyX8 : Nat → FieldType := fun k => match k with
  | 0 => .array .int
  | _ => .int
abbrev wsX80 : List Cond := u_ws RX8 TX8 2
theorem nmX8 : ∀ a, a < 2 → ∀ b, b < 2 → a ≠ b → (TX8 a).2.1 ≠ (TX8 b).2.1 := by decide +kernel
theorem tyX8_ok : ∀ k, k < 2 → parseFieldDescriptor (TX8 k).2.2.1 = some (tyX8 k) := by decide +kernel
abbrev cX8_init : ByteArray := prog_10_method_1_code
def yX8_init : MethodName := ⟨RX8, "<init>", "()V"⟩
abbrev cX8_append : ByteArray := prog_10_method_2_code
def yX8_append : MethodName := ⟨RX8, "append", "(I)Z"⟩
abbrev cX8_letterAt : ByteArray := prog_10_method_3_code
def yX8_letterAt : MethodName := ⟨RX8, "letterAt", "(I)I"⟩
abbrev cX8_figureAt : ByteArray := prog_10_method_4_code
def yX8_figureAt : MethodName := ⟨RX8, "figureAt", "(III)I"⟩
def RX9 : String := "CoconutShies"
def TX9 : u_T := fun k => match k with
  | 0 => ("CoconutShies", "text", "LCoconutShies$Text;", true)
  | 1 => ("CoconutShies", "stand", "LCoconutShies$Stand;", true)
  | 2 => ("CoconutShies", "acts", "LCoconutShies$Acts;", true)
  | 3 => ("CoconutShies", "sightings", "LCoconutShies$Sightings;", true)
  | 4 => ("CoconutShies", "slots", "LCoconutShies$Slots;", true)
  | 5 => ("CoconutShies", "seeker", "LCoconutShies$Seeker;", true)
  | 6 => ("CoconutShies", "parties", "LCoconutShies$Parties;", true)
  | 7 => ("CoconutShies", "chances", "LCoconutShies$Chances;", true)
  | 8 => ("CoconutShies", "booth", "LCoconutShies$Booth;", false)
  | 9 => ("CoconutShies", "draft", "LCoconutShies$Booth;", false)
  | _ => ("CoconutShies", "seedNow", "J", false)
def tyX9 : Nat → FieldType := fun k => match k with
  | 0 => .object "CoconutShies$Text"
  | 1 => .object "CoconutShies$Stand"
  | 2 => .object "CoconutShies$Acts"
  | 3 => .object "CoconutShies$Sightings"
  | 4 => .object "CoconutShies$Slots"
  | 5 => .object "CoconutShies$Seeker"
  | 6 => .object "CoconutShies$Parties"
  | 7 => .object "CoconutShies$Chances"
  | 8 => .object "CoconutShies$Booth"
  | 9 => .object "CoconutShies$Booth"
  | _ => .long
abbrev wsX90 : List Cond := u_ws RX9 TX9 11
theorem nmX9 : ∀ a, a < 11 → ∀ b, b < 11 → a ≠ b → (TX9 a).2.1 ≠ (TX9 b).2.1 := by decide +kernel
theorem tyX9_ok : ∀ k, k < 11 → parseFieldDescriptor (TX9 k).2.2.1 = some (tyX9 k) := by decide +kernel
abbrev cX9_init : ByteArray := prog_1_method_1_code
def yX9_init : MethodName := ⟨RX9, "<init>", "()V"⟩
abbrev cX9_write : ByteArray := prog_1_method_2_code
def yX9_write : MethodName := ⟨RX9, "write", "(I)I"⟩
abbrev cX9_wipe : ByteArray := prog_1_method_3_code
def yX9_wipe : MethodName := ⟨RX9, "wipe", "()I"⟩
abbrev cX9_fault : ByteArray := prog_1_method_4_code
def yX9_fault : MethodName := ⟨RX9, "fault", "()I"⟩
abbrev cX9_fair : ByteArray := prog_1_method_5_code
def yX9_fair : MethodName := ⟨RX9, "fair", "()I"⟩
abbrev cX9_about : ByteArray := prog_1_method_6_code
def yX9_about : MethodName := ⟨RX9, "about", "(I)I"⟩
abbrev cX9_husk : ByteArray := prog_1_method_7_code
def yX9_husk : MethodName := ⟨RX9, "husk", "(II)I"⟩
abbrev cX9_thrower : ByteArray := prog_1_method_8_code
def yX9_thrower : MethodName := ⟨RX9, "thrower", "(II)I"⟩
abbrev cX9_lands : ByteArray := prog_1_method_9_code
def yX9_lands : MethodName := ⟨RX9, "lands", "(III)I"⟩
abbrev cX9_toss : ByteArray := prog_1_method_10_code
def yX9_toss : MethodName := ⟨RX9, "toss", "(III)I"⟩
abbrev cX9_set : ByteArray := prog_1_method_11_code
def yX9_set : MethodName := ⟨RX9, "set", "(I)I"⟩
abbrev cX9_nail : ByteArray := prog_1_method_12_code
def yX9_nail : MethodName := ⟨RX9, "nail", "(I)I"⟩
abbrev cX9_pay : ByteArray := prog_1_method_13_code
def yX9_pay : MethodName := ⟨RX9, "pay", "()I"⟩
abbrev cX9_blow : ByteArray := prog_1_method_14_code
def yX9_blow : MethodName := ⟨RX9, "blow", "(I)I"⟩
abbrev cX9_undo : ByteArray := prog_1_method_15_code
def yX9_undo : MethodName := ⟨RX9, "undo", "()I"⟩
abbrev cX9_felled : ByteArray := prog_1_method_16_code
def yX9_felled : MethodName := ⟨RX9, "felled", "(III)I"⟩
abbrev cX9_fewest : ByteArray := prog_1_method_17_code
def yX9_fewest : MethodName := ⟨RX9, "fewest", "(IZ)I"⟩
abbrev cX9_winds : ByteArray := prog_1_method_18_code
def yX9_winds : MethodName := ⟨RX9, "winds", "(II)I"⟩
abbrev cX9_match : ByteArray := prog_1_method_19_code
def yX9_match : MethodName := ⟨RX9, "match", "(Z)I"⟩
abbrev cX9_nails : ByteArray := prog_1_method_20_code
def yX9_nails : MethodName := ⟨RX9, "nails", "(I)I"⟩
abbrev cX9_judge : ByteArray := prog_1_method_21_code
def yX9_judge : MethodName := ⟨RX9, "judge", "(II)I"⟩
abbrev cX9_share : ByteArray := prog_1_method_22_code
def yX9_share : MethodName := ⟨RX9, "share", "(IZ)I"⟩
abbrev cX9_see : ByteArray := prog_1_method_23_code
def yX9_see : MethodName := ⟨RX9, "see", "(III)I"⟩
abbrev cX9_unsee : ByteArray := prog_1_method_24_code
def yX9_unsee : MethodName := ⟨RX9, "unsee", "()I"⟩
abbrev cX9_holds : ByteArray := prog_1_method_25_code
def yX9_holds : MethodName := ⟨RX9, "holds", "(I)I"⟩
abbrev cX9_rests : ByteArray := prog_1_method_26_code
def yX9_rests : MethodName := ⟨RX9, "rests", "(I)I"⟩
abbrev cX9_odds : ByteArray := prog_1_method_27_code
def yX9_odds : MethodName := ⟨RX9, "odds", "(IIIIIZ)I"⟩
abbrev cX9_seed : ByteArray := prog_1_method_28_code
def yX9_seed : MethodName := ⟨RX9, "seed", "(J)J"⟩
abbrev cX9_fairs : ByteArray := prog_1_method_29_code
def yX9_fairs : MethodName := ⟨RX9, "fairs", "(I)I"⟩
abbrev cX9_keep : ByteArray := prog_1_method_30_code
def yX9_keep : MethodName := ⟨RX9, "keep", "(I)I"⟩
abbrev cX9_again : ByteArray := prog_1_method_31_code
def yX9_again : MethodName := ⟨RX9, "again", "(I)I"⟩
abbrev cX9_refusalOfThrow : ByteArray := prog_1_method_32_code
def yX9_refusalOfThrow : MethodName := ⟨RX9, "refusalOfThrow", "(III)I"⟩
abbrev cX9_isPlace : ByteArray := prog_1_method_33_code
def yX9_isPlace : MethodName := ⟨RX9, "isPlace", "(I)Z"⟩
abbrev cX9_bit : ByteArray := prog_1_method_34_code
def yX9_bit : MethodName := ⟨RX9, "bit", "(II)I"⟩
abbrev cX9_newStands : ByteArray := prog_1_method_35_code
def yX9_newStands : MethodName := ⟨RX9, "newStands", "(I)[LCoconutShies$Stand;"⟩
abbrev cX9_ordersOf : ByteArray := prog_1_method_36_code
def yX9_ordersOf : MethodName := ⟨RX9, "ordersOf", "(I)I"⟩
abbrev cX9_hundreds : ByteArray := prog_1_method_37_code
def yX9_hundreds : MethodName := ⟨RX9, "hundreds", "(I)I"⟩
abbrev cX9_inLeastTerms : ByteArray := prog_1_method_38_code
def yX9_inLeastTerms : MethodName := ⟨RX9, "inLeastTerms", "(IIZ)I"⟩
abbrev cX9_commonDivisor : ByteArray := prog_1_method_39_code
def yX9_commonDivisor : MethodName := ⟨RX9, "commonDivisor", "(II)I"⟩
def RX10 : String := "CoconutShiesModel"
def TX10 : u_T := fun k => match k with
  | 0 => ("CoconutShiesModel", "thrown", "I", false)
  | 1 => ("CoconutShiesModel", "text", "[I", true)
  | 2 => ("CoconutShiesModel", "textSize", "I", false)
  | 3 => ("CoconutShiesModel", "place", "I", false)
  | 4 => ("CoconutShiesModel", "husks", "I", false)
  | 5 => ("CoconutShiesModel", "husk", "[I", true)
  | 6 => ("CoconutShiesModel", "throwers", "I", false)
  | 7 => ("CoconutShiesModel", "thrower", "[I", true)
  | 8 => ("CoconutShiesModel", "laws", "I", false)
  | 9 => ("CoconutShiesModel", "law", "[I", true)
  | 10 => ("CoconutShiesModel", "readWind", "I", false)
  | 11 => ("CoconutShiesModel", "readPaid", "I", false)
  | 12 => ("CoconutShiesModel", "readHusks", "I", false)
  | 13 => ("CoconutShiesModel", "readHusk", "[I", true)
  | 14 => ("CoconutShiesModel", "readThrowers", "I", false)
  | 15 => ("CoconutShiesModel", "readThrower", "[I", true)
  | 16 => ("CoconutShiesModel", "readLaws", "I", false)
  | 17 => ("CoconutShiesModel", "readLaw", "[I", true)
  | 18 => ("CoconutShiesModel", "page", "[I", true)
  | 19 => ("CoconutShiesModel", "trial", "[I", true)
  | 20 => ("CoconutShiesModel", "base", "[I", true)
  | 21 => ("CoconutShiesModel", "book", "[I", true)
  | 22 => ("CoconutShiesModel", "acts", "I", false)
  | 23 => ("CoconutShiesModel", "kept", "[I", true)
  | 24 => ("CoconutShiesModel", "isKept", "[Z", true)
  | 25 => ("CoconutShiesModel", "seen", "I", false)
  | 26 => ("CoconutShiesModel", "seenHusk", "[I", true)
  | 27 => ("CoconutShiesModel", "seenForce", "[I", true)
  | 28 => ("CoconutShiesModel", "seenFell", "[I", true)
  | 29 => ("CoconutShiesModel", "seed", "J", false)
  | 30 => ("CoconutShiesModel", "fell", "I", false)
  | 31 => ("CoconutShiesModel", "heapHusk", "[I", true)
  | 32 => ("CoconutShiesModel", "heapLaw", "[I", true)
  | 33 => ("CoconutShiesModel", "fewMany", "I", false)
  | 34 => ("CoconutShiesModel", "fewRow", "I", false)
  | 35 => ("CoconutShiesModel", "matchMany", "I", false)
  | 36 => ("CoconutShiesModel", "matchRow", "I", false)
  | 37 => ("CoconutShiesModel", "restMany", "I", false)
  | 38 => ("CoconutShiesModel", "restFirst", "I", false)
  | 39 => ("CoconutShiesModel", "worth", "[I", true)
  | _ => ("CoconutShiesModel", "value", "[I", true)
def tyX10 : Nat → FieldType := fun k => match k with
  | 0 => .int
  | 1 => .array .int
  | 2 => .int
  | 3 => .int
  | 4 => .int
  | 5 => .array .int
  | 6 => .int
  | 7 => .array .int
  | 8 => .int
  | 9 => .array .int
  | 10 => .int
  | 11 => .int
  | 12 => .int
  | 13 => .array .int
  | 14 => .int
  | 15 => .array .int
  | 16 => .int
  | 17 => .array .int
  | 18 => .array .int
  | 19 => .array .int
  | 20 => .array .int
  | 21 => .array .int
  | 22 => .int
  | 23 => .array .int
  | 24 => .array .boolean
  | 25 => .int
  | 26 => .array .int
  | 27 => .array .int
  | 28 => .array .int
  | 29 => .long
  | 30 => .int
  | 31 => .array .int
  | 32 => .array .int
  | 33 => .int
  | 34 => .int
  | 35 => .int
  | 36 => .int
  | 37 => .int
  | 38 => .int
  | 39 => .array .int
  | _ => .array .int
abbrev wsX100 : List Cond := u_ws RX10 TX10 41
theorem nmX10 : ∀ a, a < 41 → ∀ b, b < 41 → a ≠ b → (TX10 a).2.1 ≠ (TX10 b).2.1 := by decide +kernel
theorem tyX10_ok : ∀ k, k < 41 → parseFieldDescriptor (TX10 k).2.2.1 = some (tyX10 k) := by decide +kernel
abbrev cX10_init : ByteArray := prog_12_method_1_code
def yX10_init : MethodName := ⟨RX10, "<init>", "()V"⟩
abbrev cX10_in : ByteArray := prog_12_method_3_code
def yX10_in : MethodName := ⟨RX10, "in", "(JJJ)Z"⟩
abbrev cX10_has : ByteArray := prog_12_method_4_code
def yX10_has : MethodName := ⟨RX10, "has", "(II)Z"⟩
abbrev cX10_many : ByteArray := prog_12_method_5_code
def yX10_many : MethodName := ⟨RX10, "many", "(I)I"⟩
abbrev cX10_noHusk : ByteArray := prog_12_method_6_code
def yX10_noHusk : MethodName := ⟨RX10, "noHusk", "(I)Z"⟩
abbrev cX10_noThrower : ByteArray := prog_12_method_7_code
def yX10_noThrower : MethodName := ⟨RX10, "noThrower", "(I)Z"⟩
abbrev cX10_write : ByteArray := prog_12_method_8_code
def yX10_write : MethodName := ⟨RX10, "write", "(I)I"⟩
abbrev cX10_wipe : ByteArray := prog_12_method_9_code
def yX10_wipe : MethodName := ⟨RX10, "wipe", "()I"⟩
abbrev cX10_figure : ByteArray := prog_12_method_10_code
def yX10_figure : MethodName := ⟨RX10, "figure", "(II)I"⟩
abbrev cX10_readPlace : ByteArray := prog_12_method_11_code
def yX10_readPlace : MethodName := ⟨RX10, "readPlace", "()I"⟩
abbrev cX10_readOneHusk : ByteArray := prog_12_method_12_code
def yX10_readOneHusk : MethodName := ⟨RX10, "readOneHusk", "()Z"⟩
abbrev cX10_readOneThrower : ByteArray := prog_12_method_13_code
def yX10_readOneThrower : MethodName := ⟨RX10, "readOneThrower", "()Z"⟩
abbrev cX10_readOneLaw : ByteArray := prog_12_method_14_code
def yX10_readOneLaw : MethodName := ⟨RX10, "readOneLaw", "()Z"⟩
abbrev cX10_readPart : ByteArray := prog_12_method_15_code
def yX10_readPart : MethodName := ⟨RX10, "readPart", "()Z"⟩
abbrev cX10_readFair : ByteArray := prog_12_method_16_code
def yX10_readFair : MethodName := ⟨RX10, "readFair", "()I"⟩
abbrev cX10_fault : ByteArray := prog_12_method_17_code
def yX10_fault : MethodName := ⟨RX10, "fault", "()I"⟩
abbrev cX10_copyRow : ByteArray := prog_12_method_18_code
def yX10_copyRow : MethodName := ⟨RX10, "copyRow", "([I[II)V"⟩
abbrev cX10_fair : ByteArray := prog_12_method_19_code
def yX10_fair : MethodName := ⟨RX10, "fair", "()I"⟩
abbrev cX10_firm : ByteArray := prog_12_method_20_code
def yX10_firm : MethodName := ⟨RX10, "firm", "([II)I"⟩
abbrev cX10_blows : ByteArray := prog_12_method_21_code
def yX10_blows : MethodName := ⟨RX10, "blows", "([II)I"⟩
abbrev cX10_force : ByteArray := prog_12_method_22_code
def yX10_force : MethodName := ⟨RX10, "force", "(I)I"⟩
abbrev cX10_landing : ByteArray := prog_12_method_23_code
def yX10_landing : MethodName := ⟨RX10, "landing", "([IIII)I"⟩
abbrev cX10_huskAt : ByteArray := prog_12_method_24_code
def yX10_huskAt : MethodName := ⟨RX10, "huskAt", "(I)I"⟩
abbrev cX10_stand : ByteArray := prog_12_method_25_code
def yX10_stand : MethodName := ⟨RX10, "stand", "([II)V"⟩
abbrev cX10_fall : ByteArray := prog_12_method_26_code
def yX10_fall : MethodName := ⟨RX10, "fall", "([II)V"⟩
abbrev cX10_goThrow : ByteArray := prog_12_method_27_code
def yX10_goThrow : MethodName := ⟨RX10, "goThrow", "([IIII)V"⟩
abbrev cX10_placeAt : ByteArray := prog_12_method_28_code
def yX10_placeAt : MethodName := ⟨RX10, "placeAt", "([III)I"⟩
abbrev cX10_about : ByteArray := prog_12_method_29_code
def yX10_about : MethodName := ⟨RX10, "about", "(I)I"⟩
abbrev cX10_husk : ByteArray := prog_12_method_30_code
def yX10_husk : MethodName := ⟨RX10, "husk", "(II)I"⟩
abbrev cX10_thrower : ByteArray := prog_12_method_31_code
def yX10_thrower : MethodName := ⟨RX10, "thrower", "(II)I"⟩
abbrev cX10_noThrow : ByteArray := prog_12_method_32_code
def yX10_noThrow : MethodName := ⟨RX10, "noThrow", "(III)I"⟩
abbrev cX10_lands : ByteArray := prog_12_method_33_code
def yX10_lands : MethodName := ⟨RX10, "lands", "(III)I"⟩
abbrev cX10_note : ByteArray := prog_12_method_34_code
def yX10_note : MethodName := ⟨RX10, "note", "()V"⟩
abbrev cX10_toss : ByteArray := prog_12_method_35_code
def yX10_toss : MethodName := ⟨RX10, "toss", "(III)I"⟩
abbrev cX10_set : ByteArray := prog_12_method_36_code
def yX10_set : MethodName := ⟨RX10, "set", "(I)I"⟩
abbrev cX10_nail : ByteArray := prog_12_method_37_code
def yX10_nail : MethodName := ⟨RX10, "nail", "(I)I"⟩
abbrev cX10_paidMore : ByteArray := prog_12_method_38_code
def yX10_paidMore : MethodName := ⟨RX10, "paidMore", "(I)I"⟩
abbrev cX10_pay : ByteArray := prog_12_method_39_code
def yX10_pay : MethodName := ⟨RX10, "pay", "()I"⟩
abbrev cX10_blow : ByteArray := prog_12_method_40_code
def yX10_blow : MethodName := ⟨RX10, "blow", "(I)I"⟩
abbrev cX10_undo : ByteArray := prog_12_method_41_code
def yX10_undo : MethodName := ⟨RX10, "undo", "()I"⟩
abbrev cX10_felled : ByteArray := prog_12_method_42_code
def yX10_felled : MethodName := ⟨RX10, "felled", "(III)I"⟩
abbrev cX10_power : ByteArray := prog_12_method_43_code
def yX10_power : MethodName := ⟨RX10, "power", "(II)I"⟩
abbrev cX10_throwsAt : ByteArray := prog_12_method_44_code
def yX10_throwsAt : MethodName := ⟨RX10, "throwsAt", "(II)Z"⟩
abbrev cX10_findFewest : ByteArray := prog_12_method_45_code
def yX10_findFewest : MethodName := ⟨RX10, "findFewest", "(I)V"⟩
abbrev cX10_fewest : ByteArray := prog_12_method_46_code
def yX10_fewest : MethodName := ⟨RX10, "fewest", "(IZ)I"⟩
abbrev cX10_winds : ByteArray := prog_12_method_47_code
def yX10_winds : MethodName := ⟨RX10, "winds", "(II)I"⟩
abbrev cX10_findMatch : ByteArray := prog_12_method_48_code
def yX10_findMatch : MethodName := ⟨RX10, "findMatch", "(I)V"⟩
abbrev cX10_match : ByteArray := prog_12_method_49_code
def yX10_match : MethodName := ⟨RX10, "match", "(Z)I"⟩
abbrev cX10_holdsUp : ByteArray := prog_12_method_50_code
def yX10_holdsUp : MethodName := ⟨RX10, "holdsUp", "(I)Z"⟩
abbrev cX10_nails : ByteArray := prog_12_method_51_code
def yX10_nails : MethodName := ⟨RX10, "nails", "(I)I"⟩
abbrev cX10_does : ByteArray := prog_12_method_52_code
def yX10_does : MethodName := ⟨RX10, "does", "(I)Z"⟩
abbrev cX10_judge : ByteArray := prog_12_method_53_code
def yX10_judge : MethodName := ⟨RX10, "judge", "(II)I"⟩
abbrev cX10_ways : ByteArray := prog_12_method_54_code
def yX10_ways : MethodName := ⟨RX10, "ways", "(I)I"⟩
abbrev cX10_divisor : ByteArray := prog_12_method_55_code
def yX10_divisor : MethodName := ⟨RX10, "divisor", "(II)I"⟩
abbrev cX10_fraction : ByteArray := prog_12_method_56_code
def yX10_fraction : MethodName := ⟨RX10, "fraction", "(IIZ)I"⟩
abbrev cX10_share : ByteArray := prog_12_method_57_code
def yX10_share : MethodName := ⟨RX10, "share", "(IZ)I"⟩
abbrev cX10_see : ByteArray := prog_12_method_58_code
def yX10_see : MethodName := ⟨RX10, "see", "(III)I"⟩
abbrev cX10_unsee : ByteArray := prog_12_method_59_code
def yX10_unsee : MethodName := ⟨RX10, "unsee", "()I"⟩
abbrev cX10_holds : ByteArray := prog_12_method_60_code
def yX10_holds : MethodName := ⟨RX10, "holds", "(I)I"⟩
abbrev cX10_layWorth : ByteArray := prog_12_method_61_code
def yX10_layWorth : MethodName := ⟨RX10, "layWorth", "(II)V"⟩
abbrev cX10_findRests : ByteArray := prog_12_method_62_code
def yX10_findRests : MethodName := ⟨RX10, "findRests", "()V"⟩
abbrev cX10_rests : ByteArray := prog_12_method_63_code
def yX10_rests : MethodName := ⟨RX10, "rests", "(I)I"⟩
abbrev cX10_odds : ByteArray := prog_12_method_64_code
def yX10_odds : MethodName := ⟨RX10, "odds", "(IIIIIZ)I"⟩
abbrev cX10_seed : ByteArray := prog_12_method_65_code
def yX10_seed : MethodName := ⟨RX10, "seed", "(J)J"⟩
abbrev cX10_fairs : ByteArray := prog_12_method_66_code
def yX10_fairs : MethodName := ⟨RX10, "fairs", "(I)I"⟩
abbrev cX10_keep : ByteArray := prog_12_method_67_code
def yX10_keep : MethodName := ⟨RX10, "keep", "(I)I"⟩
abbrev cX10_again : ByteArray := prog_12_method_68_code
def yX10_again : MethodName := ⟨RX10, "again", "(I)I"⟩
def RJ6 : String := "java/lang/Integer"
abbrev cJ6_bitCount_0f7a4 : ByteArray := prog_13_method_49_code
def yJ6_bitCount_0f7a4 : MethodName := ⟨RJ6, "bitCount", "(I)I"⟩
def RJ9 : String := "java/lang/Math"
abbrev cJ9_max_7cf53 : ByteArray := prog_14_method_65_code
def yJ9_max_7cf53 : MethodName := ⟨RJ9, "max", "(II)I"⟩
abbrev cJ9_min_7cf53 : ByteArray := prog_14_method_69_code
def yJ9_min_7cf53 : MethodName := ⟨RJ9, "min", "(II)I"⟩
def RJ10 : String := "java/lang/System"
def RL : String := "CoconutShiesLaw"
abbrev cL_law : ByteArray := code
def yL_law : MethodName := ⟨RL, "law", "([I)Z"⟩
abbrev vwCl : List vw_C := [(RX0, TX0, 3), (RX1, TX1, 14), (RX2, TX2, 4), (RX3, TX3, 5), (RX4, TX4, 3), (RX5, TX5, 4), (RX6, TX6, 2), (RX7, TX7, 7), (RX8, TX8, 2), (RX9, TX9, 11), (RX10, TX10, 41)]
