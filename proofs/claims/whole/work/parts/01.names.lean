def lw_okq (q : MethodName × Nat) : Prop := (q.1.cls ≠ "java/lang/invoke/MethodHandle" ∧ q.1.cls ≠ "java/lang/invoke/VarHandle") ∧ Cond.instantiable q.1.cls q.2 ∈ tables_1 ∧ Cond.privateMethod q.1 ∈ tables_1 ∧ Cond.instanceMethod q.1 ∈ tables_1
theorem lw_p0 : lw_okq (⟨"AnySites", "mark", "()V"⟩, 10) := ⟨⟨by decide +kernel, by decide +kernel⟩, List.mem_of_getElem? (i := 17) (by decide +kernel), List.mem_of_getElem? (i := 359) (by decide +kernel), List.mem_of_getElem? (i := 360) (by decide +kernel)⟩
theorem lw_p1 : lw_okq (⟨"AnySites$Areas", "measure", "()V"⟩, 6) := ⟨⟨by decide +kernel, by decide +kernel⟩, List.mem_of_getElem? (i := 31) (by decide +kernel), List.mem_of_getElem? (i := 403) (by decide +kernel), List.mem_of_getElem? (i := 404) (by decide +kernel)⟩
theorem lw_p2 : lw_okq (⟨"AnySites$Areas", "shorten", "(III)V"⟩, 6) := ⟨⟨by decide +kernel, by decide +kernel⟩, List.mem_of_getElem? (i := 31) (by decide +kernel), List.mem_of_getElem? (i := 411) (by decide +kernel), List.mem_of_getElem? (i := 412) (by decide +kernel)⟩
theorem lw_p3 : lw_okq (⟨"AnySites", "settled", "(I)I"⟩, 10) := ⟨⟨by decide +kernel, by decide +kernel⟩, List.mem_of_getElem? (i := 17) (by decide +kernel), List.mem_of_getElem? (i := 419) (by decide +kernel), List.mem_of_getElem? (i := 420) (by decide +kernel)⟩
theorem lw_p4 : lw_okq (⟨"AnySites", "counted", "(I)I"⟩, 10) := ⟨⟨by decide +kernel, by decide +kernel⟩, List.mem_of_getElem? (i := 17) (by decide +kernel), List.mem_of_getElem? (i := 430) (by decide +kernel), List.mem_of_getElem? (i := 431) (by decide +kernel)⟩
theorem lw_p5 : lw_okq (⟨"AnySites$Outlook", "stepLengthFrom", "(I)I"⟩, 3) := ⟨⟨by decide +kernel, by decide +kernel⟩, List.mem_of_getElem? (i := 222) (by decide +kernel), List.mem_of_getElem? (i := 483) (by decide +kernel), List.mem_of_getElem? (i := 484) (by decide +kernel)⟩
theorem lw_p6 : lw_okq (⟨"AnySites$Sites", "leaveQueue", "(I)V"⟩, 7) := ⟨⟨by decide +kernel, by decide +kernel⟩, List.mem_of_getElem? (i := 72) (by decide +kernel), List.mem_of_getElem? (i := 548) (by decide +kernel), List.mem_of_getElem? (i := 549) (by decide +kernel)⟩
theorem lw_p7 : lw_okq (⟨"AnySites", "areaValue", "(II)I"⟩, 10) := ⟨⟨by decide +kernel, by decide +kernel⟩, List.mem_of_getElem? (i := 17) (by decide +kernel), List.mem_of_getElem? (i := 563) (by decide +kernel), List.mem_of_getElem? (i := 564) (by decide +kernel)⟩
theorem lw_p8 : lw_okq (⟨"AnySites", "siteValue", "(II)I"⟩, 10) := ⟨⟨by decide +kernel, by decide +kernel⟩, List.mem_of_getElem? (i := 17) (by decide +kernel), List.mem_of_getElem? (i := 586) (by decide +kernel), List.mem_of_getElem? (i := 587) (by decide +kernel)⟩
theorem lw_p9 : lw_okq (⟨"AnySites$Outlook", "addCarried", "()V"⟩, 3) := ⟨⟨by decide +kernel, by decide +kernel⟩, List.mem_of_getElem? (i := 222) (by decide +kernel), List.mem_of_getElem? (i := 598) (by decide +kernel), List.mem_of_getElem? (i := 599) (by decide +kernel)⟩
theorem lw_p10 : lw_okq (⟨"AnySites$Failures", "staysCalm", "(I)Z"⟩, 3) := ⟨⟨by decide +kernel, by decide +kernel⟩, List.mem_of_getElem? (i := 262) (by decide +kernel), List.mem_of_getElem? (i := 618) (by decide +kernel), List.mem_of_getElem? (i := 619) (by decide +kernel)⟩
theorem lw_p11 : lw_okq (⟨"AnySites", "sessionValue", "(II)I"⟩, 10) := ⟨⟨by decide +kernel, by decide +kernel⟩, List.mem_of_getElem? (i := 17) (by decide +kernel), List.mem_of_getElem? (i := 650) (by decide +kernel), List.mem_of_getElem? (i := 651) (by decide +kernel)⟩
theorem lw_p12 : lw_okq (⟨"AnySites$Acts", "ageSessions", "()V"⟩, 3) := ⟨⟨by decide +kernel, by decide +kernel⟩, List.mem_of_getElem? (i := 278) (by decide +kernel), List.mem_of_getElem? (i := 679) (by decide +kernel), List.mem_of_getElem? (i := 680) (by decide +kernel)⟩
theorem lw_p13 : lw_okq (⟨"AnySites$Acts", "outlives", "(II)Z"⟩, 3) := ⟨⟨by decide +kernel, by decide +kernel⟩, List.mem_of_getElem? (i := 278) (by decide +kernel), List.mem_of_getElem? (i := 684) (by decide +kernel), List.mem_of_getElem? (i := 685) (by decide +kernel)⟩
theorem lw_p14 : lw_okq (⟨"AnySites$Acts", "advanceDrain", "()V"⟩, 3) := ⟨⟨by decide +kernel, by decide +kernel⟩, List.mem_of_getElem? (i := 278) (by decide +kernel), List.mem_of_getElem? (i := 691) (by decide +kernel), List.mem_of_getElem? (i := 692) (by decide +kernel)⟩
theorem lw_p15 : lw_okq (⟨"AnySites$Acts", "noteLastSites", "()V"⟩, 3) := ⟨⟨by decide +kernel, by decide +kernel⟩, List.mem_of_getElem? (i := 278) (by decide +kernel), List.mem_of_getElem? (i := 697) (by decide +kernel), List.mem_of_getElem? (i := 698) (by decide +kernel)⟩
def lw_privs_1 : List (MethodName × Nat) := [(⟨"AnySites", "mark", "()V"⟩, 10), (⟨"AnySites$Areas", "measure", "()V"⟩, 6), (⟨"AnySites$Areas", "shorten", "(III)V"⟩, 6), (⟨"AnySites", "settled", "(I)I"⟩, 10), (⟨"AnySites", "counted", "(I)I"⟩, 10), (⟨"AnySites$Outlook", "stepLengthFrom", "(I)I"⟩, 3), (⟨"AnySites$Sites", "leaveQueue", "(I)V"⟩, 7), (⟨"AnySites", "areaValue", "(II)I"⟩, 10), (⟨"AnySites", "siteValue", "(II)I"⟩, 10), (⟨"AnySites$Outlook", "addCarried", "()V"⟩, 3), (⟨"AnySites$Failures", "staysCalm", "(I)Z"⟩, 3), (⟨"AnySites", "sessionValue", "(II)I"⟩, 10), (⟨"AnySites$Acts", "ageSessions", "()V"⟩, 3), (⟨"AnySites$Acts", "outlives", "(II)Z"⟩, 3), (⟨"AnySites$Acts", "advanceDrain", "()V"⟩, 3), (⟨"AnySites$Acts", "noteLastSites", "()V"⟩, 3)]
theorem lw_r1 : ∀ q ∈ lw_privs_1, lw_okq q := List.forall_mem_cons.mpr ⟨lw_p0, List.forall_mem_cons.mpr ⟨lw_p1, List.forall_mem_cons.mpr ⟨lw_p2, List.forall_mem_cons.mpr ⟨lw_p3, List.forall_mem_cons.mpr ⟨lw_p4, List.forall_mem_cons.mpr ⟨lw_p5, List.forall_mem_cons.mpr ⟨lw_p6, List.forall_mem_cons.mpr ⟨lw_p7, List.forall_mem_cons.mpr ⟨lw_p8, List.forall_mem_cons.mpr ⟨lw_p9, List.forall_mem_cons.mpr ⟨lw_p10, List.forall_mem_cons.mpr ⟨lw_p11, List.forall_mem_cons.mpr ⟨lw_p12, List.forall_mem_cons.mpr ⟨lw_p13, List.forall_mem_cons.mpr ⟨lw_p14, List.forall_mem_cons.mpr ⟨lw_p15, fun _ h => absurd h List.not_mem_nil⟩⟩⟩⟩⟩⟩⟩⟩⟩⟩⟩⟩⟩⟩⟩⟩
theorem lw_p16 : lw_okq (⟨"AnySites$Planner", "hasTooLittleRoom", "(I)Z"⟩, 5) := ⟨⟨by decide +kernel, by decide +kernel⟩, List.mem_of_getElem? (i := 240) (by decide +kernel), List.mem_of_getElem? (i := 710) (by decide +kernel), List.mem_of_getElem? (i := 711) (by decide +kernel)⟩
theorem lw_p17 : lw_okq (⟨"AnySites$Planner", "roomAround", "(II)I"⟩, 5) := ⟨⟨by decide +kernel, by decide +kernel⟩, List.mem_of_getElem? (i := 240) (by decide +kernel), List.mem_of_getElem? (i := 715) (by decide +kernel), List.mem_of_getElem? (i := 716) (by decide +kernel)⟩
theorem lw_p18 : lw_okq (⟨"AnySites$Planner", "demandAround", "(I)I"⟩, 5) := ⟨⟨by decide +kernel, by decide +kernel⟩, List.mem_of_getElem? (i := 240) (by decide +kernel), List.mem_of_getElem? (i := 720) (by decide +kernel), List.mem_of_getElem? (i := 721) (by decide +kernel)⟩
theorem lw_p19 : lw_okq (⟨"AnySites$Planner", "spreads", "(III)Z"⟩, 5) := ⟨⟨by decide +kernel, by decide +kernel⟩, List.mem_of_getElem? (i := 240) (by decide +kernel), List.mem_of_getElem? (i := 730) (by decide +kernel), List.mem_of_getElem? (i := 731) (by decide +kernel)⟩
theorem lw_p20 : lw_okq (⟨"AnySites$Failures", "withdraws", "(III)Z"⟩, 3) := ⟨⟨by decide +kernel, by decide +kernel⟩, List.mem_of_getElem? (i := 262) (by decide +kernel), List.mem_of_getElem? (i := 763) (by decide +kernel), List.mem_of_getElem? (i := 764) (by decide +kernel)⟩
theorem lw_p21 : lw_okq (⟨"AnySites$Script", "begin", "(I)V"⟩, 7) := ⟨⟨by decide +kernel, by decide +kernel⟩, List.mem_of_getElem? (i := 294) (by decide +kernel), List.mem_of_getElem? (i := 809) (by decide +kernel), List.mem_of_getElem? (i := 810) (by decide +kernel)⟩
theorem lw_p22 : lw_okq (⟨"AnySites$Script", "takesDigit", "(II)Z"⟩, 7) := ⟨⟨by decide +kernel, by decide +kernel⟩, List.mem_of_getElem? (i := 294) (by decide +kernel), List.mem_of_getElem? (i := 813) (by decide +kernel), List.mem_of_getElem? (i := 814) (by decide +kernel)⟩
theorem lw_p23 : lw_okq (⟨"AnySites", "countValue", "(I)I"⟩, 10) := ⟨⟨by decide +kernel, by decide +kernel⟩, List.mem_of_getElem? (i := 17) (by decide +kernel), List.mem_of_getElem? (i := 856) (by decide +kernel), List.mem_of_getElem? (i := 857) (by decide +kernel)⟩
theorem lw_p24 : lw_okq (⟨"AnySites", "digestOfAreas", "(J)J"⟩, 10) := ⟨⟨by decide +kernel, by decide +kernel⟩, List.mem_of_getElem? (i := 17) (by decide +kernel), List.mem_of_getElem? (i := 869) (by decide +kernel), List.mem_of_getElem? (i := 870) (by decide +kernel)⟩
theorem lw_p25 : lw_okq (⟨"AnySitesModel", "canArea", "(I)I"⟩, 17) := ⟨⟨by decide +kernel, by decide +kernel⟩, List.mem_of_getElem? (i := 874) (by decide +kernel), List.mem_of_getElem? (i := 936) (by decide +kernel), List.mem_of_getElem? (i := 937) (by decide +kernel)⟩
theorem lw_p26 : lw_okq (⟨"AnySitesModel", "refuses", "(I)I"⟩, 17) := ⟨⟨by decide +kernel, by decide +kernel⟩, List.mem_of_getElem? (i := 874) (by decide +kernel), List.mem_of_getElem? (i := 944) (by decide +kernel), List.mem_of_getElem? (i := 945) (by decide +kernel)⟩
theorem lw_p27 : lw_okq (⟨"AnySitesModel", "keep", "()V"⟩, 17) := ⟨⟨by decide +kernel, by decide +kernel⟩, List.mem_of_getElem? (i := 874) (by decide +kernel), List.mem_of_getElem? (i := 948) (by decide +kernel), List.mem_of_getElem? (i := 949) (by decide +kernel)⟩
theorem lw_p28 : lw_okq (⟨"AnySitesModel", "areaNow", "(I)I"⟩, 17) := ⟨⟨by decide +kernel, by decide +kernel⟩, List.mem_of_getElem? (i := 874) (by decide +kernel), List.mem_of_getElem? (i := 952) (by decide +kernel), List.mem_of_getElem? (i := 953) (by decide +kernel)⟩
theorem lw_p29 : lw_okq (⟨"AnySitesModel", "isArea", "(I)Z"⟩, 17) := ⟨⟨by decide +kernel, by decide +kernel⟩, List.mem_of_getElem? (i := 874) (by decide +kernel), List.mem_of_getElem? (i := 960) (by decide +kernel), List.mem_of_getElem? (i := 961) (by decide +kernel)⟩
theorem lw_p30 : lw_okq (⟨"AnySitesModel", "canLine", "(III)I"⟩, 17) := ⟨⟨by decide +kernel, by decide +kernel⟩, List.mem_of_getElem? (i := 874) (by decide +kernel), List.mem_of_getElem? (i := 968) (by decide +kernel), List.mem_of_getElem? (i := 969) (by decide +kernel)⟩
theorem lw_p31 : lw_okq (⟨"AnySitesModel", "lineNow", "(III)I"⟩, 17) := ⟨⟨by decide +kernel, by decide +kernel⟩, List.mem_of_getElem? (i := 874) (by decide +kernel), List.mem_of_getElem? (i := 973) (by decide +kernel), List.mem_of_getElem? (i := 974) (by decide +kernel)⟩
def lw_privs_2 : List (MethodName × Nat) := [(⟨"AnySites$Planner", "hasTooLittleRoom", "(I)Z"⟩, 5), (⟨"AnySites$Planner", "roomAround", "(II)I"⟩, 5), (⟨"AnySites$Planner", "demandAround", "(I)I"⟩, 5), (⟨"AnySites$Planner", "spreads", "(III)Z"⟩, 5), (⟨"AnySites$Failures", "withdraws", "(III)Z"⟩, 3), (⟨"AnySites$Script", "begin", "(I)V"⟩, 7), (⟨"AnySites$Script", "takesDigit", "(II)Z"⟩, 7), (⟨"AnySites", "countValue", "(I)I"⟩, 10), (⟨"AnySites", "digestOfAreas", "(J)J"⟩, 10), (⟨"AnySitesModel", "canArea", "(I)I"⟩, 17), (⟨"AnySitesModel", "refuses", "(I)I"⟩, 17), (⟨"AnySitesModel", "keep", "()V"⟩, 17), (⟨"AnySitesModel", "areaNow", "(I)I"⟩, 17), (⟨"AnySitesModel", "isArea", "(I)Z"⟩, 17), (⟨"AnySitesModel", "canLine", "(III)I"⟩, 17), (⟨"AnySitesModel", "lineNow", "(III)I"⟩, 17)]
theorem lw_r2 : ∀ q ∈ lw_privs_2, lw_okq q := List.forall_mem_cons.mpr ⟨lw_p16, List.forall_mem_cons.mpr ⟨lw_p17, List.forall_mem_cons.mpr ⟨lw_p18, List.forall_mem_cons.mpr ⟨lw_p19, List.forall_mem_cons.mpr ⟨lw_p20, List.forall_mem_cons.mpr ⟨lw_p21, List.forall_mem_cons.mpr ⟨lw_p22, List.forall_mem_cons.mpr ⟨lw_p23, List.forall_mem_cons.mpr ⟨lw_p24, List.forall_mem_cons.mpr ⟨lw_p25, List.forall_mem_cons.mpr ⟨lw_p26, List.forall_mem_cons.mpr ⟨lw_p27, List.forall_mem_cons.mpr ⟨lw_p28, List.forall_mem_cons.mpr ⟨lw_p29, List.forall_mem_cons.mpr ⟨lw_p30, List.forall_mem_cons.mpr ⟨lw_p31, fun _ h => absurd h List.not_mem_nil⟩⟩⟩⟩⟩⟩⟩⟩⟩⟩⟩⟩⟩⟩⟩⟩
theorem lw_p32 : lw_okq (⟨"AnySitesModel", "canMood", "(II)I"⟩, 17) := ⟨⟨by decide +kernel, by decide +kernel⟩, List.mem_of_getElem? (i := 874) (by decide +kernel), List.mem_of_getElem? (i := 981) (by decide +kernel), List.mem_of_getElem? (i := 982) (by decide +kernel)⟩
theorem lw_p33 : lw_okq (⟨"AnySitesModel", "moodNow", "(II)I"⟩, 17) := ⟨⟨by decide +kernel, by decide +kernel⟩, List.mem_of_getElem? (i := 874) (by decide +kernel), List.mem_of_getElem? (i := 986) (by decide +kernel), List.mem_of_getElem? (i := 987) (by decide +kernel)⟩
theorem lw_p34 : lw_okq (⟨"AnySitesModel", "laysWays", "()V"⟩, 17) := ⟨⟨by decide +kernel, by decide +kernel⟩, List.mem_of_getElem? (i := 874) (by decide +kernel), List.mem_of_getElem? (i := 990) (by decide +kernel), List.mem_of_getElem? (i := 991) (by decide +kernel)⟩
theorem lw_p35 : lw_okq (⟨"AnySitesModel", "catchOf", "(I)I"⟩, 17) := ⟨⟨by decide +kernel, by decide +kernel⟩, List.mem_of_getElem? (i := 874) (by decide +kernel), List.mem_of_getElem? (i := 994) (by decide +kernel), List.mem_of_getElem? (i := 995) (by decide +kernel)⟩
theorem lw_p36 : lw_okq (⟨"AnySitesModel", "seemsThen", "(II)I"⟩, 17) := ⟨⟨by decide +kernel, by decide +kernel⟩, List.mem_of_getElem? (i := 874) (by decide +kernel), List.mem_of_getElem? (i := 998) (by decide +kernel), List.mem_of_getElem? (i := 999) (by decide +kernel)⟩
theorem lw_p37 : lw_okq (⟨"AnySitesModel", "ofSite", "(II)I"⟩, 17) := ⟨⟨by decide +kernel, by decide +kernel⟩, List.mem_of_getElem? (i := 874) (by decide +kernel), List.mem_of_getElem? (i := 1002) (by decide +kernel), List.mem_of_getElem? (i := 1003) (by decide +kernel)⟩
theorem lw_p38 : lw_okq (⟨"AnySitesModel", "way", "(II)I"⟩, 17) := ⟨⟨by decide +kernel, by decide +kernel⟩, List.mem_of_getElem? (i := 874) (by decide +kernel), List.mem_of_getElem? (i := 1006) (by decide +kernel), List.mem_of_getElem? (i := 1007) (by decide +kernel)⟩
theorem lw_p39 : lw_okq (⟨"AnySitesModel", "stateOf", "(I)I"⟩, 17) := ⟨⟨by decide +kernel, by decide +kernel⟩, List.mem_of_getElem? (i := 874) (by decide +kernel), List.mem_of_getElem? (i := 1010) (by decide +kernel), List.mem_of_getElem? (i := 1011) (by decide +kernel)⟩
theorem lw_p40 : lw_okq (⟨"AnySitesModel", "stepOf", "(I)I"⟩, 17) := ⟨⟨by decide +kernel, by decide +kernel⟩, List.mem_of_getElem? (i := 874) (by decide +kernel), List.mem_of_getElem? (i := 1014) (by decide +kernel), List.mem_of_getElem? (i := 1015) (by decide +kernel)⟩
theorem lw_p41 : lw_okq (⟨"AnySitesModel", "canSite", "(II)I"⟩, 17) := ⟨⟨by decide +kernel, by decide +kernel⟩, List.mem_of_getElem? (i := 874) (by decide +kernel), List.mem_of_getElem? (i := 1022) (by decide +kernel), List.mem_of_getElem? (i := 1023) (by decide +kernel)⟩
theorem lw_p42 : lw_okq (⟨"AnySitesModel", "siteNow", "(II)I"⟩, 17) := ⟨⟨by decide +kernel, by decide +kernel⟩, List.mem_of_getElem? (i := 874) (by decide +kernel), List.mem_of_getElem? (i := 1027) (by decide +kernel), List.mem_of_getElem? (i := 1028) (by decide +kernel)⟩
theorem lw_p43 : lw_okq (⟨"AnySitesModel", "putsStep", "(II)V"⟩, 17) := ⟨⟨by decide +kernel, by decide +kernel⟩, List.mem_of_getElem? (i := 874) (by decide +kernel), List.mem_of_getElem? (i := 1031) (by decide +kernel), List.mem_of_getElem? (i := 1032) (by decide +kernel)⟩
theorem lw_p44 : lw_okq (⟨"AnySitesModel", "putsState", "(II)V"⟩, 17) := ⟨⟨by decide +kernel, by decide +kernel⟩, List.mem_of_getElem? (i := 874) (by decide +kernel), List.mem_of_getElem? (i := 1035) (by decide +kernel), List.mem_of_getElem? (i := 1036) (by decide +kernel)⟩
theorem lw_p45 : lw_okq (⟨"AnySitesModel", "isSite", "(I)Z"⟩, 17) := ⟨⟨by decide +kernel, by decide +kernel⟩, List.mem_of_getElem? (i := 874) (by decide +kernel), List.mem_of_getElem? (i := 1043) (by decide +kernel), List.mem_of_getElem? (i := 1044) (by decide +kernel)⟩
theorem lw_p46 : lw_okq (⟨"AnySitesModel", "canStep", "(II)I"⟩, 17) := ⟨⟨by decide +kernel, by decide +kernel⟩, List.mem_of_getElem? (i := 874) (by decide +kernel), List.mem_of_getElem? (i := 1051) (by decide +kernel), List.mem_of_getElem? (i := 1052) (by decide +kernel)⟩
theorem lw_p47 : lw_okq (⟨"AnySitesModel", "stepNow", "(II)I"⟩, 17) := ⟨⟨by decide +kernel, by decide +kernel⟩, List.mem_of_getElem? (i := 874) (by decide +kernel), List.mem_of_getElem? (i := 1056) (by decide +kernel), List.mem_of_getElem? (i := 1057) (by decide +kernel)⟩
def lw_privs_3 : List (MethodName × Nat) := [(⟨"AnySitesModel", "canMood", "(II)I"⟩, 17), (⟨"AnySitesModel", "moodNow", "(II)I"⟩, 17), (⟨"AnySitesModel", "laysWays", "()V"⟩, 17), (⟨"AnySitesModel", "catchOf", "(I)I"⟩, 17), (⟨"AnySitesModel", "seemsThen", "(II)I"⟩, 17), (⟨"AnySitesModel", "ofSite", "(II)I"⟩, 17), (⟨"AnySitesModel", "way", "(II)I"⟩, 17), (⟨"AnySitesModel", "stateOf", "(I)I"⟩, 17), (⟨"AnySitesModel", "stepOf", "(I)I"⟩, 17), (⟨"AnySitesModel", "canSite", "(II)I"⟩, 17), (⟨"AnySitesModel", "siteNow", "(II)I"⟩, 17), (⟨"AnySitesModel", "putsStep", "(II)V"⟩, 17), (⟨"AnySitesModel", "putsState", "(II)V"⟩, 17), (⟨"AnySitesModel", "isSite", "(I)Z"⟩, 17), (⟨"AnySitesModel", "canStep", "(II)I"⟩, 17), (⟨"AnySitesModel", "stepNow", "(II)I"⟩, 17)]
theorem lw_r3 : ∀ q ∈ lw_privs_3, lw_okq q := List.forall_mem_cons.mpr ⟨lw_p32, List.forall_mem_cons.mpr ⟨lw_p33, List.forall_mem_cons.mpr ⟨lw_p34, List.forall_mem_cons.mpr ⟨lw_p35, List.forall_mem_cons.mpr ⟨lw_p36, List.forall_mem_cons.mpr ⟨lw_p37, List.forall_mem_cons.mpr ⟨lw_p38, List.forall_mem_cons.mpr ⟨lw_p39, List.forall_mem_cons.mpr ⟨lw_p40, List.forall_mem_cons.mpr ⟨lw_p41, List.forall_mem_cons.mpr ⟨lw_p42, List.forall_mem_cons.mpr ⟨lw_p43, List.forall_mem_cons.mpr ⟨lw_p44, List.forall_mem_cons.mpr ⟨lw_p45, List.forall_mem_cons.mpr ⟨lw_p46, List.forall_mem_cons.mpr ⟨lw_p47, fun _ h => absurd h List.not_mem_nil⟩⟩⟩⟩⟩⟩⟩⟩⟩⟩⟩⟩⟩⟩⟩⟩
theorem lw_p48 : lw_okq (⟨"AnySitesModel", "canDrain", "(I)I"⟩, 17) := ⟨⟨by decide +kernel, by decide +kernel⟩, List.mem_of_getElem? (i := 874) (by decide +kernel), List.mem_of_getElem? (i := 1064) (by decide +kernel), List.mem_of_getElem? (i := 1065) (by decide +kernel)⟩
theorem lw_p49 : lw_okq (⟨"AnySitesModel", "drainNow", "(I)I"⟩, 17) := ⟨⟨by decide +kernel, by decide +kernel⟩, List.mem_of_getElem? (i := 874) (by decide +kernel), List.mem_of_getElem? (i := 1068) (by decide +kernel), List.mem_of_getElem? (i := 1069) (by decide +kernel)⟩
theorem lw_p50 : lw_okq (⟨"AnySitesModel", "cutNow", "(I)I"⟩, 17) := ⟨⟨by decide +kernel, by decide +kernel⟩, List.mem_of_getElem? (i := 874) (by decide +kernel), List.mem_of_getElem? (i := 1076) (by decide +kernel), List.mem_of_getElem? (i := 1077) (by decide +kernel)⟩
theorem lw_p51 : lw_okq (⟨"AnySitesModel", "goesOff", "(I)V"⟩, 17) := ⟨⟨by decide +kernel, by decide +kernel⟩, List.mem_of_getElem? (i := 874) (by decide +kernel), List.mem_of_getElem? (i := 1080) (by decide +kernel), List.mem_of_getElem? (i := 1081) (by decide +kernel)⟩
theorem lw_p52 : lw_okq (⟨"AnySitesModel", "leavesQueue", "(I)V"⟩, 17) := ⟨⟨by decide +kernel, by decide +kernel⟩, List.mem_of_getElem? (i := 874) (by decide +kernel), List.mem_of_getElem? (i := 1084) (by decide +kernel), List.mem_of_getElem? (i := 1085) (by decide +kernel)⟩
theorem lw_p53 : lw_okq (⟨"AnySitesModel", "placeOf", "(I)I"⟩, 17) := ⟨⟨by decide +kernel, by decide +kernel⟩, List.mem_of_getElem? (i := 874) (by decide +kernel), List.mem_of_getElem? (i := 1088) (by decide +kernel), List.mem_of_getElem? (i := 1089) (by decide +kernel)⟩
theorem lw_p54 : lw_okq (⟨"AnySitesModel", "ofNow", "(II)I"⟩, 17) := ⟨⟨by decide +kernel, by decide +kernel⟩, List.mem_of_getElem? (i := 874) (by decide +kernel), List.mem_of_getElem? (i := 1101) (by decide +kernel), List.mem_of_getElem? (i := 1102) (by decide +kernel)⟩
theorem lw_p55 : lw_okq (⟨"AnySitesModel", "laysAll", "()V"⟩, 17) := ⟨⟨by decide +kernel, by decide +kernel⟩, List.mem_of_getElem? (i := 874) (by decide +kernel), List.mem_of_getElem? (i := 1105) (by decide +kernel), List.mem_of_getElem? (i := 1106) (by decide +kernel)⟩
theorem lw_p56 : lw_okq (⟨"AnySitesModel", "laysCatches", "()V"⟩, 17) := ⟨⟨by decide +kernel, by decide +kernel⟩, List.mem_of_getElem? (i := 874) (by decide +kernel), List.mem_of_getElem? (i := 1109) (by decide +kernel), List.mem_of_getElem? (i := 1110) (by decide +kernel)⟩
theorem lw_p57 : lw_okq (⟨"AnySitesModel", "ofSession", "(II)I"⟩, 17) := ⟨⟨by decide +kernel, by decide +kernel⟩, List.mem_of_getElem? (i := 874) (by decide +kernel), List.mem_of_getElem? (i := 1113) (by decide +kernel), List.mem_of_getElem? (i := 1114) (by decide +kernel)⟩
theorem lw_p58 : lw_okq (⟨"AnySitesModel", "siteThen", "(II)I"⟩, 17) := ⟨⟨by decide +kernel, by decide +kernel⟩, List.mem_of_getElem? (i := 874) (by decide +kernel), List.mem_of_getElem? (i := 1121) (by decide +kernel), List.mem_of_getElem? (i := 1122) (by decide +kernel)⟩
theorem lw_p59 : lw_okq (⟨"AnySitesModel", "load", "(I)I"⟩, 17) := ⟨⟨by decide +kernel, by decide +kernel⟩, List.mem_of_getElem? (i := 874) (by decide +kernel), List.mem_of_getElem? (i := 1125) (by decide +kernel), List.mem_of_getElem? (i := 1126) (by decide +kernel)⟩
theorem lw_p60 : lw_okq (⟨"AnySitesModel", "isCarried", "(I)Z"⟩, 17) := ⟨⟨by decide +kernel, by decide +kernel⟩, List.mem_of_getElem? (i := 874) (by decide +kernel), List.mem_of_getElem? (i := 1129) (by decide +kernel), List.mem_of_getElem? (i := 1130) (by decide +kernel)⟩
theorem lw_p61 : lw_okq (⟨"AnySitesModel", "isOver", "(I)Z"⟩, 17) := ⟨⟨by decide +kernel, by decide +kernel⟩, List.mem_of_getElem? (i := 874) (by decide +kernel), List.mem_of_getElem? (i := 1133) (by decide +kernel), List.mem_of_getElem? (i := 1134) (by decide +kernel)⟩
theorem lw_p62 : lw_okq (⟨"AnySitesModel", "caught", "(I)I"⟩, 17) := ⟨⟨by decide +kernel, by decide +kernel⟩, List.mem_of_getElem? (i := 874) (by decide +kernel), List.mem_of_getElem? (i := 1137) (by decide +kernel), List.mem_of_getElem? (i := 1138) (by decide +kernel)⟩
theorem lw_p63 : lw_okq (⟨"AnySitesModel", "sessionsAt", "(I)I"⟩, 17) := ⟨⟨by decide +kernel, by decide +kernel⟩, List.mem_of_getElem? (i := 874) (by decide +kernel), List.mem_of_getElem? (i := 1141) (by decide +kernel), List.mem_of_getElem? (i := 1142) (by decide +kernel)⟩
def lw_privs_4 : List (MethodName × Nat) := [(⟨"AnySitesModel", "canDrain", "(I)I"⟩, 17), (⟨"AnySitesModel", "drainNow", "(I)I"⟩, 17), (⟨"AnySitesModel", "cutNow", "(I)I"⟩, 17), (⟨"AnySitesModel", "goesOff", "(I)V"⟩, 17), (⟨"AnySitesModel", "leavesQueue", "(I)V"⟩, 17), (⟨"AnySitesModel", "placeOf", "(I)I"⟩, 17), (⟨"AnySitesModel", "ofNow", "(II)I"⟩, 17), (⟨"AnySitesModel", "laysAll", "()V"⟩, 17), (⟨"AnySitesModel", "laysCatches", "()V"⟩, 17), (⟨"AnySitesModel", "ofSession", "(II)I"⟩, 17), (⟨"AnySitesModel", "siteThen", "(II)I"⟩, 17), (⟨"AnySitesModel", "load", "(I)I"⟩, 17), (⟨"AnySitesModel", "isCarried", "(I)Z"⟩, 17), (⟨"AnySitesModel", "isOver", "(I)Z"⟩, 17), (⟨"AnySitesModel", "caught", "(I)I"⟩, 17), (⟨"AnySitesModel", "sessionsAt", "(I)I"⟩, 17)]
theorem lw_r4 : ∀ q ∈ lw_privs_4, lw_okq q := List.forall_mem_cons.mpr ⟨lw_p48, List.forall_mem_cons.mpr ⟨lw_p49, List.forall_mem_cons.mpr ⟨lw_p50, List.forall_mem_cons.mpr ⟨lw_p51, List.forall_mem_cons.mpr ⟨lw_p52, List.forall_mem_cons.mpr ⟨lw_p53, List.forall_mem_cons.mpr ⟨lw_p54, List.forall_mem_cons.mpr ⟨lw_p55, List.forall_mem_cons.mpr ⟨lw_p56, List.forall_mem_cons.mpr ⟨lw_p57, List.forall_mem_cons.mpr ⟨lw_p58, List.forall_mem_cons.mpr ⟨lw_p59, List.forall_mem_cons.mpr ⟨lw_p60, List.forall_mem_cons.mpr ⟨lw_p61, List.forall_mem_cons.mpr ⟨lw_p62, List.forall_mem_cons.mpr ⟨lw_p63, fun _ h => absurd h List.not_mem_nil⟩⟩⟩⟩⟩⟩⟩⟩⟩⟩⟩⟩⟩⟩⟩⟩
theorem lw_p64 : lw_okq (⟨"AnySitesModel", "overWithout", "(I)I"⟩, 17) := ⟨⟨by decide +kernel, by decide +kernel⟩, List.mem_of_getElem? (i := 874) (by decide +kernel), List.mem_of_getElem? (i := 1145) (by decide +kernel), List.mem_of_getElem? (i := 1146) (by decide +kernel)⟩
theorem lw_p65 : lw_okq (⟨"AnySitesModel", "over", "()I"⟩, 17) := ⟨⟨by decide +kernel, by decide +kernel⟩, List.mem_of_getElem? (i := 874) (by decide +kernel), List.mem_of_getElem? (i := 1149) (by decide +kernel), List.mem_of_getElem? (i := 1150) (by decide +kernel)⟩
theorem lw_p66 : lw_okq (⟨"AnySitesModel", "canOpen", "(III)I"⟩, 17) := ⟨⟨by decide +kernel, by decide +kernel⟩, List.mem_of_getElem? (i := 874) (by decide +kernel), List.mem_of_getElem? (i := 1161) (by decide +kernel), List.mem_of_getElem? (i := 1162) (by decide +kernel)⟩
theorem lw_p67 : lw_okq (⟨"AnySitesModel", "openNow", "(III)I"⟩, 17) := ⟨⟨by decide +kernel, by decide +kernel⟩, List.mem_of_getElem? (i := 874) (by decide +kernel), List.mem_of_getElem? (i := 1166) (by decide +kernel), List.mem_of_getElem? (i := 1167) (by decide +kernel)⟩
theorem lw_p68 : lw_okq (⟨"AnySitesModel", "sessionNow", "(II)I"⟩, 17) := ⟨⟨by decide +kernel, by decide +kernel⟩, List.mem_of_getElem? (i := 874) (by decide +kernel), List.mem_of_getElem? (i := 1174) (by decide +kernel), List.mem_of_getElem? (i := 1175) (by decide +kernel)⟩
theorem lw_p69 : lw_okq (⟨"AnySitesModel", "endsOne", "(I)V"⟩, 17) := ⟨⟨by decide +kernel, by decide +kernel⟩, List.mem_of_getElem? (i := 874) (by decide +kernel), List.mem_of_getElem? (i := 1182) (by decide +kernel), List.mem_of_getElem? (i := 1183) (by decide +kernel)⟩
theorem lw_p70 : lw_okq (⟨"AnySitesModel", "tickNow", "(I)I"⟩, 17) := ⟨⟨by decide +kernel, by decide +kernel⟩, List.mem_of_getElem? (i := 874) (by decide +kernel), List.mem_of_getElem? (i := 1190) (by decide +kernel), List.mem_of_getElem? (i := 1191) (by decide +kernel)⟩
theorem lw_p71 : lw_okq (⟨"AnySitesModel", "ticksOne", "()V"⟩, 17) := ⟨⟨by decide +kernel, by decide +kernel⟩, List.mem_of_getElem? (i := 874) (by decide +kernel), List.mem_of_getElem? (i := 1194) (by decide +kernel), List.mem_of_getElem? (i := 1195) (by decide +kernel)⟩
theorem lw_p72 : lw_okq (⟨"AnySitesModel", "runsSessions", "()V"⟩, 17) := ⟨⟨by decide +kernel, by decide +kernel⟩, List.mem_of_getElem? (i := 874) (by decide +kernel), List.mem_of_getElem? (i := 1198) (by decide +kernel), List.mem_of_getElem? (i := 1199) (by decide +kernel)⟩
theorem lw_p73 : lw_okq (⟨"AnySitesModel", "drainsOne", "()V"⟩, 17) := ⟨⟨by decide +kernel, by decide +kernel⟩, List.mem_of_getElem? (i := 874) (by decide +kernel), List.mem_of_getElem? (i := 1202) (by decide +kernel), List.mem_of_getElem? (i := 1203) (by decide +kernel)⟩
theorem lw_p74 : lw_okq (⟨"AnySitesModel", "findsPlan", "()I"⟩, 17) := ⟨⟨by decide +kernel, by decide +kernel⟩, List.mem_of_getElem? (i := 874) (by decide +kernel), List.mem_of_getElem? (i := 1210) (by decide +kernel), List.mem_of_getElem? (i := 1211) (by decide +kernel)⟩
theorem lw_p75 : lw_okq (⟨"AnySitesModel", "stepsSum", "()I"⟩, 17) := ⟨⟨by decide +kernel, by decide +kernel⟩, List.mem_of_getElem? (i := 874) (by decide +kernel), List.mem_of_getElem? (i := 1214) (by decide +kernel), List.mem_of_getElem? (i := 1215) (by decide +kernel)⟩
theorem lw_p76 : lw_okq (⟨"AnySitesModel", "nextSteps", "()Z"⟩, 17) := ⟨⟨by decide +kernel, by decide +kernel⟩, List.mem_of_getElem? (i := 874) (by decide +kernel), List.mem_of_getElem? (i := 1218) (by decide +kernel), List.mem_of_getElem? (i := 1219) (by decide +kernel)⟩
theorem lw_p77 : lw_okq (⟨"AnySitesModel", "areOn", "(I)Z"⟩, 17) := ⟨⟨by decide +kernel, by decide +kernel⟩, List.mem_of_getElem? (i := 874) (by decide +kernel), List.mem_of_getElem? (i := 1230) (by decide +kernel), List.mem_of_getElem? (i := 1231) (by decide +kernel)⟩
theorem lw_p78 : lw_okq (⟨"AnySitesModel", "orderNow", "(II)I"⟩, 17) := ⟨⟨by decide +kernel, by decide +kernel⟩, List.mem_of_getElem? (i := 874) (by decide +kernel), List.mem_of_getElem? (i := 1234) (by decide +kernel), List.mem_of_getElem? (i := 1235) (by decide +kernel)⟩
theorem lw_p79 : lw_okq (⟨"AnySitesModel", "laysOrder", "(II)V"⟩, 17) := ⟨⟨by decide +kernel, by decide +kernel⟩, List.mem_of_getElem? (i := 874) (by decide +kernel), List.mem_of_getElem? (i := 1241) (by decide +kernel), List.mem_of_getElem? (i := 1242) (by decide +kernel)⟩
def lw_privs_5 : List (MethodName × Nat) := [(⟨"AnySitesModel", "overWithout", "(I)I"⟩, 17), (⟨"AnySitesModel", "over", "()I"⟩, 17), (⟨"AnySitesModel", "canOpen", "(III)I"⟩, 17), (⟨"AnySitesModel", "openNow", "(III)I"⟩, 17), (⟨"AnySitesModel", "sessionNow", "(II)I"⟩, 17), (⟨"AnySitesModel", "endsOne", "(I)V"⟩, 17), (⟨"AnySitesModel", "tickNow", "(I)I"⟩, 17), (⟨"AnySitesModel", "ticksOne", "()V"⟩, 17), (⟨"AnySitesModel", "runsSessions", "()V"⟩, 17), (⟨"AnySitesModel", "drainsOne", "()V"⟩, 17), (⟨"AnySitesModel", "findsPlan", "()I"⟩, 17), (⟨"AnySitesModel", "stepsSum", "()I"⟩, 17), (⟨"AnySitesModel", "nextSteps", "()Z"⟩, 17), (⟨"AnySitesModel", "areOn", "(I)Z"⟩, 17), (⟨"AnySitesModel", "orderNow", "(II)I"⟩, 17), (⟨"AnySitesModel", "laysOrder", "(II)V"⟩, 17)]
theorem lw_r5 : ∀ q ∈ lw_privs_5, lw_okq q := List.forall_mem_cons.mpr ⟨lw_p64, List.forall_mem_cons.mpr ⟨lw_p65, List.forall_mem_cons.mpr ⟨lw_p66, List.forall_mem_cons.mpr ⟨lw_p67, List.forall_mem_cons.mpr ⟨lw_p68, List.forall_mem_cons.mpr ⟨lw_p69, List.forall_mem_cons.mpr ⟨lw_p70, List.forall_mem_cons.mpr ⟨lw_p71, List.forall_mem_cons.mpr ⟨lw_p72, List.forall_mem_cons.mpr ⟨lw_p73, List.forall_mem_cons.mpr ⟨lw_p74, List.forall_mem_cons.mpr ⟨lw_p75, List.forall_mem_cons.mpr ⟨lw_p76, List.forall_mem_cons.mpr ⟨lw_p77, List.forall_mem_cons.mpr ⟨lw_p78, List.forall_mem_cons.mpr ⟨lw_p79, fun _ h => absurd h List.not_mem_nil⟩⟩⟩⟩⟩⟩⟩⟩⟩⟩⟩⟩⟩⟩⟩⟩
theorem lw_p80 : lw_okq (⟨"AnySitesModel", "mayGo", "(I)Z"⟩, 17) := ⟨⟨by decide +kernel, by decide +kernel⟩, List.mem_of_getElem? (i := 874) (by decide +kernel), List.mem_of_getElem? (i := 1245) (by decide +kernel), List.mem_of_getElem? (i := 1246) (by decide +kernel)⟩
theorem lw_p81 : lw_okq (⟨"AnySitesModel", "worstNow", "(II)I"⟩, 17) := ⟨⟨by decide +kernel, by decide +kernel⟩, List.mem_of_getElem? (i := 874) (by decide +kernel), List.mem_of_getElem? (i := 1253) (by decide +kernel), List.mem_of_getElem? (i := 1254) (by decide +kernel)⟩
theorem lw_p82 : lw_okq (⟨"AnySitesModel", "excess", "(I)I"⟩, 17) := ⟨⟨by decide +kernel, by decide +kernel⟩, List.mem_of_getElem? (i := 874) (by decide +kernel), List.mem_of_getElem? (i := 1257) (by decide +kernel), List.mem_of_getElem? (i := 1258) (by decide +kernel)⟩
theorem lw_p83 : lw_okq (⟨"AnySitesModel", "readsOrder", "(Z)Z"⟩, 17) := ⟨⟨by decide +kernel, by decide +kernel⟩, List.mem_of_getElem? (i := 874) (by decide +kernel), List.mem_of_getElem? (i := 1274) (by decide +kernel), List.mem_of_getElem? (i := 1275) (by decide +kernel)⟩
theorem lw_p84 : lw_okq (⟨"AnySitesModel", "here", "()I"⟩, 17) := ⟨⟨by decide +kernel, by decide +kernel⟩, List.mem_of_getElem? (i := 874) (by decide +kernel), List.mem_of_getElem? (i := 1278) (by decide +kernel), List.mem_of_getElem? (i := 1279) (by decide +kernel)⟩
theorem lw_p85 : lw_okq (⟨"AnySitesModel", "takes", "(I)Z"⟩, 17) := ⟨⟨by decide +kernel, by decide +kernel⟩, List.mem_of_getElem? (i := 874) (by decide +kernel), List.mem_of_getElem? (i := 1285) (by decide +kernel), List.mem_of_getElem? (i := 1286) (by decide +kernel)⟩
theorem lw_p86 : lw_okq (⟨"AnySitesModel", "isFigure", "(I)Z"⟩, 17) := ⟨⟨by decide +kernel, by decide +kernel⟩, List.mem_of_getElem? (i := 874) (by decide +kernel), List.mem_of_getElem? (i := 1289) (by decide +kernel), List.mem_of_getElem? (i := 1290) (by decide +kernel)⟩
theorem lw_p87 : lw_okq (⟨"AnySitesModel", "can", "(I)I"⟩, 17) := ⟨⟨by decide +kernel, by decide +kernel⟩, List.mem_of_getElem? (i := 874) (by decide +kernel), List.mem_of_getElem? (i := 1295) (by decide +kernel), List.mem_of_getElem? (i := 1296) (by decide +kernel)⟩
theorem lw_p88 : lw_okq (⟨"AnySitesModel", "does", "(I)I"⟩, 17) := ⟨⟨by decide +kernel, by decide +kernel⟩, List.mem_of_getElem? (i := 874) (by decide +kernel), List.mem_of_getElem? (i := 1299) (by decide +kernel), List.mem_of_getElem? (i := 1300) (by decide +kernel)⟩
theorem lw_p89 : lw_okq (⟨"AnySitesModel", "keepsAside", "()V"⟩, 17) := ⟨⟨by decide +kernel, by decide +kernel⟩, List.mem_of_getElem? (i := 874) (by decide +kernel), List.mem_of_getElem? (i := 1303) (by decide +kernel), List.mem_of_getElem? (i := 1304) (by decide +kernel)⟩
theorem lw_p90 : lw_okq (⟨"AnySitesModel", "toldOf", "(I)I"⟩, 17) := ⟨⟨by decide +kernel, by decide +kernel⟩, List.mem_of_getElem? (i := 874) (by decide +kernel), List.mem_of_getElem? (i := 1316) (by decide +kernel), List.mem_of_getElem? (i := 1317) (by decide +kernel)⟩
def lw_privs_6 : List (MethodName × Nat) := [(⟨"AnySitesModel", "mayGo", "(I)Z"⟩, 17), (⟨"AnySitesModel", "worstNow", "(II)I"⟩, 17), (⟨"AnySitesModel", "excess", "(I)I"⟩, 17), (⟨"AnySitesModel", "readsOrder", "(Z)Z"⟩, 17), (⟨"AnySitesModel", "here", "()I"⟩, 17), (⟨"AnySitesModel", "takes", "(I)Z"⟩, 17), (⟨"AnySitesModel", "isFigure", "(I)Z"⟩, 17), (⟨"AnySitesModel", "can", "(I)I"⟩, 17), (⟨"AnySitesModel", "does", "(I)I"⟩, 17), (⟨"AnySitesModel", "keepsAside", "()V"⟩, 17), (⟨"AnySitesModel", "toldOf", "(I)I"⟩, 17)]
theorem lw_r6 : ∀ q ∈ lw_privs_6, lw_okq q := List.forall_mem_cons.mpr ⟨lw_p80, List.forall_mem_cons.mpr ⟨lw_p81, List.forall_mem_cons.mpr ⟨lw_p82, List.forall_mem_cons.mpr ⟨lw_p83, List.forall_mem_cons.mpr ⟨lw_p84, List.forall_mem_cons.mpr ⟨lw_p85, List.forall_mem_cons.mpr ⟨lw_p86, List.forall_mem_cons.mpr ⟨lw_p87, List.forall_mem_cons.mpr ⟨lw_p88, List.forall_mem_cons.mpr ⟨lw_p89, List.forall_mem_cons.mpr ⟨lw_p90, fun _ h => absurd h List.not_mem_nil⟩⟩⟩⟩⟩⟩⟩⟩⟩⟩⟩
def lw_privs : List (MethodName × Nat) := lw_privs_1 ++ (lw_privs_2 ++ (lw_privs_3 ++ (lw_privs_4 ++ (lw_privs_5 ++ (lw_privs_6)))))
def lw_tbl : List Cond := k2_sels lw_privs ++ tables_1
theorem lw_privs_ok : ∀ q ∈ lw_privs, lw_okq q := by
  show ∀ q ∈ lw_privs_1 ++ (lw_privs_2 ++ (lw_privs_3 ++ (lw_privs_4 ++ (lw_privs_5 ++ (lw_privs_6))))), lw_okq q
  exact List.forall_mem_append.mpr ⟨lw_r1, List.forall_mem_append.mpr ⟨lw_r2, List.forall_mem_append.mpr ⟨lw_r3, List.forall_mem_append.mpr ⟨lw_r4, List.forall_mem_append.mpr ⟨lw_r5, lw_r6⟩⟩⟩⟩⟩

def RX0 : String := "AnySites$Acts"
def RX1 : String := "AnySites$Areas"
def RX2 : String := "AnySites$Failures"
def RX3 : String := "AnySites$History"
def RX4 : String := "AnySites$Outlook"
def RX5 : String := "AnySites$Planner"
def RX6 : String := "AnySites$Script"
def RX7 : String := "AnySites$Sessions"
def RX8 : String := "AnySites$Sites"
def RX9 : String := "AnySites$State"
def RX10 : String := "AnySites"
def RX11 : String := "AnySitesModel"
def TX0 : u_T := fun k => match k with
  | 0 => ("AnySites$Acts", "state", "LAnySites$State;", true)
  | 1 => ("AnySites$Acts", "outlook", "LAnySites$Outlook;", true)
  | _ => ("AnySites$Acts", "planner", "LAnySites$Planner;", true)
def TX1 : u_T := fun k => match k with
  | 0 => ("AnySites$Areas", "count", "I", false)
  | 1 => ("AnySites$Areas", "demand", "[I", true)
  | 2 => ("AnySites$Areas", "moods", "[I", true)
  | 3 => ("AnySites$Areas", "last", "[I", true)
  | 4 => ("AnySites$Areas", "lengths", "[I", true)
  | _ => ("AnySites$Areas", "distances", "[I", true)
def TX2 : u_T := fun k => match k with
  | 0 => ("AnySites$Failures", "state", "LAnySites$State;", true)
  | 1 => ("AnySites$Failures", "outlook", "LAnySites$Outlook;", true)
  | _ => ("AnySites$Failures", "sequence", "[I", true)
def TX3 : u_T := fun k => match k with
  | 0 => ("AnySites$History", "kept", "I", false)
  | 1 => ("AnySites$History", "marked", "I", false)
  | _ => ("AnySites$History", "ring", "[LAnySites$State;", true)
def TX4 : u_T := fun k => match k with
  | 0 => ("AnySites$Outlook", "catches", "[I", true)
  | 1 => ("AnySites$Outlook", "loads", "[I", true)
  | _ => ("AnySites$Outlook", "state", "LAnySites$State;", true)
def TX5 : u_T := fun k => match k with
  | 0 => ("AnySites$Planner", "state", "LAnySites$State;", true)
  | 1 => ("AnySites$Planner", "outlook", "LAnySites$Outlook;", true)
  | 2 => ("AnySites$Planner", "trial", "[I", true)
  | 3 => ("AnySites$Planner", "known", "Z", false)
  | _ => ("AnySites$Planner", "sum", "I", false)
def TX6 : u_T := fun k => match k with
  | 0 => ("AnySites$Script", "length", "I", false)
  | 1 => ("AnySites$Script", "orders", "I", false)
  | 2 => ("AnySites$Script", "begun", "I", false)
  | 3 => ("AnySites$Script", "digits", "I", false)
  | 4 => ("AnySites$Script", "bytes", "[I", true)
  | 5 => ("AnySites$Script", "letters", "[I", true)
  | _ => ("AnySites$Script", "numbers", "[I", true)
def TX7 : u_T := fun k => match k with
  | 0 => ("AnySites$Sessions", "count", "I", false)
  | 1 => ("AnySites$Sessions", "from", "[I", true)
  | 2 => ("AnySites$Sessions", "at", "[I", true)
  | 3 => ("AnySites$Sessions", "weight", "[I", true)
  | _ => ("AnySites$Sessions", "left", "[I", true)
def TX8 : u_T := fun k => match k with
  | 0 => ("AnySites$Sites", "count", "I", false)
  | 1 => ("AnySites$Sites", "queued", "I", false)
  | 2 => ("AnySites$Sites", "home", "[I", true)
  | 3 => ("AnySites$Sites", "room", "[I", true)
  | 4 => ("AnySites$Sites", "step", "[I", true)
  | 5 => ("AnySites$Sites", "mode", "[I", true)
  | _ => ("AnySites$Sites", "queue", "[I", true)
def TX9 : u_T := fun k => match k with
  | 0 => ("AnySites$State", "areas", "LAnySites$Areas;", true)
  | 1 => ("AnySites$State", "sites", "LAnySites$Sites;", true)
  | 2 => ("AnySites$State", "sessions", "LAnySites$Sessions;", true)
  | 3 => ("AnySites$State", "time", "I", false)
  | 4 => ("AnySites$State", "ended", "I", false)
  | 5 => ("AnySites$State", "broken", "I", false)
  | _ => ("AnySites$State", "delayed", "I", false)
def TX10 : u_T := fun k => match k with
  | 0 => ("AnySites", "now", "LAnySites$State;", true)
  | 1 => ("AnySites", "history", "LAnySites$History;", true)
  | 2 => ("AnySites", "outlook", "LAnySites$Outlook;", true)
  | 3 => ("AnySites", "planner", "LAnySites$Planner;", true)
  | 4 => ("AnySites", "failures", "LAnySites$Failures;", true)
  | 5 => ("AnySites", "acts", "LAnySites$Acts;", true)
  | 6 => ("AnySites", "script", "LAnySites$Script;", true)
  | 7 => ("AnySites", "bads", "I", false)
  | 8 => ("AnySites", "nos", "I", false)
  | _ => ("AnySites", "fulls", "I", false)
def TX11 : u_T := fun k => match k with
  | 0 => ("AnySitesModel", "all", "[I", true)
  | 1 => ("AnySitesModel", "past", "[I", true)
  | 2 => ("AnySitesModel", "aside", "[I", true)
  | 3 => ("AnySitesModel", "states", "I", false)
  | 4 => ("AnySitesModel", "refused", "[I", true)
  | 5 => ("AnySitesModel", "ways", "[I", true)
  | 6 => ("AnySitesModel", "catches", "[I", true)
  | 7 => ("AnySitesModel", "before", "[I", true)
  | 8 => ("AnySitesModel", "planned", "[I", true)
  | 9 => ("AnySitesModel", "hadSteps", "[I", true)
  | 10 => ("AnySitesModel", "ordered", "[I", true)
  | 11 => ("AnySitesModel", "hadStates", "[I", true)
  | 12 => ("AnySitesModel", "text", "[I", true)
  | 13 => ("AnySitesModel", "textLong", "I", false)
  | 14 => ("AnySitesModel", "place", "I", false)
  | 15 => ("AnySitesModel", "numbers", "[I", true)
  | _ => ("AnySitesModel", "not", "I", false)
def tyX0 : Nat → FieldType := fun k => match k with
  | 0 => .object "AnySites$State"
  | 1 => .object "AnySites$Outlook"
  | _ => .object "AnySites$Planner"
def tyX1 : Nat → FieldType := fun k => match k with
  | 0 => .int
  | 1 => .array .int
  | 2 => .array .int
  | 3 => .array .int
  | 4 => .array .int
  | _ => .array .int
def tyX2 : Nat → FieldType := fun k => match k with
  | 0 => .object "AnySites$State"
  | 1 => .object "AnySites$Outlook"
  | _ => .array .int
def tyX3 : Nat → FieldType := fun k => match k with
  | 0 => .int
  | 1 => .int
  | _ => .array (.object "AnySites$State")
def tyX4 : Nat → FieldType := fun k => match k with
  | 0 => .array .int
  | 1 => .array .int
  | _ => .object "AnySites$State"
def tyX5 : Nat → FieldType := fun k => match k with
  | 0 => .object "AnySites$State"
  | 1 => .object "AnySites$Outlook"
  | 2 => .array .int
  | 3 => .boolean
  | _ => .int
def tyX6 : Nat → FieldType := fun k => match k with
  | 0 => .int
  | 1 => .int
  | 2 => .int
  | 3 => .int
  | 4 => .array .int
  | 5 => .array .int
  | _ => .array .int
def tyX7 : Nat → FieldType := fun k => match k with
  | 0 => .int
  | 1 => .array .int
  | 2 => .array .int
  | 3 => .array .int
  | _ => .array .int
def tyX8 : Nat → FieldType := fun k => match k with
  | 0 => .int
  | 1 => .int
  | 2 => .array .int
  | 3 => .array .int
  | 4 => .array .int
  | 5 => .array .int
  | _ => .array .int
def tyX9 : Nat → FieldType := fun k => match k with
  | 0 => .object "AnySites$Areas"
  | 1 => .object "AnySites$Sites"
  | 2 => .object "AnySites$Sessions"
  | 3 => .int
  | 4 => .int
  | 5 => .int
  | _ => .int
def tyX10 : Nat → FieldType := fun k => match k with
  | 0 => .object "AnySites$State"
  | 1 => .object "AnySites$History"
  | 2 => .object "AnySites$Outlook"
  | 3 => .object "AnySites$Planner"
  | 4 => .object "AnySites$Failures"
  | 5 => .object "AnySites$Acts"
  | 6 => .object "AnySites$Script"
  | 7 => .int
  | 8 => .int
  | _ => .int
def tyX11 : Nat → FieldType := fun k => match k with
  | 0 => .array .int
  | 1 => .array .int
  | 2 => .array .int
  | 3 => .int
  | 4 => .array .int
  | 5 => .array .int
  | 6 => .array .int
  | 7 => .array .int
  | 8 => .array .int
  | 9 => .array .int
  | 10 => .array .int
  | 11 => .array .int
  | 12 => .array .int
  | 13 => .int
  | 14 => .int
  | 15 => .array .int
  | _ => .int
theorem nmX0 : ∀ a, a < 3 → ∀ b, b < 3 → a ≠ b → (TX0 a).2.1 ≠ (TX0 b).2.1 := by decide +kernel
theorem tyX0_ok : ∀ k, k < 3 → parseFieldDescriptor (TX0 k).2.2.1 = some (tyX0 k) := by decide +kernel
theorem nmX1 : ∀ a, a < 6 → ∀ b, b < 6 → a ≠ b → (TX1 a).2.1 ≠ (TX1 b).2.1 := by decide +kernel
theorem tyX1_ok : ∀ k, k < 6 → parseFieldDescriptor (TX1 k).2.2.1 = some (tyX1 k) := by decide +kernel
theorem nmX2 : ∀ a, a < 3 → ∀ b, b < 3 → a ≠ b → (TX2 a).2.1 ≠ (TX2 b).2.1 := by decide +kernel
theorem tyX2_ok : ∀ k, k < 3 → parseFieldDescriptor (TX2 k).2.2.1 = some (tyX2 k) := by decide +kernel
theorem nmX3 : ∀ a, a < 3 → ∀ b, b < 3 → a ≠ b → (TX3 a).2.1 ≠ (TX3 b).2.1 := by decide +kernel
theorem tyX3_ok : ∀ k, k < 3 → parseFieldDescriptor (TX3 k).2.2.1 = some (tyX3 k) := by decide +kernel
theorem nmX4 : ∀ a, a < 3 → ∀ b, b < 3 → a ≠ b → (TX4 a).2.1 ≠ (TX4 b).2.1 := by decide +kernel
theorem tyX4_ok : ∀ k, k < 3 → parseFieldDescriptor (TX4 k).2.2.1 = some (tyX4 k) := by decide +kernel
theorem nmX5 : ∀ a, a < 5 → ∀ b, b < 5 → a ≠ b → (TX5 a).2.1 ≠ (TX5 b).2.1 := by decide +kernel
theorem tyX5_ok : ∀ k, k < 5 → parseFieldDescriptor (TX5 k).2.2.1 = some (tyX5 k) := by decide +kernel
theorem nmX6 : ∀ a, a < 7 → ∀ b, b < 7 → a ≠ b → (TX6 a).2.1 ≠ (TX6 b).2.1 := by decide +kernel
theorem tyX6_ok : ∀ k, k < 7 → parseFieldDescriptor (TX6 k).2.2.1 = some (tyX6 k) := by decide +kernel
theorem nmX7 : ∀ a, a < 5 → ∀ b, b < 5 → a ≠ b → (TX7 a).2.1 ≠ (TX7 b).2.1 := by decide +kernel
theorem tyX7_ok : ∀ k, k < 5 → parseFieldDescriptor (TX7 k).2.2.1 = some (tyX7 k) := by decide +kernel
theorem nmX8 : ∀ a, a < 7 → ∀ b, b < 7 → a ≠ b → (TX8 a).2.1 ≠ (TX8 b).2.1 := by decide +kernel
theorem tyX8_ok : ∀ k, k < 7 → parseFieldDescriptor (TX8 k).2.2.1 = some (tyX8 k) := by decide +kernel
theorem nmX9 : ∀ a, a < 7 → ∀ b, b < 7 → a ≠ b → (TX9 a).2.1 ≠ (TX9 b).2.1 := by decide +kernel
theorem tyX9_ok : ∀ k, k < 7 → parseFieldDescriptor (TX9 k).2.2.1 = some (tyX9 k) := by decide +kernel
theorem nmX10 : ∀ a, a < 10 → ∀ b, b < 10 → a ≠ b → (TX10 a).2.1 ≠ (TX10 b).2.1 := by decide +kernel
theorem tyX10_ok : ∀ k, k < 10 → parseFieldDescriptor (TX10 k).2.2.1 = some (tyX10 k) := by decide +kernel
theorem nmX11 : ∀ a, a < 17 → ∀ b, b < 17 → a ≠ b → (TX11 a).2.1 ≠ (TX11 b).2.1 := by decide +kernel
theorem tyX11_ok : ∀ k, k < 17 → parseFieldDescriptor (TX11 k).2.2.1 = some (tyX11 k) := by decide +kernel
abbrev cX0_init : ByteArray := prog_2_method_1_code
def yX0_init : MethodName := ⟨RX0, "<init>", "(LAnySites$State;LAnySites$Outlook;LAnySites$Planner;)V"⟩
abbrev cX0_carryOut : ByteArray := prog_2_method_2_code
def yX0_carryOut : MethodName := ⟨RX0, "carryOut", "(IIII)I"⟩
abbrev cX0_addArea : ByteArray := prog_2_method_3_code
def yX0_addArea : MethodName := ⟨RX0, "addArea", "(I)I"⟩
abbrev cX0_setDemand : ByteArray := prog_2_method_4_code
def yX0_setDemand : MethodName := ⟨RX0, "setDemand", "(II)I"⟩
abbrev cX0_setLine : ByteArray := prog_2_method_5_code
def yX0_setLine : MethodName := ⟨RX0, "setLine", "(III)I"⟩
abbrev cX0_setMood : ByteArray := prog_2_method_6_code
def yX0_setMood : MethodName := ⟨RX0, "setMood", "(II)I"⟩
abbrev cX0_addSite : ByteArray := prog_2_method_7_code
def yX0_addSite : MethodName := ⟨RX0, "addSite", "(II)I"⟩
abbrev cX0_setRoom : ByteArray := prog_2_method_8_code
def yX0_setRoom : MethodName := ⟨RX0, "setRoom", "(II)I"⟩
abbrev cX0_setStep : ByteArray := prog_2_method_9_code
def yX0_setStep : MethodName := ⟨RX0, "setStep", "(II)I"⟩
abbrev cX0_startDrain : ByteArray := prog_2_method_10_code
def yX0_startDrain : MethodName := ⟨RX0, "startDrain", "(I)I"⟩
abbrev cX0_switchSite : ByteArray := prog_2_method_11_code
def yX0_switchSite : MethodName := ⟨RX0, "switchSite", "(I)I"⟩
abbrev cX0_openSession : ByteArray := prog_2_method_12_code
def yX0_openSession : MethodName := ⟨RX0, "openSession", "(III)I"⟩
abbrev cX0_endSession : ByteArray := prog_2_method_13_code
def yX0_endSession : MethodName := ⟨RX0, "endSession", "(I)I"⟩
abbrev cX0_layPlan : ByteArray := prog_2_method_14_code
def yX0_layPlan : MethodName := ⟨RX0, "layPlan", "()I"⟩
abbrev cX0_passTicks : ByteArray := prog_2_method_15_code
def yX0_passTicks : MethodName := ⟨RX0, "passTicks", "(I)I"⟩
abbrev cX0_ageSessions : ByteArray := prog_2_method_16_code
def yX0_ageSessions : MethodName := ⟨RX0, "ageSessions", "()V"⟩
abbrev cX0_outlives : ByteArray := prog_2_method_17_code
def yX0_outlives : MethodName := ⟨RX0, "outlives", "(II)Z"⟩
abbrev cX0_advanceDrain : ByteArray := prog_2_method_18_code
def yX0_advanceDrain : MethodName := ⟨RX0, "advanceDrain", "()V"⟩
abbrev cX0_noteLastSites : ByteArray := prog_2_method_19_code
def yX0_noteLastSites : MethodName := ⟨RX0, "noteLastSites", "()V"⟩
abbrev cX1_init : ByteArray := prog_3_method_1_code
def yX1_init : MethodName := ⟨RX1, "<init>", "()V"⟩
abbrev cX1_has : ByteArray := prog_3_method_2_code
def yX1_has : MethodName := ⟨RX1, "has", "(I)Z"⟩
abbrev cX1_add : ByteArray := prog_3_method_3_code
def yX1_add : MethodName := ⟨RX1, "add", "(I)I"⟩
abbrev cX1_lineLength : ByteArray := prog_3_method_4_code
def yX1_lineLength : MethodName := ⟨RX1, "lineLength", "(II)I"⟩
abbrev cX1_distance : ByteArray := prog_3_method_5_code
def yX1_distance : MethodName := ⟨RX1, "distance", "(II)I"⟩
abbrev cX1_putLine : ByteArray := prog_3_method_6_code
def yX1_putLine : MethodName := ⟨RX1, "putLine", "(III)V"⟩
abbrev cX1_measure : ByteArray := prog_3_method_7_code
def yX1_measure : MethodName := ⟨RX1, "measure", "()V"⟩
abbrev cX1_shorten : ByteArray := prog_3_method_8_code
def yX1_shorten : MethodName := ⟨RX1, "shorten", "(III)V"⟩
abbrev cX1_copyFrom : ByteArray := prog_3_method_9_code
def yX1_copyFrom : MethodName := ⟨RX1, "copyFrom", "(LAnySites$Areas;)V"⟩
abbrev cX2_init : ByteArray := prog_4_method_1_code
def yX2_init : MethodName := ⟨RX2, "<init>", "(LAnySites$State;LAnySites$Outlook;)V"⟩
abbrev cX2_isSafeToGo : ByteArray := prog_4_method_2_code
def yX2_isSafeToGo : MethodName := ⟨RX2, "isSafeToGo", "(I)Z"⟩
abbrev cX2_staysCalm : ByteArray := prog_4_method_3_code
def yX2_staysCalm : MethodName := ⟨RX2, "staysCalm", "(I)Z"⟩
abbrev cX2_withdrawn : ByteArray := prog_4_method_4_code
def yX2_withdrawn : MethodName := ⟨RX2, "withdrawn", "(II)I"⟩
abbrev cX2_withdraws : ByteArray := prog_4_method_5_code
def yX2_withdraws : MethodName := ⟨RX2, "withdraws", "(III)Z"⟩
abbrev cX2_worstSet : ByteArray := prog_4_method_6_code
def yX2_worstSet : MethodName := ⟨RX2, "worstSet", "(I)I"⟩
abbrev cX2_excess : ByteArray := prog_4_method_7_code
def yX2_excess : MethodName := ⟨RX2, "excess", "(I)I"⟩
abbrev cX3_init : ByteArray := prog_5_method_1_code
def yX3_init : MethodName := ⟨RX3, "<init>", "()V"⟩
abbrev cX3_markState : ByteArray := prog_5_method_2_code
def yX3_markState : MethodName := ⟨RX3, "markState", "(LAnySites$State;)V"⟩
abbrev cX3_keepMarked : ByteArray := prog_5_method_3_code
def yX3_keepMarked : MethodName := ⟨RX3, "keepMarked", "()V"⟩
abbrev cX3_restoreMarked : ByteArray := prog_5_method_4_code
def yX3_restoreMarked : MethodName := ⟨RX3, "restoreMarked", "(LAnySites$State;)V"⟩
abbrev cX3_restoreLatest : ByteArray := prog_5_method_5_code
def yX3_restoreLatest : MethodName := ⟨RX3, "restoreLatest", "(LAnySites$State;)V"⟩
abbrev cX4_init : ByteArray := prog_6_method_1_code
def yX4_init : MethodName := ⟨RX4, "<init>", "(LAnySites$State;)V"⟩
abbrev cX4_lookAtPresent : ByteArray := prog_6_method_2_code
def yX4_lookAtPresent : MethodName := ⟨RX4, "lookAtPresent", "()I"⟩
abbrev cX4_look : ByteArray := prog_6_method_3_code
def yX4_look : MethodName := ⟨RX4, "look", "(I[I)I"⟩
abbrev cX4_addCarried : ByteArray := prog_6_method_4_code
def yX4_addCarried : MethodName := ⟨RX4, "addCarried", "()V"⟩
abbrev cX4_presentCatch : ByteArray := prog_6_method_5_code
def yX4_presentCatch : MethodName := ⟨RX4, "presentCatch", "(I)I"⟩
abbrev cX4_catchOf : ByteArray := prog_6_method_6_code
def yX4_catchOf : MethodName := ⟨RX4, "catchOf", "(II[I)I"⟩
abbrev cX4_stepLengthFrom : ByteArray := prog_6_method_7_code
def yX4_stepLengthFrom : MethodName := ⟨RX4, "stepLengthFrom", "(I)I"⟩
abbrev cX4_presentApparent : ByteArray := prog_6_method_8_code
def yX4_presentApparent : MethodName := ⟨RX4, "presentApparent", "(II)I"⟩
abbrev cX4_sitesInReach : ByteArray := prog_6_method_9_code
def yX4_sitesInReach : MethodName := ⟨RX4, "sitesInReach", "(I)I"⟩
abbrev cX4_caughtBy : ByteArray := prog_6_method_10_code
def yX4_caughtBy : MethodName := ⟨RX4, "caughtBy", "(I)I"⟩
abbrev cX4_contains : ByteArray := prog_6_method_11_code
def yX4_contains : MethodName := ⟨RX4, "contains", "(II)Z"⟩
abbrev cX5_init : ByteArray := prog_7_method_1_code
def yX5_init : MethodName := ⟨RX5, "<init>", "(LAnySites$State;LAnySites$Outlook;)V"⟩
abbrev cX5_forget : ByteArray := prog_7_method_2_code
def yX5_forget : MethodName := ⟨RX5, "forget", "()V"⟩
abbrev cX5_bestSum : ByteArray := prog_7_method_3_code
def yX5_bestSum : MethodName := ⟨RX5, "bestSum", "()I"⟩
abbrev cX5_stepOf : ByteArray := prog_7_method_4_code
def yX5_stepOf : MethodName := ⟨RX5, "stepOf", "(I)I"⟩
abbrev cX5_hasTooLittleRoom : ByteArray := prog_7_method_5_code
def yX5_hasTooLittleRoom : MethodName := ⟨RX5, "hasTooLittleRoom", "(I)Z"⟩
abbrev cX5_roomAround : ByteArray := prog_7_method_6_code
def yX5_roomAround : MethodName := ⟨RX5, "roomAround", "(II)I"⟩
abbrev cX5_demandAround : ByteArray := prog_7_method_7_code
def yX5_demandAround : MethodName := ⟨RX5, "demandAround", "(I)I"⟩
abbrev cX5_spreads : ByteArray := prog_7_method_8_code
def yX5_spreads : MethodName := ⟨RX5, "spreads", "(III)Z"⟩
abbrev cX6_init : ByteArray := prog_8_method_1_code
def yX6_init : MethodName := ⟨RX6, "<init>", "()V"⟩
abbrev cX6_append : ByteArray := prog_8_method_2_code
def yX6_append : MethodName := ⟨RX6, "append", "(I)I"⟩
abbrev cX6_emptied : ByteArray := prog_8_method_3_code
def yX6_emptied : MethodName := ⟨RX6, "emptied", "()I"⟩
abbrev cX6_letter : ByteArray := prog_8_method_4_code
def yX6_letter : MethodName := ⟨RX6, "letter", "(I)I"⟩
abbrev cX6_number : ByteArray := prog_8_method_5_code
def yX6_number : MethodName := ⟨RX6, "number", "(II)I"⟩
abbrev cX6_parse : ByteArray := prog_8_method_6_code
def yX6_parse : MethodName := ⟨RX6, "parse", "()I"⟩
abbrev cX6_begin : ByteArray := prog_8_method_7_code
def yX6_begin : MethodName := ⟨RX6, "begin", "(I)V"⟩
abbrev cX6_takesDigit : ByteArray := prog_8_method_8_code
def yX6_takesDigit : MethodName := ⟨RX6, "takesDigit", "(II)Z"⟩
abbrev cX6_numbersBehind : ByteArray := prog_8_method_9_code
def yX6_numbersBehind : MethodName := ⟨RX6, "numbersBehind", "(I)I"⟩
abbrev cX7_init : ByteArray := prog_9_method_1_code
def yX7_init : MethodName := ⟨RX7, "<init>", "()V"⟩
abbrev cX7_has : ByteArray := prog_9_method_2_code
def yX7_has : MethodName := ⟨RX7, "has", "(I)Z"⟩
abbrev cX7_add : ByteArray := prog_9_method_3_code
def yX7_add : MethodName := ⟨RX7, "add", "(IIII)I"⟩
abbrev cX7_remove : ByteArray := prog_9_method_4_code
def yX7_remove : MethodName := ⟨RX7, "remove", "(I)V"⟩
abbrev cX7_move : ByteArray := prog_9_method_5_code
def yX7_move : MethodName := ⟨RX7, "move", "(II)V"⟩
abbrev cX7_countOfArea : ByteArray := prog_9_method_6_code
def yX7_countOfArea : MethodName := ⟨RX7, "countOfArea", "(I)I"⟩
abbrev cX7_countAtSite : ByteArray := prog_9_method_7_code
def yX7_countAtSite : MethodName := ⟨RX7, "countAtSite", "(I)I"⟩
abbrev cX7_copyFrom : ByteArray := prog_9_method_8_code
def yX7_copyFrom : MethodName := ⟨RX7, "copyFrom", "(LAnySites$Sessions;)V"⟩
abbrev cX8_init : ByteArray := prog_10_method_1_code
def yX8_init : MethodName := ⟨RX8, "<init>", "()V"⟩
abbrev cX8_has : ByteArray := prog_10_method_2_code
def yX8_has : MethodName := ⟨RX8, "has", "(I)Z"⟩
abbrev cX8_add : ByteArray := prog_10_method_3_code
def yX8_add : MethodName := ⟨RX8, "add", "(II)I"⟩
abbrev cX8_notOff : ByteArray := prog_10_method_4_code
def yX8_notOff : MethodName := ⟨RX8, "notOff", "()I"⟩
abbrev cX8_placeInQueue : ByteArray := prog_10_method_5_code
def yX8_placeInQueue : MethodName := ⟨RX8, "placeInQueue", "(I)I"⟩
abbrev cX8_startDraining : ByteArray := prog_10_method_6_code
def yX8_startDraining : MethodName := ⟨RX8, "startDraining", "(I)V"⟩
abbrev cX8_turnOn : ByteArray := prog_10_method_7_code
def yX8_turnOn : MethodName := ⟨RX8, "turnOn", "(I)V"⟩
abbrev cX8_turnOff : ByteArray := prog_10_method_8_code
def yX8_turnOff : MethodName := ⟨RX8, "turnOff", "(I)V"⟩
abbrev cX8_leaveQueue : ByteArray := prog_10_method_9_code
def yX8_leaveQueue : MethodName := ⟨RX8, "leaveQueue", "(I)V"⟩
abbrev cX8_copyFrom : ByteArray := prog_10_method_10_code
def yX8_copyFrom : MethodName := ⟨RX8, "copyFrom", "(LAnySites$Sites;)V"⟩
abbrev cX9_init : ByteArray := prog_11_method_1_code
def yX9_init : MethodName := ⟨RX9, "<init>", "()V"⟩
abbrev cX9_copyFrom : ByteArray := prog_11_method_2_code
def yX9_copyFrom : MethodName := ⟨RX9, "copyFrom", "(LAnySites$State;)V"⟩
abbrev cX10_init : ByteArray := prog_1_method_1_code
def yX10_init : MethodName := ⟨RX10, "<init>", "()V"⟩
abbrev cX10_area : ByteArray := prog_1_method_2_code
def yX10_area : MethodName := ⟨RX10, "area", "(I)I"⟩
abbrev cX10_wants : ByteArray := prog_1_method_3_code
def yX10_wants : MethodName := ⟨RX10, "wants", "(II)I"⟩
abbrev cX10_line : ByteArray := prog_1_method_4_code
def yX10_line : MethodName := ⟨RX10, "line", "(III)I"⟩
abbrev cX10_mood : ByteArray := prog_1_method_5_code
def yX10_mood : MethodName := ⟨RX10, "mood", "(II)I"⟩
abbrev cX10_site : ByteArray := prog_1_method_6_code
def yX10_site : MethodName := ⟨RX10, "site", "(II)I"⟩
abbrev cX10_rooms : ByteArray := prog_1_method_7_code
def yX10_rooms : MethodName := ⟨RX10, "rooms", "(II)I"⟩
abbrev cX10_steps : ByteArray := prog_1_method_8_code
def yX10_steps : MethodName := ⟨RX10, "steps", "(II)I"⟩
abbrev cX10_drains : ByteArray := prog_1_method_9_code
def yX10_drains : MethodName := ⟨RX10, "drains", "(I)I"⟩
abbrev cX10_cuts : ByteArray := prog_1_method_10_code
def yX10_cuts : MethodName := ⟨RX10, "cuts", "(I)I"⟩
abbrev cX10_far : ByteArray := prog_1_method_11_code
def yX10_far : MethodName := ⟨RX10, "far", "(II)I"⟩
abbrev cX10_of : ByteArray := prog_1_method_12_code
def yX10_of : MethodName := ⟨RX10, "of", "(II)I"⟩
abbrev cX10_siteOf : ByteArray := prog_1_method_13_code
def yX10_siteOf : MethodName := ⟨RX10, "siteOf", "(II)I"⟩
abbrev cX10_seems : ByteArray := prog_1_method_14_code
def yX10_seems : MethodName := ⟨RX10, "seems", "(II)I"⟩
abbrev cX10_opens : ByteArray := prog_1_method_15_code
def yX10_opens : MethodName := ⟨RX10, "opens", "(III)I"⟩
abbrev cX10_session : ByteArray := prog_1_method_16_code
def yX10_session : MethodName := ⟨RX10, "session", "(II)I"⟩
abbrev cX10_ends : ByteArray := prog_1_method_17_code
def yX10_ends : MethodName := ⟨RX10, "ends", "(I)I"⟩
abbrev cX10_ticks : ByteArray := prog_1_method_18_code
def yX10_ticks : MethodName := ⟨RX10, "ticks", "(I)I"⟩
abbrev cX10_plan : ByteArray := prog_1_method_19_code
def yX10_plan : MethodName := ⟨RX10, "plan", "(I)I"⟩
abbrev cX10_lays : ByteArray := prog_1_method_20_code
def yX10_lays : MethodName := ⟨RX10, "lays", "()I"⟩
abbrev cX10_order : ByteArray := prog_1_method_21_code
def yX10_order : MethodName := ⟨RX10, "order", "(II)I"⟩
abbrev cX10_worst : ByteArray := prog_1_method_22_code
def yX10_worst : MethodName := ⟨RX10, "worst", "(II)I"⟩
abbrev cX10_type : ByteArray := prog_1_method_23_code
def yX10_type : MethodName := ⟨RX10, "type", "(I)I"⟩
abbrev cX10_clear : ByteArray := prog_1_method_24_code
def yX10_clear : MethodName := ⟨RX10, "clear", "()I"⟩
abbrev cX10_reads : ByteArray := prog_1_method_25_code
def yX10_reads : MethodName := ⟨RX10, "reads", "()I"⟩
abbrev cX10_back : ByteArray := prog_1_method_26_code
def yX10_back : MethodName := ⟨RX10, "back", "()I"⟩
abbrev cX10_told : ByteArray := prog_1_method_27_code
def yX10_told : MethodName := ⟨RX10, "told", "(I)I"⟩
abbrev cX10_digest : ByteArray := prog_1_method_28_code
def yX10_digest : MethodName := ⟨RX10, "digest", "()J"⟩
abbrev cX10_digestOfAreas : ByteArray := prog_1_method_29_code
def yX10_digestOfAreas : MethodName := ⟨RX10, "digestOfAreas", "(J)J"⟩
abbrev cX10_mixed : ByteArray := prog_1_method_30_code
def yX10_mixed : MethodName := ⟨RX10, "mixed", "(JI)J"⟩
abbrev cX10_areaValue : ByteArray := prog_1_method_31_code
def yX10_areaValue : MethodName := ⟨RX10, "areaValue", "(II)I"⟩
abbrev cX10_siteValue : ByteArray := prog_1_method_32_code
def yX10_siteValue : MethodName := ⟨RX10, "siteValue", "(II)I"⟩
abbrev cX10_sessionValue : ByteArray := prog_1_method_33_code
def yX10_sessionValue : MethodName := ⟨RX10, "sessionValue", "(II)I"⟩
abbrev cX10_countValue : ByteArray := prog_1_method_34_code
def yX10_countValue : MethodName := ⟨RX10, "countValue", "(I)I"⟩
abbrev cX10_mark : ByteArray := prog_1_method_35_code
def yX10_mark : MethodName := ⟨RX10, "mark", "()V"⟩
abbrev cX10_settled : ByteArray := prog_1_method_36_code
def yX10_settled : MethodName := ⟨RX10, "settled", "(I)I"⟩
abbrev cX10_counted : ByteArray := prog_1_method_37_code
def yX10_counted : MethodName := ⟨RX10, "counted", "(I)I"⟩
abbrev cX10_within : ByteArray := prog_1_method_38_code
def yX10_within : MethodName := ⟨RX10, "within", "(III)Z"⟩
abbrev cX11_init : ByteArray := prog_13_method_1_code
def yX11_init : MethodName := ⟨RX11, "<init>", "()V"⟩
abbrev cX11_in : ByteArray := prog_13_method_3_code
def yX11_in : MethodName := ⟨RX11, "in", "(JJJ)Z"⟩
abbrev cX11_refuses : ByteArray := prog_13_method_4_code
def yX11_refuses : MethodName := ⟨RX11, "refuses", "(I)I"⟩
abbrev cX11_keep : ByteArray := prog_13_method_5_code
def yX11_keep : MethodName := ⟨RX11, "keep", "()V"⟩
abbrev cX11_isArea : ByteArray := prog_13_method_6_code
def yX11_isArea : MethodName := ⟨RX11, "isArea", "(I)Z"⟩
abbrev cX11_isSite : ByteArray := prog_13_method_7_code
def yX11_isSite : MethodName := ⟨RX11, "isSite", "(I)Z"⟩
abbrev cX11_ofSite : ByteArray := prog_13_method_8_code
def yX11_ofSite : MethodName := ⟨RX11, "ofSite", "(II)I"⟩
abbrev cX11_stepOf : ByteArray := prog_13_method_9_code
def yX11_stepOf : MethodName := ⟨RX11, "stepOf", "(I)I"⟩
abbrev cX11_stateOf : ByteArray := prog_13_method_10_code
def yX11_stateOf : MethodName := ⟨RX11, "stateOf", "(I)I"⟩
abbrev cX11_putsStep : ByteArray := prog_13_method_11_code
def yX11_putsStep : MethodName := ⟨RX11, "putsStep", "(II)V"⟩
abbrev cX11_putsState : ByteArray := prog_13_method_12_code
def yX11_putsState : MethodName := ⟨RX11, "putsState", "(II)V"⟩
abbrev cX11_ofSession : ByteArray := prog_13_method_13_code
def yX11_ofSession : MethodName := ⟨RX11, "ofSession", "(II)I"⟩
abbrev cX11_laysWays : ByteArray := prog_13_method_14_code
def yX11_laysWays : MethodName := ⟨RX11, "laysWays", "()V"⟩
abbrev cX11_way : ByteArray := prog_13_method_15_code
def yX11_way : MethodName := ⟨RX11, "way", "(II)I"⟩
abbrev cX11_seemsThen : ByteArray := prog_13_method_16_code
def yX11_seemsThen : MethodName := ⟨RX11, "seemsThen", "(II)I"⟩
abbrev cX11_catchOf : ByteArray := prog_13_method_17_code
def yX11_catchOf : MethodName := ⟨RX11, "catchOf", "(I)I"⟩
abbrev cX11_laysCatches : ByteArray := prog_13_method_18_code
def yX11_laysCatches : MethodName := ⟨RX11, "laysCatches", "()V"⟩
abbrev cX11_laysAll : ByteArray := prog_13_method_19_code
def yX11_laysAll : MethodName := ⟨RX11, "laysAll", "()V"⟩
abbrev cX11_isCarried : ByteArray := prog_13_method_20_code
def yX11_isCarried : MethodName := ⟨RX11, "isCarried", "(I)Z"⟩
abbrev cX11_load : ByteArray := prog_13_method_21_code
def yX11_load : MethodName := ⟨RX11, "load", "(I)I"⟩
abbrev cX11_isOver : ByteArray := prog_13_method_22_code
def yX11_isOver : MethodName := ⟨RX11, "isOver", "(I)Z"⟩
abbrev cX11_over : ByteArray := prog_13_method_23_code
def yX11_over : MethodName := ⟨RX11, "over", "()I"⟩
abbrev cX11_canArea : ByteArray := prog_13_method_24_code
def yX11_canArea : MethodName := ⟨RX11, "canArea", "(I)I"⟩
abbrev cX11_areaNow : ByteArray := prog_13_method_25_code
def yX11_areaNow : MethodName := ⟨RX11, "areaNow", "(I)I"⟩
abbrev cX11_area : ByteArray := prog_13_method_26_code
def yX11_area : MethodName := ⟨RX11, "area", "(I)I"⟩
abbrev cX11_wants : ByteArray := prog_13_method_27_code
def yX11_wants : MethodName := ⟨RX11, "wants", "(II)I"⟩
abbrev cX11_canLine : ByteArray := prog_13_method_28_code
def yX11_canLine : MethodName := ⟨RX11, "canLine", "(III)I"⟩
abbrev cX11_lineNow : ByteArray := prog_13_method_29_code
def yX11_lineNow : MethodName := ⟨RX11, "lineNow", "(III)I"⟩
abbrev cX11_line : ByteArray := prog_13_method_30_code
def yX11_line : MethodName := ⟨RX11, "line", "(III)I"⟩
abbrev cX11_canMood : ByteArray := prog_13_method_31_code
def yX11_canMood : MethodName := ⟨RX11, "canMood", "(II)I"⟩
abbrev cX11_moodNow : ByteArray := prog_13_method_32_code
def yX11_moodNow : MethodName := ⟨RX11, "moodNow", "(II)I"⟩
abbrev cX11_mood : ByteArray := prog_13_method_33_code
def yX11_mood : MethodName := ⟨RX11, "mood", "(II)I"⟩
abbrev cX11_canSite : ByteArray := prog_13_method_34_code
def yX11_canSite : MethodName := ⟨RX11, "canSite", "(II)I"⟩
abbrev cX11_siteNow : ByteArray := prog_13_method_35_code
def yX11_siteNow : MethodName := ⟨RX11, "siteNow", "(II)I"⟩
abbrev cX11_site : ByteArray := prog_13_method_36_code
def yX11_site : MethodName := ⟨RX11, "site", "(II)I"⟩
abbrev cX11_rooms : ByteArray := prog_13_method_37_code
def yX11_rooms : MethodName := ⟨RX11, "rooms", "(II)I"⟩
abbrev cX11_canStep : ByteArray := prog_13_method_38_code
def yX11_canStep : MethodName := ⟨RX11, "canStep", "(II)I"⟩
abbrev cX11_stepNow : ByteArray := prog_13_method_39_code
def yX11_stepNow : MethodName := ⟨RX11, "stepNow", "(II)I"⟩
abbrev cX11_steps : ByteArray := prog_13_method_40_code
def yX11_steps : MethodName := ⟨RX11, "steps", "(II)I"⟩
abbrev cX11_canDrain : ByteArray := prog_13_method_41_code
def yX11_canDrain : MethodName := ⟨RX11, "canDrain", "(I)I"⟩
abbrev cX11_drainNow : ByteArray := prog_13_method_42_code
def yX11_drainNow : MethodName := ⟨RX11, "drainNow", "(I)I"⟩
abbrev cX11_drains : ByteArray := prog_13_method_43_code
def yX11_drains : MethodName := ⟨RX11, "drains", "(I)I"⟩
abbrev cX11_placeOf : ByteArray := prog_13_method_44_code
def yX11_placeOf : MethodName := ⟨RX11, "placeOf", "(I)I"⟩
abbrev cX11_leavesQueue : ByteArray := prog_13_method_45_code
def yX11_leavesQueue : MethodName := ⟨RX11, "leavesQueue", "(I)V"⟩
abbrev cX11_goesOff : ByteArray := prog_13_method_46_code
def yX11_goesOff : MethodName := ⟨RX11, "goesOff", "(I)V"⟩
abbrev cX11_cutNow : ByteArray := prog_13_method_47_code
def yX11_cutNow : MethodName := ⟨RX11, "cutNow", "(I)I"⟩
abbrev cX11_cuts : ByteArray := prog_13_method_48_code
def yX11_cuts : MethodName := ⟨RX11, "cuts", "(I)I"⟩
abbrev cX11_far : ByteArray := prog_13_method_49_code
def yX11_far : MethodName := ⟨RX11, "far", "(II)I"⟩
abbrev cX11_ofNow : ByteArray := prog_13_method_50_code
def yX11_ofNow : MethodName := ⟨RX11, "ofNow", "(II)I"⟩
abbrev cX11_of : ByteArray := prog_13_method_51_code
def yX11_of : MethodName := ⟨RX11, "of", "(II)I"⟩
abbrev cX11_overWithout : ByteArray := prog_13_method_52_code
def yX11_overWithout : MethodName := ⟨RX11, "overWithout", "(I)I"⟩
abbrev cX11_caught : ByteArray := prog_13_method_53_code
def yX11_caught : MethodName := ⟨RX11, "caught", "(I)I"⟩
abbrev cX11_sessionsAt : ByteArray := prog_13_method_54_code
def yX11_sessionsAt : MethodName := ⟨RX11, "sessionsAt", "(I)I"⟩
abbrev cX11_siteThen : ByteArray := prog_13_method_55_code
def yX11_siteThen : MethodName := ⟨RX11, "siteThen", "(II)I"⟩
abbrev cX11_siteOf : ByteArray := prog_13_method_56_code
def yX11_siteOf : MethodName := ⟨RX11, "siteOf", "(II)I"⟩
abbrev cX11_seems : ByteArray := prog_13_method_57_code
def yX11_seems : MethodName := ⟨RX11, "seems", "(II)I"⟩
abbrev cX11_canOpen : ByteArray := prog_13_method_58_code
def yX11_canOpen : MethodName := ⟨RX11, "canOpen", "(III)I"⟩
abbrev cX11_openNow : ByteArray := prog_13_method_59_code
def yX11_openNow : MethodName := ⟨RX11, "openNow", "(III)I"⟩
abbrev cX11_opens : ByteArray := prog_13_method_60_code
def yX11_opens : MethodName := ⟨RX11, "opens", "(III)I"⟩
abbrev cX11_sessionNow : ByteArray := prog_13_method_61_code
def yX11_sessionNow : MethodName := ⟨RX11, "sessionNow", "(II)I"⟩
abbrev cX11_session : ByteArray := prog_13_method_62_code
def yX11_session : MethodName := ⟨RX11, "session", "(II)I"⟩
abbrev cX11_endsOne : ByteArray := prog_13_method_63_code
def yX11_endsOne : MethodName := ⟨RX11, "endsOne", "(I)V"⟩
abbrev cX11_ends : ByteArray := prog_13_method_64_code
def yX11_ends : MethodName := ⟨RX11, "ends", "(I)I"⟩
abbrev cX11_runsSessions : ByteArray := prog_13_method_65_code
def yX11_runsSessions : MethodName := ⟨RX11, "runsSessions", "()V"⟩
abbrev cX11_drainsOne : ByteArray := prog_13_method_66_code
def yX11_drainsOne : MethodName := ⟨RX11, "drainsOne", "()V"⟩
abbrev cX11_ticksOne : ByteArray := prog_13_method_67_code
def yX11_ticksOne : MethodName := ⟨RX11, "ticksOne", "()V"⟩
abbrev cX11_tickNow : ByteArray := prog_13_method_68_code
def yX11_tickNow : MethodName := ⟨RX11, "tickNow", "(I)I"⟩
abbrev cX11_ticks : ByteArray := prog_13_method_69_code
def yX11_ticks : MethodName := ⟨RX11, "ticks", "(I)I"⟩
abbrev cX11_nextSteps : ByteArray := prog_13_method_70_code
def yX11_nextSteps : MethodName := ⟨RX11, "nextSteps", "()Z"⟩
abbrev cX11_stepsSum : ByteArray := prog_13_method_71_code
def yX11_stepsSum : MethodName := ⟨RX11, "stepsSum", "()I"⟩
abbrev cX11_findsPlan : ByteArray := prog_13_method_72_code
def yX11_findsPlan : MethodName := ⟨RX11, "findsPlan", "()I"⟩
abbrev cX11_plan : ByteArray := prog_13_method_73_code
def yX11_plan : MethodName := ⟨RX11, "plan", "(I)I"⟩
abbrev cX11_lays : ByteArray := prog_13_method_74_code
def yX11_lays : MethodName := ⟨RX11, "lays", "()I"⟩
abbrev cX11_size : ByteArray := prog_13_method_75_code
def yX11_size : MethodName := ⟨RX11, "size", "(I)I"⟩
abbrev cX11_laysOrder : ByteArray := prog_13_method_76_code
def yX11_laysOrder : MethodName := ⟨RX11, "laysOrder", "(II)V"⟩
abbrev cX11_mayGo : ByteArray := prog_13_method_77_code
def yX11_mayGo : MethodName := ⟨RX11, "mayGo", "(I)Z"⟩
abbrev cX11_orderNow : ByteArray := prog_13_method_78_code
def yX11_orderNow : MethodName := ⟨RX11, "orderNow", "(II)I"⟩
abbrev cX11_areOn : ByteArray := prog_13_method_79_code
def yX11_areOn : MethodName := ⟨RX11, "areOn", "(I)Z"⟩
abbrev cX11_order : ByteArray := prog_13_method_80_code
def yX11_order : MethodName := ⟨RX11, "order", "(II)I"⟩
abbrev cX11_excess : ByteArray := prog_13_method_81_code
def yX11_excess : MethodName := ⟨RX11, "excess", "(I)I"⟩
abbrev cX11_worstNow : ByteArray := prog_13_method_82_code
def yX11_worstNow : MethodName := ⟨RX11, "worstNow", "(II)I"⟩
abbrev cX11_worst : ByteArray := prog_13_method_83_code
def yX11_worst : MethodName := ⟨RX11, "worst", "(II)I"⟩
abbrev cX11_type : ByteArray := prog_13_method_84_code
def yX11_type : MethodName := ⟨RX11, "type", "(I)I"⟩
abbrev cX11_clear : ByteArray := prog_13_method_85_code
def yX11_clear : MethodName := ⟨RX11, "clear", "()I"⟩
abbrev cX11_here : ByteArray := prog_13_method_86_code
def yX11_here : MethodName := ⟨RX11, "here", "()I"⟩
abbrev cX11_isFigure : ByteArray := prog_13_method_87_code
def yX11_isFigure : MethodName := ⟨RX11, "isFigure", "(I)Z"⟩
abbrev cX11_takes : ByteArray := prog_13_method_88_code
def yX11_takes : MethodName := ⟨RX11, "takes", "(I)Z"⟩
abbrev cX11_numbersOf : ByteArray := prog_13_method_89_code
def yX11_numbersOf : MethodName := ⟨RX11, "numbersOf", "(I)I"⟩
abbrev cX11_can : ByteArray := prog_13_method_90_code
def yX11_can : MethodName := ⟨RX11, "can", "(I)I"⟩
abbrev cX11_does : ByteArray := prog_13_method_91_code
def yX11_does : MethodName := ⟨RX11, "does", "(I)I"⟩
abbrev cX11_readsOrder : ByteArray := prog_13_method_92_code
def yX11_readsOrder : MethodName := ⟨RX11, "readsOrder", "(Z)Z"⟩
abbrev cX11_reads : ByteArray := prog_13_method_93_code
def yX11_reads : MethodName := ⟨RX11, "reads", "()I"⟩
abbrev cX11_keepsAside : ByteArray := prog_13_method_94_code
def yX11_keepsAside : MethodName := ⟨RX11, "keepsAside", "()V"⟩
abbrev cX11_back : ByteArray := prog_13_method_95_code
def yX11_back : MethodName := ⟨RX11, "back", "()I"⟩
abbrev cX11_toldOf : ByteArray := prog_13_method_96_code
def yX11_toldOf : MethodName := ⟨RX11, "toldOf", "(I)I"⟩
abbrev cX11_told : ByteArray := prog_13_method_97_code
def yX11_told : MethodName := ⟨RX11, "told", "(I)I"⟩
abbrev cX11_digest : ByteArray := prog_13_method_98_code
def yX11_digest : MethodName := ⟨RX11, "digest", "()J"⟩
abbrev vwCl : List vw_C := [(RX0, TX0, 3), (RX1, TX1, 6), (RX2, TX2, 3), (RX3, TX3, 3), (RX4, TX4, 3), (RX5, TX5, 5), (RX6, TX6, 7), (RX7, TX7, 5), (RX8, TX8, 7), (RX9, TX9, 7), (RX10, TX10, 10), (RX11, TX11, 17)]
abbrev cJ_min : ByteArray := prog_15_method_69_code
def yJ_min : MethodName := ⟨"java/lang/Math", "min", "(II)I"⟩
abbrev cJ_max : ByteArray := prog_15_method_65_code
def yJ_max : MethodName := ⟨"java/lang/Math", "max", "(II)I"⟩
abbrev cJ_bitCount : ByteArray := prog_14_method_49_code
def yJ_bitCount : MethodName := ⟨"java/lang/Integer", "bitCount", "(I)I"⟩
def x_tb : List Cond := lw_tbl.filter goodWord
theorem x_mt {w : Cond} (i : Nat) (h : tables_1[i]? = some w) (hg : goodWord w = true) : w ∈ x_tb := List.mem_filter.mpr ⟨List.mem_append_right _ (List.mem_of_getElem? h), hg⟩
theorem x_ms {w : Cond} (i : Nat) (h : (k2_sels lw_privs)[i]? = some w) (hg : goodWord w = true) : w ∈ x_tb := List.mem_filter.mpr ⟨List.mem_append_left _ (List.mem_of_getElem? h), hg⟩
theorem x_tb_lw {w : Cond} (h : w ∈ x_tb) : w ∈ lw_tbl := (List.mem_filter.mp h).1
theorem x_tb_good {w : Cond} (h : w ∈ x_tb) : (w.onTables && w.keeps) = true ∨ ∃ ty, w = .arrayClass ty := good_of_word (List.mem_filter.mp h).2
theorem x_gi {c : Cond} (h : c ∈ x_tb) : GoodIn x_tb (c :: x_tb) := by
  intro w hw
  rcases List.mem_cons.mp hw with rfl | hw
  · exact ⟨h, x_tb_good h⟩
  · exact ⟨hw, x_tb_good hw⟩
theorem x_uw (l : List Cond) (h : l.all (fun w => decide (w ∈ tables_1) && goodWord w) = true) : ∀ w ∈ l, w ∈ x_tb := by
  intro w hw
  have h1 := List.all_eq_true.mp h w hw
  simp only [Bool.and_eq_true, decide_eq_true_eq] at h1
  exact List.mem_filter.mpr ⟨List.mem_append_right _ h1.1, h1.2⟩
theorem x_iw0 : ∀ w ∈ u_ws RX0 TX0 3, w ∈ x_tb := x_uw _ (by decide +kernel)
theorem x_iw1 : ∀ w ∈ u_ws RX1 TX1 6, w ∈ x_tb := x_uw _ (by decide +kernel)
theorem x_iw2 : ∀ w ∈ u_ws RX2 TX2 3, w ∈ x_tb := x_uw _ (by decide +kernel)
theorem x_iw3 : ∀ w ∈ u_ws RX3 TX3 3, w ∈ x_tb := x_uw _ (by decide +kernel)
theorem x_iw4 : ∀ w ∈ u_ws RX4 TX4 3, w ∈ x_tb := x_uw _ (by decide +kernel)
theorem x_iw5 : ∀ w ∈ u_ws RX5 TX5 5, w ∈ x_tb := x_uw _ (by decide +kernel)
theorem x_iw6 : ∀ w ∈ u_ws RX6 TX6 7, w ∈ x_tb := x_uw _ (by decide +kernel)
theorem x_iw7 : ∀ w ∈ u_ws RX7 TX7 5, w ∈ x_tb := x_uw _ (by decide +kernel)
theorem x_iw8 : ∀ w ∈ u_ws RX8 TX8 7, w ∈ x_tb := x_uw _ (by decide +kernel)
theorem x_iw9 : ∀ w ∈ u_ws RX9 TX9 7, w ∈ x_tb := x_uw _ (by decide +kernel)
theorem x_iw10 : ∀ w ∈ u_ws RX10 TX10 10, w ∈ x_tb := x_uw _ (by decide +kernel)
theorem x_iw11 : ∀ w ∈ u_ws RX11 TX11 17, w ∈ x_tb := x_uw _ (by decide +kernel)
