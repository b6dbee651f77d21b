section
/-- a private method of a class that the tables say can be made, by its rows of tables_1 -/
def lw_okq (q : MethodName × Nat) : Prop := (q.1.cls ≠ "java/lang/invoke/MethodHandle" ∧ q.1.cls ≠ "java/lang/invoke/VarHandle") ∧ Cond.instantiable q.1.cls q.2 ∈ tables_1 ∧ Cond.privateMethod q.1 ∈ tables_1 ∧ Cond.instanceMethod q.1 ∈ tables_1
theorem lw_p0 : lw_okq (⟨"RotorBench$Machine", "takePath", "(I)I"⟩, 14) := ⟨⟨by decide +kernel, by decide +kernel⟩, List.mem_of_getElem? (i := 29) (by decide +kernel), List.mem_of_getElem? (i := 279) (by decide +kernel), List.mem_of_getElem? (i := 280) (by decide +kernel)⟩
theorem lw_p1 : lw_okq (⟨"RotorBench$Machine", "intoSlots", "(I)I"⟩, 14) := ⟨⟨by decide +kernel, by decide +kernel⟩, List.mem_of_getElem? (i := 29) (by decide +kernel), List.mem_of_getElem? (i := 283) (by decide +kernel), List.mem_of_getElem? (i := 284) (by decide +kernel)⟩
theorem lw_p2 : lw_okq (⟨"RotorBench$Machine", "fromSlots", "(I)I"⟩, 14) := ⟨⟨by decide +kernel, by decide +kernel⟩, List.mem_of_getElem? (i := 29) (by decide +kernel), List.mem_of_getElem? (i := 294) (by decide +kernel), List.mem_of_getElem? (i := 295) (by decide +kernel)⟩
theorem lw_p3 : lw_okq (⟨"RotorBench$Machine", "turnBits", "(I)I"⟩, 14) := ⟨⟨by decide +kernel, by decide +kernel⟩, List.mem_of_getElem? (i := 29) (by decide +kernel), List.mem_of_getElem? (i := 298) (by decide +kernel), List.mem_of_getElem? (i := 299) (by decide +kernel)⟩
theorem lw_p4 : lw_okq (⟨"RotorBench$Machine", "isUp", "(I)Z"⟩, 14) := ⟨⟨by decide +kernel, by decide +kernel⟩, List.mem_of_getElem? (i := 29) (by decide +kernel), List.mem_of_getElem? (i := 302) (by decide +kernel), List.mem_of_getElem? (i := 303) (by decide +kernel)⟩
theorem lw_p5 : lw_okq (⟨"RotorBench$Machine", "barsTaken", "()I"⟩, 14) := ⟨⟨by decide +kernel, by decide +kernel⟩, List.mem_of_getElem? (i := 29) (by decide +kernel), List.mem_of_getElem? (i := 306) (by decide +kernel), List.mem_of_getElem? (i := 307) (by decide +kernel)⟩
theorem lw_p6 : lw_okq (⟨"RotorBench$Machine", "isLugUp", "(I)Z"⟩, 14) := ⟨⟨by decide +kernel, by decide +kernel⟩, List.mem_of_getElem? (i := 29) (by decide +kernel), List.mem_of_getElem? (i := 310) (by decide +kernel), List.mem_of_getElem? (i := 311) (by decide +kernel)⟩
theorem lw_p7 : lw_okq (⟨"java/lang/Throwable", "fillInStackTrace", "(I)Ljava/lang/Throwable;"⟩, 6) := ⟨⟨by decide +kernel, by decide +kernel⟩, List.mem_of_getElem? (i := 362) (by decide +kernel), List.mem_of_getElem? (i := 360) (by decide +kernel), List.mem_of_getElem? (i := 361) (by decide +kernel)⟩
theorem lw_p8 : lw_okq (⟨"RotorBench", "needNoneOpen", "()V"⟩, 4) := ⟨⟨by decide +kernel, by decide +kernel⟩, List.mem_of_getElem? (i := 21) (by decide +kernel), List.mem_of_getElem? (i := 392) (by decide +kernel), List.mem_of_getElem? (i := 393) (by decide +kernel)⟩
theorem lw_p9 : lw_okq (⟨"RotorBench$Wheel", "join", "(II)V"⟩, 4) := ⟨⟨by decide +kernel, by decide +kernel⟩, List.mem_of_getElem? (i := 71) (by decide +kernel), List.mem_of_getElem? (i := 451) (by decide +kernel), List.mem_of_getElem? (i := 452) (by decide +kernel)⟩
theorem lw_p10 : lw_okq (⟨"RotorBench", "rowOf", "(I)[I"⟩, 4) := ⟨⟨by decide +kernel, by decide +kernel⟩, List.mem_of_getElem? (i := 21) (by decide +kernel), List.mem_of_getElem? (i := 577) (by decide +kernel), List.mem_of_getElem? (i := 578) (by decide +kernel)⟩
theorem lw_p11 : lw_okq (⟨"RotorBench$Machine", "doesStep", "(I)Z"⟩, 14) := ⟨⟨by decide +kernel, by decide +kernel⟩, List.mem_of_getElem? (i := 29) (by decide +kernel), List.mem_of_getElem? (i := 597) (by decide +kernel), List.mem_of_getElem? (i := 598) (by decide +kernel)⟩
theorem lw_p12 : lw_okq (⟨"RotorBench$Machine", "areAtNotchBefore", "(I)Z"⟩, 14) := ⟨⟨by decide +kernel, by decide +kernel⟩, List.mem_of_getElem? (i := 29) (by decide +kernel), List.mem_of_getElem? (i := 601) (by decide +kernel), List.mem_of_getElem? (i := 602) (by decide +kernel)⟩
theorem lw_p13 : lw_okq (⟨"RotorBench$Machine", "isAtNotch", "(I)Z"⟩, 14) := ⟨⟨by decide +kernel, by decide +kernel⟩, List.mem_of_getElem? (i := 29) (by decide +kernel), List.mem_of_getElem? (i := 605) (by decide +kernel), List.mem_of_getElem? (i := 606) (by decide +kernel)⟩
theorem lw_p14 : lw_okq (⟨"RotorBench$Machine", "move", "(II)V"⟩, 14) := ⟨⟨by decide +kernel, by decide +kernel⟩, List.mem_of_getElem? (i := 29) (by decide +kernel), List.mem_of_getElem? (i := 609) (by decide +kernel), List.mem_of_getElem? (i := 610) (by decide +kernel)⟩
theorem lw_p15 : lw_okq (⟨"RotorBench", "stepsTillKept", "(I)I"⟩, 4) := ⟨⟨by decide +kernel, by decide +kernel⟩, List.mem_of_getElem? (i := 21) (by decide +kernel), List.mem_of_getElem? (i := 681) (by decide +kernel), List.mem_of_getElem? (i := 682) (by decide +kernel)⟩
def lw_privs_1 : List (MethodName × Nat) := [(⟨"RotorBench$Machine", "takePath", "(I)I"⟩, 14), (⟨"RotorBench$Machine", "intoSlots", "(I)I"⟩, 14), (⟨"RotorBench$Machine", "fromSlots", "(I)I"⟩, 14), (⟨"RotorBench$Machine", "turnBits", "(I)I"⟩, 14), (⟨"RotorBench$Machine", "isUp", "(I)Z"⟩, 14), (⟨"RotorBench$Machine", "barsTaken", "()I"⟩, 14), (⟨"RotorBench$Machine", "isLugUp", "(I)Z"⟩, 14), (⟨"java/lang/Throwable", "fillInStackTrace", "(I)Ljava/lang/Throwable;"⟩, 6), (⟨"RotorBench", "needNoneOpen", "()V"⟩, 4), (⟨"RotorBench$Wheel", "join", "(II)V"⟩, 4), (⟨"RotorBench", "rowOf", "(I)[I"⟩, 4), (⟨"RotorBench$Machine", "doesStep", "(I)Z"⟩, 14), (⟨"RotorBench$Machine", "areAtNotchBefore", "(I)Z"⟩, 14), (⟨"RotorBench$Machine", "isAtNotch", "(I)Z"⟩, 14), (⟨"RotorBench$Machine", "move", "(II)V"⟩, 14), (⟨"RotorBench", "stepsTillKept", "(I)I"⟩, 4)]
theorem lw_r1 : ∀ q ∈ lw_privs_1, lw_okq q := List.forall_mem_cons.mpr ⟨lw_p0, List.forall_mem_cons.mpr ⟨lw_p1, List.forall_mem_cons.mpr ⟨lw_p2, List.forall_mem_cons.mpr ⟨lw_p3, List.forall_mem_cons.mpr ⟨lw_p4, List.forall_mem_cons.mpr ⟨lw_p5, List.forall_mem_cons.mpr ⟨lw_p6, List.forall_mem_cons.mpr ⟨lw_p7, List.forall_mem_cons.mpr ⟨lw_p8, List.forall_mem_cons.mpr ⟨lw_p9, List.forall_mem_cons.mpr ⟨lw_p10, List.forall_mem_cons.mpr ⟨lw_p11, List.forall_mem_cons.mpr ⟨lw_p12, List.forall_mem_cons.mpr ⟨lw_p13, List.forall_mem_cons.mpr ⟨lw_p14, List.forall_mem_cons.mpr ⟨lw_p15, fun _ h => absurd h List.not_mem_nil⟩⟩⟩⟩⟩⟩⟩⟩⟩⟩⟩⟩⟩⟩⟩⟩
theorem lw_p16 : lw_okq (⟨"RotorBench", "firstOther", "(LRotorBench$Message;)I"⟩, 4) := ⟨⟨by decide +kernel, by decide +kernel⟩, List.mem_of_getElem? (i := 21) (by decide +kernel), List.mem_of_getElem? (i := 739) (by decide +kernel), List.mem_of_getElem? (i := 740) (by decide +kernel)⟩
theorem lw_p17 : lw_okq (⟨"RotorBenchModel", "reset", "()V"⟩, 24) := ⟨⟨by decide +kernel, by decide +kernel⟩, List.mem_of_getElem? (i := 755) (by decide +kernel), List.mem_of_getElem? (i := 761) (by decide +kernel), List.mem_of_getElem? (i := 762) (by decide +kernel)⟩
theorem lw_p18 : lw_okq (⟨"RotorBenchModel", "goes", "(ZZZ)Z"⟩, 24) := ⟨⟨by decide +kernel, by decide +kernel⟩, List.mem_of_getElem? (i := 755) (by decide +kernel), List.mem_of_getElem? (i := 846) (by decide +kernel), List.mem_of_getElem? (i := 847) (by decide +kernel)⟩
theorem lw_p19 : lw_okq (⟨"RotorBenchModel", "isContact", "(I)Z"⟩, 24) := ⟨⟨by decide +kernel, by decide +kernel⟩, List.mem_of_getElem? (i := 755) (by decide +kernel), List.mem_of_getElem? (i := 857) (by decide +kernel), List.mem_of_getElem? (i := 858) (by decide +kernel)⟩
theorem lw_p20 : lw_okq (⟨"RotorBenchModel", "paired", "(II)Z"⟩, 24) := ⟨⟨by decide +kernel, by decide +kernel⟩, List.mem_of_getElem? (i := 755) (by decide +kernel), List.mem_of_getElem? (i := 877) (by decide +kernel), List.mem_of_getElem? (i := 878) (by decide +kernel)⟩
theorem lw_p21 : lw_okq (⟨"RotorBenchModel", "isPart", "(II)Z"⟩, 24) := ⟨⟨by decide +kernel, by decide +kernel⟩, List.mem_of_getElem? (i := 755) (by decide +kernel), List.mem_of_getElem? (i := 916) (by decide +kernel), List.mem_of_getElem? (i := 917) (by decide +kernel)⟩
theorem lw_p22 : lw_okq (⟨"RotorBenchModel", "goOn", "()V"⟩, 24) := ⟨⟨by decide +kernel, by decide +kernel⟩, List.mem_of_getElem? (i := 755) (by decide +kernel), List.mem_of_getElem? (i := 924) (by decide +kernel), List.mem_of_getElem? (i := 925) (by decide +kernel)⟩
theorem lw_p23 : lw_okq (⟨"RotorBenchModel", "step", "()V"⟩, 24) := ⟨⟨by decide +kernel, by decide +kernel⟩, List.mem_of_getElem? (i := 755) (by decide +kernel), List.mem_of_getElem? (i := 928) (by decide +kernel), List.mem_of_getElem? (i := 929) (by decide +kernel)⟩
theorem lw_p24 : lw_okq (⟨"RotorBenchModel", "steps", "(I)Z"⟩, 24) := ⟨⟨by decide +kernel, by decide +kernel⟩, List.mem_of_getElem? (i := 755) (by decide +kernel), List.mem_of_getElem? (i := 932) (by decide +kernel), List.mem_of_getElem? (i := 933) (by decide +kernel)⟩
theorem lw_p25 : lw_okq (⟨"RotorBenchModel", "beside", "(IIZ)I"⟩, 24) := ⟨⟨by decide +kernel, by decide +kernel⟩, List.mem_of_getElem? (i := 755) (by decide +kernel), List.mem_of_getElem? (i := 936) (by decide +kernel), List.mem_of_getElem? (i := 937) (by decide +kernel)⟩
theorem lw_p26 : lw_okq (⟨"RotorBenchModel", "allAhead", "(I)Z"⟩, 24) := ⟨⟨by decide +kernel, by decide +kernel⟩, List.mem_of_getElem? (i := 755) (by decide +kernel), List.mem_of_getElem? (i := 940) (by decide +kernel), List.mem_of_getElem? (i := 941) (by decide +kernel)⟩
theorem lw_p27 : lw_okq (⟨"RotorBenchModel", "atNotch", "(I)Z"⟩, 24) := ⟨⟨by decide +kernel, by decide +kernel⟩, List.mem_of_getElem? (i := 755) (by decide +kernel), List.mem_of_getElem? (i := 944) (by decide +kernel), List.mem_of_getElem? (i := 945) (by decide +kernel)⟩
theorem lw_p28 : lw_okq (⟨"RotorBenchModel", "active", "(I)Z"⟩, 24) := ⟨⟨by decide +kernel, by decide +kernel⟩, List.mem_of_getElem? (i := 755) (by decide +kernel), List.mem_of_getElem? (i := 948) (by decide +kernel), List.mem_of_getElem? (i := 949) (by decide +kernel)⟩
theorem lw_p29 : lw_okq (⟨"RotorBenchModel", "imageOf", "(I)I"⟩, 24) := ⟨⟨by decide +kernel, by decide +kernel⟩, List.mem_of_getElem? (i := 755) (by decide +kernel), List.mem_of_getElem? (i := 952) (by decide +kernel), List.mem_of_getElem? (i := 953) (by decide +kernel)⟩
theorem lw_p30 : lw_okq (⟨"RotorBenchModel", "bySlots", "(I)I"⟩, 24) := ⟨⟨by decide +kernel, by decide +kernel⟩, List.mem_of_getElem? (i := 755) (by decide +kernel), List.mem_of_getElem? (i := 956) (by decide +kernel), List.mem_of_getElem? (i := 957) (by decide +kernel)⟩
theorem lw_p31 : lw_okq (⟨"RotorBenchModel", "through", "(II)I"⟩, 24) := ⟨⟨by decide +kernel, by decide +kernel⟩, List.mem_of_getElem? (i := 755) (by decide +kernel), List.mem_of_getElem? (i := 960) (by decide +kernel), List.mem_of_getElem? (i := 961) (by decide +kernel)⟩
def lw_privs_2 : List (MethodName × Nat) := [(⟨"RotorBench", "firstOther", "(LRotorBench$Message;)I"⟩, 4), (⟨"RotorBenchModel", "reset", "()V"⟩, 24), (⟨"RotorBenchModel", "goes", "(ZZZ)Z"⟩, 24), (⟨"RotorBenchModel", "isContact", "(I)Z"⟩, 24), (⟨"RotorBenchModel", "paired", "(II)Z"⟩, 24), (⟨"RotorBenchModel", "isPart", "(II)Z"⟩, 24), (⟨"RotorBenchModel", "goOn", "()V"⟩, 24), (⟨"RotorBenchModel", "step", "()V"⟩, 24), (⟨"RotorBenchModel", "steps", "(I)Z"⟩, 24), (⟨"RotorBenchModel", "beside", "(IIZ)I"⟩, 24), (⟨"RotorBenchModel", "allAhead", "(I)Z"⟩, 24), (⟨"RotorBenchModel", "atNotch", "(I)Z"⟩, 24), (⟨"RotorBenchModel", "active", "(I)Z"⟩, 24), (⟨"RotorBenchModel", "imageOf", "(I)I"⟩, 24), (⟨"RotorBenchModel", "bySlots", "(I)I"⟩, 24), (⟨"RotorBenchModel", "through", "(II)I"⟩, 24)]
theorem lw_r2 : ∀ q ∈ lw_privs_2, lw_okq q := List.forall_mem_cons.mpr ⟨lw_p16, List.forall_mem_cons.mpr ⟨lw_p17, List.forall_mem_cons.mpr ⟨lw_p18, List.forall_mem_cons.mpr ⟨lw_p19, List.forall_mem_cons.mpr ⟨lw_p20, List.forall_mem_cons.mpr ⟨lw_p21, List.forall_mem_cons.mpr ⟨lw_p22, List.forall_mem_cons.mpr ⟨lw_p23, List.forall_mem_cons.mpr ⟨lw_p24, List.forall_mem_cons.mpr ⟨lw_p25, List.forall_mem_cons.mpr ⟨lw_p26, List.forall_mem_cons.mpr ⟨lw_p27, List.forall_mem_cons.mpr ⟨lw_p28, List.forall_mem_cons.mpr ⟨lw_p29, List.forall_mem_cons.mpr ⟨lw_p30, List.forall_mem_cons.mpr ⟨lw_p31, fun _ h => absurd h List.not_mem_nil⟩⟩⟩⟩⟩⟩⟩⟩⟩⟩⟩⟩⟩⟩⟩⟩
theorem lw_p32 : lw_okq (⟨"RotorBenchModel", "backThrough", "(II)I"⟩, 24) := ⟨⟨by decide +kernel, by decide +kernel⟩, List.mem_of_getElem? (i := 755) (by decide +kernel), List.mem_of_getElem? (i := 964) (by decide +kernel), List.mem_of_getElem? (i := 965) (by decide +kernel)⟩
theorem lw_p33 : lw_okq (⟨"RotorBenchModel", "byBits", "(I)I"⟩, 24) := ⟨⟨by decide +kernel, by decide +kernel⟩, List.mem_of_getElem? (i := 755) (by decide +kernel), List.mem_of_getElem? (i := 968) (by decide +kernel), List.mem_of_getElem? (i := 969) (by decide +kernel)⟩
theorem lw_p34 : lw_okq (⟨"RotorBenchModel", "byBars", "(I)I"⟩, 24) := ⟨⟨by decide +kernel, by decide +kernel⟩, List.mem_of_getElem? (i := 755) (by decide +kernel), List.mem_of_getElem? (i := 972) (by decide +kernel), List.mem_of_getElem? (i := 973) (by decide +kernel)⟩
theorem lw_p35 : lw_okq (⟨"RotorBenchModel", "putAside", "()V"⟩, 24) := ⟨⟨by decide +kernel, by decide +kernel⟩, List.mem_of_getElem? (i := 755) (by decide +kernel), List.mem_of_getElem? (i := 996) (by decide +kernel), List.mem_of_getElem? (i := 997) (by decide +kernel)⟩
theorem lw_p36 : lw_okq (⟨"RotorBenchModel", "isAside", "()Z"⟩, 24) := ⟨⟨by decide +kernel, by decide +kernel⟩, List.mem_of_getElem? (i := 755) (by decide +kernel), List.mem_of_getElem? (i := 1000) (by decide +kernel), List.mem_of_getElem? (i := 1001) (by decide +kernel)⟩
theorem lw_p37 : lw_okq (⟨"RotorBenchModel", "takeBack", "()V"⟩, 24) := ⟨⟨by decide +kernel, by decide +kernel⟩, List.mem_of_getElem? (i := 755) (by decide +kernel), List.mem_of_getElem? (i := 1004) (by decide +kernel), List.mem_of_getElem? (i := 1005) (by decide +kernel)⟩
theorem lw_p38 : lw_okq (⟨"RotorBenchModel", "isMessage", "(I)Z"⟩, 24) := ⟨⟨by decide +kernel, by decide +kernel⟩, List.mem_of_getElem? (i := 755) (by decide +kernel), List.mem_of_getElem? (i := 1024) (by decide +kernel), List.mem_of_getElem? (i := 1025) (by decide +kernel)⟩
theorem lw_p39 : lw_okq (⟨"RotorBenchModel", "halves", "(I)I"⟩, 24) := ⟨⟨by decide +kernel, by decide +kernel⟩, List.mem_of_getElem? (i := 755) (by decide +kernel), List.mem_of_getElem? (i := 1036) (by decide +kernel), List.mem_of_getElem? (i := 1037) (by decide +kernel)⟩
def lw_privs_3 : List (MethodName × Nat) := [(⟨"RotorBenchModel", "backThrough", "(II)I"⟩, 24), (⟨"RotorBenchModel", "byBits", "(I)I"⟩, 24), (⟨"RotorBenchModel", "byBars", "(I)I"⟩, 24), (⟨"RotorBenchModel", "putAside", "()V"⟩, 24), (⟨"RotorBenchModel", "isAside", "()Z"⟩, 24), (⟨"RotorBenchModel", "takeBack", "()V"⟩, 24), (⟨"RotorBenchModel", "isMessage", "(I)Z"⟩, 24), (⟨"RotorBenchModel", "halves", "(I)I"⟩, 24)]
theorem lw_r3 : ∀ q ∈ lw_privs_3, lw_okq q := List.forall_mem_cons.mpr ⟨lw_p32, List.forall_mem_cons.mpr ⟨lw_p33, List.forall_mem_cons.mpr ⟨lw_p34, List.forall_mem_cons.mpr ⟨lw_p35, List.forall_mem_cons.mpr ⟨lw_p36, List.forall_mem_cons.mpr ⟨lw_p37, List.forall_mem_cons.mpr ⟨lw_p38, List.forall_mem_cons.mpr ⟨lw_p39, fun _ h => absurd h List.not_mem_nil⟩⟩⟩⟩⟩⟩⟩⟩
def lw_privs : List (MethodName × Nat) := lw_privs_1 ++ (lw_privs_2 ++ (lw_privs_3))
def lw_tbl : List Cond := k2_sels lw_privs ++ tables_1
theorem lw_privs_ok : ∀ q ∈ lw_privs, lw_okq q := by
  show ∀ q ∈ lw_privs_1 ++ (lw_privs_2 ++ (lw_privs_3)), lw_okq q
  exact List.forall_mem_append.mpr ⟨lw_r1, List.forall_mem_append.mpr ⟨lw_r2, lw_r3⟩⟩
end
section
/-! tables of the small machine, by program out of the Statement (gen_tables.py) -/
def kF0 : u_T := fun k => match k with
  | 0 => ("RotorBench", "machine", "LRotorBench$Machine;", true)
  | 1 => ("RotorBench", "steps", "LRotorBench$Steps;", true)
  | 2 => ("RotorBench", "log", "LRotorBench$Log;", true)
  | _ => ("RotorBench", "kept", "LRotorBench$Stand;", true)
def kY0 : Nat → FieldType := fun k => match k with
  | 0 => .object "RotorBench$Machine"
  | 1 => .object "RotorBench$Steps"
  | 2 => .object "RotorBench$Log"
  | _ => .object "RotorBench$Stand"
def kF1 : u_T := fun k => match k with
  | 0 => ("RotorBench$Log", "messages", "[LRotorBench$Message;", true)
  | 1 => ("RotorBench$Log", "size", "I", false)
  | _ => ("RotorBench$Log", "running", "Z", false)
def kY1 : Nat → FieldType := fun k => match k with
  | 0 => .array (.object "RotorBench$Message")
  | 1 => .int
  | _ => .boolean
def kF2 : u_T := fun k => match k with
  | 0 => ("RotorBench$Machine", "wheels", "[LRotorBench$Wheel;", true)
  | 1 => ("RotorBench$Machine", "slots", "[I", true)
  | 2 => ("RotorBench$Machine", "order", "[I", true)
  | 3 => ("RotorBench$Machine", "pinWheels", "[LRotorBench$PinWheel;", true)
  | 4 => ("RotorBench$Machine", "oneLugs", "[I", true)
  | 5 => ("RotorBench$Machine", "otherLugs", "[I", true)
  | 6 => ("RotorBench$Machine", "plugboard", "LRotorBench$Pairs;", true)
  | 7 => ("RotorBench$Machine", "reflector", "LRotorBench$Pairs;", true)
  | 8 => ("RotorBench$Machine", "stand", "LRotorBench$Stand;", true)
  | 9 => ("RotorBench$Machine", "contacts", "I", false)
  | 10 => ("RotorBench$Machine", "filled", "I", false)
  | 11 => ("RotorBench$Machine", "stepRule", "I", false)
  | 12 => ("RotorBench$Machine", "signPath", "I", false)
  | _ => ("RotorBench$Machine", "reflecting", "Z", false)
def kY2 : Nat → FieldType := fun k => match k with
  | 0 => .array (.object "RotorBench$Wheel")
  | 1 => .array .int
  | 2 => .array .int
  | 3 => .array (.object "RotorBench$PinWheel")
  | 4 => .array .int
  | 5 => .array .int
  | 6 => .object "RotorBench$Pairs"
  | 7 => .object "RotorBench$Pairs"
  | 8 => .object "RotorBench$Stand"
  | 9 => .int
  | 10 => .int
  | 11 => .int
  | 12 => .int
  | _ => .boolean
def kF3 : u_T := fun k => match k with
  | 0 => ("RotorBench$Message", "start", "LRotorBench$Stand;", true)
  | 1 => ("RotorBench$Message", "keyed", "[I", true)
  | 2 => ("RotorBench$Message", "came", "[I", true)
  | _ => ("RotorBench$Message", "size", "I", false)
def kY3 : Nat → FieldType := fun k => match k with
  | 0 => .object "RotorBench$Stand"
  | 1 => .array .int
  | 2 => .array .int
  | _ => .int
def kF4 : u_T := fun k => match k with
  | 0 => ("RotorBench$Pairs", "partners", "[I", true)
  | _ => ("RotorBench$Pairs", "size", "I", false)
def kY4 : Nat → FieldType := fun k => match k with
  | 0 => .array .int
  | _ => .int
def kF5 : u_T := fun k => match k with
  | 0 => ("RotorBench$PinWheel", "ups", "[Z", true)
  | _ => ("RotorBench$PinWheel", "length", "I", false)
def kY5 : Nat → FieldType := fun k => match k with
  | 0 => .array .boolean
  | _ => .int
def kF6 : u_T := fun k => match k with
  | 0 => ("RotorBench$Stand", "positions", "[I", true)
  | _ => ("RotorBench$Stand", "places", "[I", true)
def kY6 : Nat → FieldType := fun k => match k with
  | 0 => .array .int
  | _ => .array .int
def kF7 : u_T := fun k => match k with
  | 0 => ("RotorBench$Steps", "moved", "[I", true)
  | 1 => ("RotorBench$Steps", "next", "I", false)
  | _ => ("RotorBench$Steps", "size", "I", false)
def kY7 : Nat → FieldType := fun k => match k with
  | 0 => .array .int
  | 1 => .int
  | _ => .int
def kF8 : u_T := fun k => match k with
  | 0 => ("RotorBench$Wheel", "leadsTo", "[I", true)
  | 1 => ("RotorBench$Wheel", "comesFrom", "[I", true)
  | 2 => ("RotorBench$Wheel", "notches", "[Z", true)
  | _ => ("RotorBench$Wheel", "ring", "I", false)
def kY8 : Nat → FieldType := fun k => match k with
  | 0 => .array .int
  | 1 => .array .int
  | 2 => .array .boolean
  | _ => .int
def kF9 : u_T := fun k => match k with
  | 0 => ("RotorBenchModel", "thrown", "I", false)
  | 1 => ("RotorBenchModel", "m", "I", false)
  | 2 => ("RotorBenchModel", "wirings", "[I", true)
  | 3 => ("RotorBenchModel", "rings", "[I", true)
  | 4 => ("RotorBenchModel", "notches", "[Z", true)
  | 5 => ("RotorBenchModel", "wheels", "[I", true)
  | 6 => ("RotorBenchModel", "pairs", "[I", true)
  | 7 => ("RotorBenchModel", "reflecting", "Z", false)
  | 8 => ("RotorBenchModel", "lengths", "[I", true)
  | 9 => ("RotorBenchModel", "ups", "[Z", true)
  | 10 => ("RotorBenchModel", "lugs", "[I", true)
  | 11 => ("RotorBenchModel", "stepping", "I", false)
  | 12 => ("RotorBenchModel", "way", "I", false)
  | 13 => ("RotorBenchModel", "state", "[I", true)
  | 14 => ("RotorBenchModel", "aside", "[I", true)
  | 15 => ("RotorBenchModel", "moves", "[Z", true)
  | 16 => ("RotorBenchModel", "undos", "I", false)
  | 17 => ("RotorBenchModel", "old", "[I", true)
  | 18 => ("RotorBenchModel", "messages", "I", false)
  | 19 => ("RotorBenchModel", "isOpen", "Z", false)
  | 20 => ("RotorBenchModel", "signs", "[I", true)
  | 21 => ("RotorBenchModel", "begun", "[I", true)
  | 22 => ("RotorBenchModel", "keyed", "[I", true)
  | _ => ("RotorBenchModel", "came", "[I", true)
def kY9 : Nat → FieldType := fun k => match k with
  | 0 => .int
  | 1 => .int
  | 2 => .array .int
  | 3 => .array .int
  | 4 => .array .boolean
  | 5 => .array .int
  | 6 => .array .int
  | 7 => .boolean
  | 8 => .array .int
  | 9 => .array .boolean
  | 10 => .array .int
  | 11 => .int
  | 12 => .int
  | 13 => .array .int
  | 14 => .array .int
  | 15 => .array .boolean
  | 16 => .int
  | 17 => .array .int
  | 18 => .int
  | 19 => .boolean
  | 20 => .array .int
  | 21 => .array .int
  | 22 => .array .int
  | _ => .array .int
def kFE : u_T := fun _ => ("", "", "", false)
def kCl : List vw_C := [("RotorBench", kF0, 4), ("RotorBench$Log", kF1, 3), ("RotorBench$Machine", kF2, 14), ("RotorBench$Message", kF3, 4), ("RotorBench$Pairs", kF4, 2), ("RotorBench$PinWheel", kF5, 2), ("RotorBench$Stand", kF6, 2), ("RotorBench$Steps", kF7, 3), ("RotorBench$Wheel", kF8, 4), ("RotorBenchModel", kF9, 24), ("java/lang/IllegalArgumentException", kFE, 0), ("java/lang/IllegalStateException", kFE, 0), ("java/util/NoSuchElementException", kFE, 0)]
def kYs : List (Nat → FieldType) := [kY0, kY1, kY2, kY3, kY4, kY5, kY6, kY7, kY8, kY9]
def kKl : List (List Nat) := [[2, 2, 2, 2], [2, 0, 1], [2, 2, 2, 2, 2, 2, 2, 2, 2, 0, 0, 0, 0, 1], [2, 2, 2, 0], [2, 0], [2, 0], [2, 2], [2, 0, 0], [2, 2, 2, 0], [0, 0, 2, 2, 2, 2, 2, 1, 2, 2, 2, 0, 0, 2, 2, 2, 0, 2, 0, 1, 2, 2, 2, 2], [], [], []]
def kWl : List (List Nat) := [[301, 303, 305, 307], [264, 266, 268], [177, 179, 181, 183, 185, 187, 189, 191, 193, 195, 197, 199, 201, 203], [249, 251, 253, 255], [88, 90], [146, 148], [106, 108], [216, 218, 220], [125, 127, 129, 131], [828, 830, 832, 834, 836, 838, 840, 842, 844, 846, 848, 850, 852, 854, 856, 858, 860, 862, 864, 866, 868, 870, 872, 874]]
def kPl : List (Nat × Nat) := [(61, 41), (224, 48), (69, 42), (231, 49), (79, 43), (135, 46), (95, 44), (207, 47), (111, 45), (795, 51)]
def arN : List String := ["RotorBench$Message", "RotorBench$PinWheel", "RotorBench$Wheel"]
def exL : List String := ["java/lang/IllegalArgumentException", "java/lang/IllegalStateException", "java/util/NoSuchElementException"]
def elc (y : Nat) : Nat := match y with
  | 103 => 3
  | 104 => 5
  | 105 => 8
  | _ => 999
def mYl : List MethodName := [⟨"RotorBenchLaw", "law", "([I)Z"⟩, ⟨"RotorBench", "<init>", "()V"⟩, ⟨"RotorBench$Machine", "<init>", "()V"⟩, ⟨"RotorBench$Pairs", "<init>", "()V"⟩, ⟨"RotorBench$Stand", "<init>", "()V"⟩, ⟨"RotorBench$Wheel", "<init>", "()V"⟩, ⟨"RotorBench$PinWheel", "<init>", "()V"⟩, ⟨"RotorBench$Steps", "<init>", "()V"⟩, ⟨"RotorBench$Log", "<init>", "()V"⟩, ⟨"RotorBench$Message", "<init>", "()V"⟩, ⟨"RotorBench$Machine", "clear", "(I)V"⟩, ⟨"RotorBench$Wheel", "clear", "()V"⟩, ⟨"RotorBench$PinWheel", "cut", "(I)V"⟩, ⟨"java/util/Arrays", "fill", "([II)V"⟩, ⟨"RotorBench$Pairs", "clear", "()V"⟩, ⟨"RotorBench$Stand", "clear", "()V"⟩, ⟨"RotorBench", "fixed", "()I"⟩, ⟨"RotorBench$Machine", "send", "(I)I"⟩, ⟨"RotorBench$Machine", "takePath", "(I)I"⟩, ⟨"RotorBench$Machine", "intoSlots", "(I)I"⟩, ⟨"RotorBench$Wheel", "pass", "([IIII)I"⟩, ⟨"RotorBench", "round", "(II)I"⟩, ⟨"RotorBench$Machine", "fromSlots", "(I)I"⟩, ⟨"RotorBench$Machine", "turnBits", "(I)I"⟩, ⟨"RotorBench$Machine", "isUp", "(I)Z"⟩, ⟨"RotorBench$Machine", "barsTaken", "()I"⟩, ⟨"RotorBench$Machine", "isLugUp", "(I)Z"⟩, ⟨"RotorBenchLaw", "contacts", "(LRotorBench;I[J)I"⟩, ⟨"RotorBench", "contacts", "(I)I"⟩, ⟨"RotorBench", "needNoneOpen", "()V"⟩, ⟨"RotorBench$Steps", "clear", "()V"⟩, ⟨"RotorBench$Log", "clear", "()V"⟩, ⟨"RotorBenchLaw", "wire", "(LRotorBench;III[J)I"⟩, ⟨"RotorBench", "wire", "(III)I"⟩, ⟨"RotorBench", "needOneOf", "(II)V"⟩, ⟨"RotorBench$Wheel", "lead", "(II)I"⟩, ⟨"RotorBench$Wheel", "join", "(II)V"⟩, ⟨"RotorBenchLaw", "ring", "(LRotorBench;II[J)I"⟩, ⟨"RotorBench", "ring", "(II)I"⟩, ⟨"RotorBenchLaw", "notch", "(LRotorBench;IIZ[J)I"⟩, ⟨"RotorBench", "notch", "(IIZ)Z"⟩, ⟨"RotorBench", "turn", "([ZIZ)Z"⟩, ⟨"RotorBenchLaw", "fill", "(LRotorBench;II[J)I"⟩, ⟨"RotorBench", "fill", "(II)I"⟩, ⟨"RotorBench", "needOneOfOrNone", "(II)V"⟩, ⟨"RotorBench$Machine", "isInAnother", "(II)Z"⟩, ⟨"RotorBench$Machine", "put", "(II)I"⟩, ⟨"RotorBenchLaw", "plug", "(LRotorBench;III)I"⟩, ⟨"RotorBench", "plug", "(III)V"⟩, ⟨"RotorBench$Machine", "pairsOf", "(I)LRotorBench$Pairs;"⟩, ⟨"RotorBench$Pairs", "holds", "(I)Z"⟩, ⟨"RotorBench$Pairs", "join", "(II)V"⟩, ⟨"RotorBenchLaw", "unplug", "(LRotorBench;II[J)I"⟩, ⟨"RotorBench", "unplug", "(II)I"⟩, ⟨"RotorBench$Pairs", "split", "(I)I"⟩, ⟨"RotorBenchLaw", "reflects", "(LRotorBench;Z[J)I"⟩, ⟨"RotorBench", "reflects", "(Z)Z"⟩, ⟨"RotorBenchLaw", "pins", "(LRotorBench;II[J)I"⟩, ⟨"RotorBench", "pins", "(II)I"⟩, ⟨"RotorBenchLaw", "pin", "(LRotorBench;IIZ[J)I"⟩, ⟨"RotorBench", "pin", "(IIZ)Z"⟩, ⟨"RotorBenchLaw", "lugs", "(LRotorBench;III)I"⟩, ⟨"RotorBench", "lugs", "(III)V"⟩, ⟨"RotorBenchLaw", "rule", "(LRotorBench;I[J)I"⟩, ⟨"RotorBench", "rule", "(I)I"⟩, ⟨"RotorBenchLaw", "path", "(LRotorBench;I[J)I"⟩, ⟨"RotorBench", "path", "(I)I"⟩, ⟨"RotorBenchLaw", "set", "(LRotorBench;III[J)I"⟩, ⟨"RotorBench", "set", "(III)I"⟩, ⟨"RotorBench", "needMover", "(II)V"⟩, ⟨"RotorBench", "rowOf", "(I)[I"⟩, ⟨"RotorBenchLaw", "key", "(LRotorBench;I[J)I"⟩, ⟨"RotorBench", "key", "(I)I"⟩, ⟨"RotorBench$Log", "isFull", "()Z"⟩, ⟨"RotorBench$Machine", "step", "()I"⟩, ⟨"RotorBench$Machine", "doesStep", "(I)Z"⟩, ⟨"RotorBench$Machine", "areAtNotchBefore", "(I)Z"⟩, ⟨"RotorBench$Machine", "isAtNotch", "(I)Z"⟩, ⟨"RotorBench$Machine", "move", "(II)V"⟩, ⟨"RotorBench$Steps", "add", "(I)V"⟩, ⟨"RotorBench$Log", "add", "(II)V"⟩, ⟨"RotorBenchLaw", "back", "(LRotorBench;I[J)I"⟩, ⟨"RotorBench", "back", "(I)I"⟩, ⟨"RotorBench$Machine", "sendBack", "(I)I"⟩, ⟨"RotorBenchLaw", "image", "(LRotorBench;I[J)I"⟩, ⟨"RotorBench", "image", "(I)I"⟩, ⟨"RotorBenchLaw", "at", "(LRotorBench;II[J)I"⟩, ⟨"RotorBench", "at", "(II)I"⟩, ⟨"RotorBenchLaw", "undo", "(LRotorBench;[J)I"⟩, ⟨"RotorBench", "undo", "()I"⟩, ⟨"RotorBench$Steps", "takeLatest", "()I"⟩, ⟨"RotorBench$Machine", "stepBack", "(I)V"⟩, ⟨"RotorBenchLaw", "period", "(LRotorBench;I[J)I"⟩, ⟨"RotorBench", "period", "(I)I"⟩, ⟨"RotorBench$Stand", "copy", "(LRotorBench$Stand;)V"⟩, ⟨"RotorBench", "stepsTillKept", "(I)I"⟩, ⟨"RotorBench$Stand", "isLike", "(LRotorBench$Stand;)Z"⟩, ⟨"RotorBenchLaw", "open", "(LRotorBench;[J)I"⟩, ⟨"RotorBench", "open", "()I"⟩, ⟨"RotorBench$Log", "begin", "(LRotorBench$Stand;)I"⟩, ⟨"RotorBenchLaw", "close", "(LRotorBench;[J)I"⟩, ⟨"RotorBench", "close", "()I"⟩, ⟨"RotorBench$Log", "end", "()I"⟩, ⟨"RotorBenchLaw", "logged", "(LRotorBench;III[J)I"⟩, ⟨"RotorBench", "logged", "(III)I"⟩, ⟨"RotorBenchLaw", "replay", "(LRotorBench;I[J)I"⟩, ⟨"RotorBench", "replay", "(I)I"⟩, ⟨"RotorBench$Log", "isRunning", "(I)Z"⟩, ⟨"RotorBench$Machine", "standAs", "(LRotorBench$Stand;)V"⟩, ⟨"RotorBench", "firstOther", "(LRotorBench$Message;)I"⟩, ⟨"RotorBenchLaw", "count", "(LRotorBench;I[J)I"⟩, ⟨"RotorBench", "count", "(I)I"⟩, ⟨"RotorBench$Machine", "pinWheelsThere", "()I"⟩, ⟨"RotorBenchModel", "<init>", "()V"⟩, ⟨"RotorBenchModel", "reset", "()V"⟩, ⟨"RotorBenchModel", "thrown", "()I"⟩, ⟨"RotorBenchModel", "contacts", "(I)I"⟩, ⟨"RotorBenchModel", "goes", "(ZZZ)Z"⟩, ⟨"RotorBenchModel", "wire", "(III)I"⟩, ⟨"RotorBenchModel", "within", "(III)Z"⟩, ⟨"RotorBenchModel", "isContact", "(I)Z"⟩, ⟨"RotorBenchModel", "ring", "(II)I"⟩, ⟨"RotorBenchModel", "notch", "(IIZ)Z"⟩, ⟨"RotorBenchModel", "fill", "(II)I"⟩, ⟨"RotorBenchModel", "plug", "(III)V"⟩, ⟨"RotorBenchModel", "paired", "(II)Z"⟩, ⟨"RotorBenchModel", "unplug", "(II)I"⟩, ⟨"RotorBenchModel", "reflects", "(Z)Z"⟩, ⟨"RotorBenchModel", "pins", "(II)I"⟩, ⟨"RotorBenchModel", "isPinWheel", "(I)Z"⟩, ⟨"RotorBenchModel", "pin", "(IIZ)Z"⟩, ⟨"RotorBenchModel", "lugs", "(III)V"⟩, ⟨"RotorBenchModel", "rule", "(I)I"⟩, ⟨"RotorBenchModel", "path", "(I)I"⟩, ⟨"RotorBenchModel", "set", "(III)I"⟩, ⟨"RotorBenchModel", "isPart", "(II)Z"⟩, ⟨"RotorBenchModel", "key", "(I)I"⟩, ⟨"RotorBenchModel", "goOn", "()V"⟩, ⟨"RotorBenchModel", "step", "()V"⟩, ⟨"RotorBenchModel", "steps", "(I)Z"⟩, ⟨"RotorBenchModel", "beside", "(IIZ)I"⟩, ⟨"RotorBenchModel", "allAhead", "(I)Z"⟩, ⟨"RotorBenchModel", "atNotch", "(I)Z"⟩, ⟨"RotorBenchModel", "active", "(I)Z"⟩, ⟨"RotorBenchModel", "imageOf", "(I)I"⟩, ⟨"RotorBenchModel", "bySlots", "(I)I"⟩, ⟨"RotorBenchModel", "through", "(II)I"⟩, ⟨"RotorBenchModel", "backThrough", "(II)I"⟩, ⟨"RotorBenchModel", "byBits", "(I)I"⟩, ⟨"RotorBenchModel", "byBars", "(I)I"⟩, ⟨"RotorBenchModel", "back", "(I)I"⟩, ⟨"RotorBenchModel", "image", "(I)I"⟩, ⟨"RotorBenchModel", "at", "(II)I"⟩, ⟨"RotorBenchModel", "undo", "()I"⟩, ⟨"RotorBenchModel", "period", "(I)I"⟩, ⟨"RotorBenchModel", "putAside", "()V"⟩, ⟨"RotorBenchModel", "isAside", "()Z"⟩, ⟨"RotorBenchModel", "takeBack", "()V"⟩, ⟨"RotorBenchModel", "fixed", "()I"⟩, ⟨"RotorBenchModel", "open", "()I"⟩, ⟨"RotorBenchModel", "close", "()I"⟩, ⟨"RotorBenchModel", "logged", "(III)I"⟩, ⟨"RotorBenchModel", "isMessage", "(I)Z"⟩, ⟨"RotorBenchModel", "replay", "(I)I"⟩, ⟨"RotorBenchModel", "count", "(I)I"⟩, ⟨"RotorBenchModel", "halves", "(I)I"⟩]
def mBl : List ByteArray := [code, prog_1_method_1_code, prog_3_method_1_code, prog_5_method_1_code, prog_7_method_1_code, prog_9_method_1_code, prog_6_method_1_code, prog_8_method_1_code, prog_2_method_1_code, prog_4_method_1_code, prog_3_method_2_code, prog_9_method_2_code, prog_6_method_2_code, prog_20_method_103_code, prog_5_method_2_code, prog_7_method_2_code, prog_1_method_22_code, prog_3_method_15_code, prog_3_method_17_code, prog_3_method_18_code, prog_9_method_5_code, prog_1_method_36_code, prog_3_method_19_code, prog_3_method_20_code, prog_3_method_13_code, prog_3_method_21_code, prog_3_method_22_code, method_3_code, prog_1_method_2_code, prog_1_method_31_code, prog_8_method_2_code, prog_2_method_2_code, method_4_code, prog_1_method_3_code, prog_1_method_28_code, prog_9_method_3_code, prog_9_method_4_code, method_5_code, prog_1_method_4_code, method_6_code, prog_1_method_5_code, prog_1_method_33_code, method_7_code, prog_1_method_6_code, prog_1_method_29_code, prog_3_method_4_code, prog_3_method_5_code, method_8_code, prog_1_method_7_code, prog_3_method_3_code, prog_5_method_3_code, prog_5_method_4_code, method_9_code, prog_1_method_8_code, prog_5_method_5_code, method_10_code, prog_1_method_9_code, method_11_code, prog_1_method_10_code, method_12_code, prog_1_method_11_code, method_13_code, prog_1_method_12_code, method_14_code, prog_1_method_13_code, method_15_code, prog_1_method_14_code, method_16_code, prog_1_method_15_code, prog_1_method_30_code, prog_1_method_32_code, method_17_code, prog_1_method_16_code, prog_2_method_4_code, prog_3_method_7_code, prog_3_method_10_code, prog_3_method_11_code, prog_3_method_12_code, prog_3_method_9_code, prog_8_method_3_code, prog_2_method_6_code, method_18_code, prog_1_method_17_code, prog_3_method_16_code, method_19_code, prog_1_method_18_code, method_20_code, prog_1_method_19_code, method_21_code, prog_1_method_20_code, prog_8_method_4_code, prog_3_method_8_code, method_22_code, prog_1_method_21_code, prog_7_method_3_code, prog_1_method_34_code, prog_7_method_4_code, method_23_code, prog_1_method_23_code, prog_2_method_5_code, method_24_code, prog_1_method_24_code, prog_2_method_7_code, method_25_code, prog_1_method_25_code, method_26_code, prog_1_method_26_code, prog_2_method_3_code, prog_3_method_14_code, prog_1_method_35_code, method_27_code, prog_1_method_27_code, prog_3_method_6_code, prog_11_method_1_code, prog_11_method_2_code, prog_11_method_3_code, prog_11_method_7_code, prog_11_method_4_code, prog_11_method_8_code, prog_11_method_5_code, prog_11_method_6_code, prog_11_method_9_code, prog_11_method_10_code, prog_11_method_11_code, prog_11_method_13_code, prog_11_method_12_code, prog_11_method_14_code, prog_11_method_15_code, prog_11_method_17_code, prog_11_method_16_code, prog_11_method_18_code, prog_11_method_19_code, prog_11_method_20_code, prog_11_method_21_code, prog_11_method_23_code, prog_11_method_22_code, prog_11_method_37_code, prog_11_method_30_code, prog_11_method_29_code, prog_11_method_28_code, prog_11_method_26_code, prog_11_method_27_code, prog_11_method_24_code, prog_11_method_25_code, prog_11_method_36_code, prog_11_method_33_code, prog_11_method_31_code, prog_11_method_32_code, prog_11_method_34_code, prog_11_method_35_code, prog_11_method_38_code, prog_11_method_39_code, prog_11_method_40_code, prog_11_method_41_code, prog_11_method_45_code, prog_11_method_42_code, prog_11_method_43_code, prog_11_method_44_code, prog_11_method_46_code, prog_11_method_47_code, prog_11_method_48_code, prog_11_method_50_code, prog_11_method_49_code, prog_11_method_51_code, prog_11_method_53_code, prog_11_method_52_code]
def mLl : List Nat := [7, 1, 2, 1, 1, 1, 1, 1, 2, 1, 3, 2, 3, 4, 2, 1, 3, 2, 2, 5, 6, 2, 5, 4, 4, 3, 2, 4, 3, 1, 1, 1, 6, 4, 2, 5, 3, 5, 4, 6, 4, 4, 5, 3, 2, 4, 5, 5, 5, 2, 2, 3, 5, 4, 3, 4, 3, 5, 4, 6, 4, 5, 4, 4, 3, 4, 3, 6, 6, 2, 2, 4, 3, 1, 3, 3, 3, 3, 4, 2, 4, 4, 2, 4, 4, 2, 5, 3, 3, 1, 1, 2, 4, 3, 2, 3, 3, 3, 1, 2, 3, 1, 1, 6, 4, 4, 3, 2, 4, 3, 4, 2, 3, 1, 2, 1, 3, 4, 5, 3, 2, 4, 5, 5, 5, 3, 4, 3, 5, 1, 5, 4, 3, 3, 7, 3, 4, 2, 2, 5, 6, 4, 2, 2, 3, 4, 4, 4, 4, 6, 3, 2, 3, 2, 4, 2, 3, 2, 3, 2, 1, 4, 2, 4, 5, 4]
def mRl : List (Option FieldType) := [some .boolean, none, none, none, none, none, none, none, none, none, none, none, none, none, none, none, some .int, some .int, some .int, some .int, some .int, some .int, some .int, some .int, some .boolean, some .int, some .boolean, some .int, some .int, none, none, none, some .int, some .int, none, some .int, none, some .int, some .int, some .int, some .boolean, some .boolean, some .int, some .int, none, some .boolean, some .int, some .int, none, some (.object "RotorBench$Pairs"), some .boolean, none, some .int, some .int, some .int, some .int, some .boolean, some .int, some .int, some .int, some .boolean, some .int, none, some .int, some .int, some .int, some .int, some .int, some .int, none, some (.array .int), some .int, some .int, some .boolean, some .int, some .boolean, some .boolean, some .boolean, none, none, none, some .int, some .int, some .int, some .int, some .int, some .int, some .int, some .int, some .int, some .int, none, some .int, some .int, none, some .int, some .boolean, some .int, some .int, some .int, some .int, some .int, some .int, some .int, some .int, some .int, some .int, some .boolean, none, some .int, some .int, some .int, some .int, none, none, some .int, some .int, some .boolean, some .int, some .boolean, some .boolean, some .int, some .boolean, some .int, none, some .boolean, some .int, some .boolean, some .int, some .boolean, some .boolean, none, some .int, some .int, some .int, some .boolean, some .int, none, none, some .boolean, some .int, some .boolean, some .boolean, some .boolean, some .int, some .int, some .int, some .int, some .int, some .int, some .int, some .int, some .int, some .int, some .int, none, some .boolean, none, some .int, some .int, some .int, some .int, some .boolean, some .int, some .int, some .int]
def mR (i : Nat) : Option FieldType := mRl.getD i none
def mZ (i : Nat) : Nat := match mR i with
  | none => 0
  | some .int => 1
  | some .boolean => 2
  | some (.object _) => 3
  | some (.array _) => 3
  | _ => 9
def mKl : List Nat := [99, 0, 2, 4, 6, 8, 5, 7, 1, 3, 2, 8, 5, 99, 4, 6, 0, 2, 2, 2, 8, 0, 2, 2, 2, 2, 2, 99, 0, 0, 7, 1, 99, 0, 0, 8, 8, 99, 0, 99, 0, 0, 99, 0, 0, 2, 2, 99, 0, 2, 4, 4, 99, 0, 4, 99, 0, 99, 0, 99, 0, 99, 0, 99, 0, 99, 0, 99, 0, 0, 0, 99, 0, 1, 2, 2, 2, 2, 2, 7, 1, 99, 0, 2, 99, 0, 99, 0, 99, 0, 7, 2, 99, 0, 6, 0, 6, 99, 0, 1, 99, 0, 1, 99, 0, 99, 0, 1, 2, 0, 99, 0, 2, 9, 9, 9, 9, 9, 9, 9, 9, 9, 9, 9, 9, 9, 9, 9, 9, 9, 9, 9, 9, 9, 9, 9, 9, 9, 9, 9, 9, 9, 9, 9, 9, 9, 9, 9, 9, 9, 9, 9, 9, 9, 9, 9, 9, 9, 9, 9, 9, 9, 9, 9, 9, 9]
def mL (i : Nat) : Nat := mLl.getD i 0
def mK (i : Nat) : Nat := mKl.getD i 99
def mSl : List Nat := [0, 2, 2, 2, 2, 2, 2, 2, 2, 2, 1, 1, 1, 0, 1, 1, 1, 1, 1, 1, 1, 0, 1, 1, 1, 1, 1, 0, 1, 1, 1, 1, 0, 1, 0, 1, 1, 0, 1, 0, 1, 0, 0, 1, 0, 1, 1, 0, 1, 1, 1, 1, 0, 1, 1, 0, 1, 0, 1, 0, 1, 0, 1, 0, 1, 0, 1, 0, 1, 0, 1, 0, 1, 1, 1, 1, 1, 1, 1, 1, 1, 0, 1, 1, 0, 1, 0, 1, 0, 1, 1, 1, 0, 1, 1, 1, 1, 0, 1, 1, 0, 1, 1, 0, 1, 0, 1, 1, 1, 1, 0, 1, 1, 2, 1, 1, 1, 1, 1, 0, 1, 1, 1, 1, 1, 1, 1, 1, 1, 0, 1, 1, 1, 1, 1, 1, 1, 1, 1, 1, 1, 1, 1, 1, 1, 1, 1, 1, 1, 1, 1, 1, 1, 1, 1, 1, 1, 1, 1, 1, 1, 1, 1, 1, 1, 1]
def mAl : List Nat := [1, 0, 0, 0, 0, 0, 0, 0, 0, 0, 1, 0, 1, 2, 0, 0, 0, 1, 1, 1, 4, 2, 1, 1, 1, 0, 1, 3, 1, 0, 0, 0, 5, 3, 2, 2, 2, 4, 2, 5, 3, 3, 4, 2, 2, 2, 2, 4, 3, 1, 1, 2, 4, 2, 1, 3, 1, 4, 2, 5, 3, 4, 3, 3, 1, 3, 1, 5, 3, 2, 1, 3, 1, 0, 0, 1, 1, 1, 2, 1, 2, 3, 1, 1, 3, 1, 4, 2, 2, 0, 0, 1, 3, 1, 1, 1, 1, 2, 0, 1, 2, 0, 0, 5, 3, 3, 1, 1, 1, 1, 3, 1, 0, 0, 0, 0, 1, 3, 3, 3, 1, 2, 3, 2, 3, 2, 2, 1, 2, 1, 3, 3, 1, 1, 3, 2, 1, 0, 0, 1, 3, 1, 1, 1, 1, 1, 2, 2, 1, 1, 1, 1, 2, 0, 1, 0, 0, 0, 0, 0, 0, 3, 1, 1, 1, 1]
def mPl : List (Nat × Nat × Nat × Nat) := [(0, 0, 0, 0), (64, 63, 0, 0), (72, 71, 0, 0), (82, 81, 0, 0), (98, 97, 0, 0), (114, 113, 0, 0), (138, 137, 0, 0), (210, 209, 0, 0), (227, 226, 0, 0), (234, 233, 0, 0), (276, 274, 275, 0), (280, 278, 279, 0), (284, 282, 283, 0), (287, 286, 0, 50), (291, 289, 290, 0), (295, 293, 294, 0), (313, 311, 312, 0), (317, 315, 316, 0), (321, 320, 0, 0), (325, 324, 1, 0), (329, 327, 328, 0), (332, 331, 0, 41), (336, 335, 2, 0), (340, 339, 3, 0), (344, 343, 4, 0), (348, 347, 5, 0), (352, 351, 6, 0), (356, 355, 0, 40), (362, 360, 361, 0), (434, 433, 8, 0), (454, 452, 453, 0), (458, 456, 457, 0), (461, 460, 0, 40), (466, 464, 465, 0), (469, 468, 0, 41), (489, 487, 488, 0), (493, 492, 9, 0), (496, 495, 0, 40), (500, 498, 499, 0), (503, 502, 0, 40), (507, 505, 506, 0), (510, 509, 0, 41), (513, 512, 0, 40), (517, 515, 516, 0), (520, 519, 0, 41), (524, 522, 523, 0), (529, 527, 528, 0), (532, 531, 0, 40), (536, 534, 535, 0), (541, 539, 540, 0), (545, 543, 544, 0), (550, 548, 549, 0), (553, 552, 0, 40), (557, 555, 556, 0), (561, 559, 560, 0), (564, 563, 0, 40), (568, 566, 567, 0), (571, 570, 0, 40), (575, 573, 574, 0), (580, 579, 0, 40), (584, 582, 583, 0), (587, 586, 0, 40), (591, 589, 590, 0), (594, 593, 0, 40), (598, 596, 597, 0), (601, 600, 0, 40), (605, 603, 604, 0), (608, 607, 0, 40), (612, 610, 611, 0), (615, 614, 0, 41), (619, 618, 10, 0), (622, 621, 0, 40), (626, 624, 625, 0), (630, 628, 629, 0), (635, 633, 634, 0), (639, 638, 11, 0), (643, 642, 12, 0), (647, 646, 13, 0), (651, 650, 14, 0), (655, 653, 654, 0), (663, 661, 662, 0), (666, 665, 0, 40), (670, 668, 669, 0), (674, 672, 673, 0), (677, 676, 0, 40), (681, 679, 680, 0), (684, 683, 0, 40), (688, 686, 687, 0), (691, 690, 0, 40), (695, 693, 694, 0), (700, 698, 699, 0), (704, 702, 703, 0), (707, 706, 0, 40), (711, 709, 710, 0), (716, 714, 715, 0), (723, 722, 15, 0), (727, 725, 726, 0), (730, 729, 0, 40), (734, 732, 733, 0), (739, 737, 738, 0), (743, 742, 0, 40), (747, 745, 746, 0), (752, 750, 751, 0), (755, 754, 0, 40), (759, 757, 758, 0), (763, 762, 0, 40), (767, 765, 766, 0), (771, 769, 770, 0), (776, 774, 775, 0), (781, 780, 16, 0), (784, 783, 0, 40), (788, 786, 787, 0), (792, 790, 791, 0), (798, 797, 0, 0), (803, 802, 17, 0), (880, 878, 879, 0), (884, 882, 883, 0), (888, 887, 18, 0), (892, 890, 891, 0), (895, 894, 0, 51), (899, 898, 19, 0), (903, 901, 902, 0), (907, 905, 906, 0), (911, 909, 910, 0), (915, 913, 914, 0), (919, 918, 20, 0), (923, 921, 922, 0), (927, 925, 926, 0), (931, 929, 930, 0), (934, 933, 0, 51), (938, 936, 937, 0), (942, 940, 941, 0), (946, 944, 945, 0), (950, 948, 949, 0), (954, 952, 953, 0), (958, 957, 21, 0), (962, 960, 961, 0), (966, 965, 22, 0), (970, 969, 23, 0), (974, 973, 24, 0), (978, 977, 25, 0), (982, 981, 26, 0), (986, 985, 27, 0), (990, 989, 28, 0), (994, 993, 29, 0), (998, 997, 30, 0), (1002, 1001, 31, 0), (1006, 1005, 32, 0), (1010, 1009, 33, 0), (1014, 1013, 34, 0), (1018, 1016, 1017, 0), (1022, 1020, 1021, 0), (1026, 1024, 1025, 0), (1030, 1028, 1029, 0), (1034, 1032, 1033, 0), (1038, 1037, 35, 0), (1042, 1041, 36, 0), (1046, 1045, 37, 0), (1050, 1048, 1049, 0), (1054, 1052, 1053, 0), (1058, 1056, 1057, 0), (1062, 1060, 1061, 0), (1066, 1065, 38, 0), (1070, 1068, 1069, 0), (1074, 1072, 1073, 0), (1078, 1077, 39, 0)]
def hXl : List (List (Nat × Nat × Nat × Nat × Nat × Nat)) := [[], [], [], [], [], [], [], [], [], [], [], [], [], [], [], [], [], [], [], [], [], [], [], [], [], [], [], [(0, 9, 12, 13, 0, 357), (0, 9, 15, 15, 1, 358)], [], [], [], [], [(0, 12, 15, 21, 2, 462), (0, 12, 19, 15, 1, 358)], [], [], [], [], [(0, 10, 13, 21, 2, 462), (0, 10, 17, 15, 1, 358)], [], [(0, 19, 22, 21, 2, 462), (0, 19, 26, 15, 1, 358)], [], [], [(0, 10, 13, 21, 2, 462), (0, 10, 17, 15, 1, 358)], [], [], [], [], [(0, 7, 10, 21, 2, 462), (0, 7, 14, 13, 0, 357), (0, 7, 18, 15, 1, 358)], [], [], [], [], [(0, 10, 13, 21, 2, 462), (0, 10, 17, 15, 1, 358)], [], [], [(0, 16, 19, 15, 1, 358)], [], [(0, 10, 13, 21, 2, 462), (0, 10, 17, 13, 0, 357), (0, 10, 21, 15, 1, 358)], [], [(0, 19, 22, 21, 2, 462), (0, 19, 26, 15, 1, 358)], [], [(0, 7, 10, 21, 2, 462), (0, 7, 14, 15, 1, 358)], [], [(0, 9, 12, 21, 2, 462), (0, 9, 15, 15, 1, 358)], [], [(0, 9, 12, 21, 2, 462), (0, 9, 15, 15, 1, 358)], [], [(0, 12, 15, 21, 2, 462), (0, 12, 19, 15, 1, 358)], [], [], [], [(0, 9, 12, 21, 2, 462), (0, 9, 15, 15, 1, 358)], [], [], [], [], [], [], [], [], [], [(0, 9, 12, 21, 2, 462), (0, 9, 15, 15, 1, 358)], [], [], [(0, 9, 12, 21, 2, 462)], [], [(0, 10, 13, 21, 2, 462)], [], [(0, 8, 11, 15, 1, 358)], [], [], [], [(0, 9, 12, 13, 0, 357), (0, 9, 15, 15, 1, 358)], [], [], [], [], [(0, 8, 11, 15, 1, 358)], [], [], [(0, 8, 11, 15, 1, 358)], [], [], [(0, 12, 15, 21, 2, 462), (0, 12, 19, 13, 0, 357)], [], [(0, 9, 12, 21, 2, 462), (0, 9, 15, 15, 1, 358)], [], [], [], [], [(0, 9, 12, 13, 0, 357)], [], [], [], [], [], [], [], [], [], [], [], [], [], [], [], [], [], [], [], [], [], [], [], [], [], [], [], [], [], [], [], [], [], [], [], [], [], [], [], [], [], [], [], [], [], [], [], [], [], [], [], [], [], [], []]
def hT (i : Nat) : List (Nat × Nat × Nat × Nat) := (hXl.getD i []).map (fun z => (z.1, z.2.1, z.2.2.1, z.2.2.2.2.1))
def nFl : List Nat := [10, 4, 2, 1, 1, 1, 1, 1, 3, 2, 2, 0, 0, 0, 0, 1, 5, 4, 3, 2, 1, 0, 2, 1, 0, 2, 1, 8, 7, 6, 0, 0, 8, 7, 6, 1, 0, 8, 7, 8, 7, 0, 9, 8, 7, 0, 0, 8, 7, 0, 0, 0, 8, 7, 0, 8, 7, 8, 7, 8, 7, 9, 8, 8, 7, 8, 7, 9, 8, 7, 0, 8, 7, 0, 3, 2, 1, 0, 1, 1, 0, 8, 7, 4, 8, 7, 9, 8, 8, 7, 1, 2, 8, 7, 1, 4, 0, 8, 7, 2, 7, 6, 0, 8, 7, 8, 7, 0, 2, 5, 7, 6, 0, 1, 0, 0, 1, 0, 1, 0, 0, 1, 1, 1, 1, 0, 1, 1, 2, 1, 2, 1, 1, 1, 3, 2, 5, 4, 3, 2, 0, 1, 0, 0, 3, 2, 0, 1, 1, 1, 5, 4, 3, 1, 4, 0, 0, 0, 4, 1, 1, 1, 0, 4, 2, 1]
def nWl : List Nat := [183, 81, 40, 20, 20, 20, 20, 20, 60, 40, 43, 0, 0, 0, 0, 23, 112, 91, 70, 46, 21, 0, 46, 23, 0, 44, 23, 133, 111, 91, 0, 0, 135, 112, 91, 22, 0, 135, 112, 135, 112, 0, 155, 133, 112, 0, 0, 136, 112, 0, 0, 0, 135, 112, 0, 133, 111, 135, 112, 135, 112, 156, 133, 134, 112, 134, 112, 158, 133, 112, 0, 134, 112, 0, 66, 44, 22, 0, 21, 21, 0, 135, 114, 91, 133, 112, 155, 133, 131, 111, 21, 44, 133, 111, 27, 88, 0, 131, 111, 48, 111, 91, 0, 135, 112, 156, 134, 0, 48, 112, 112, 91, 0, 21, 0, 0, 23, 0, 23, 0, 0, 23, 23, 23, 23, 0, 23, 23, 42, 22, 42, 23, 23, 23, 64, 42, 110, 89, 68, 44, 0, 21, 0, 0, 69, 46, 0, 23, 21, 21, 110, 91, 64, 23, 89, 0, 0, 0, 91, 23, 23, 23, 0, 91, 45, 22]
def bP : List Nat := [66, 67, 658, 58, 659, 719, 718, 59]
def acP : List Nat := [93, 134, 1079]
def aoP : List Nat := [230, 77, 75]
def stP : List Nat := [390, 392]
def exQl : List (List Nat) := [[55, 364, 372, 373, 374, 376, 378, 380, 384, 383, 382, 406, 407, 408, 409, 367, 409, 410, 411, 412, 369, 412, 413, 414, 415, 371, 415, 416, 418, 381, 52, 385, 394, 398, 401, 403, 386, 387, 66, 67, 388, 393, 399, 419, 375, 420, 377, 421, 379, 389, 391, 381], [56, 436, 438, 396, 439, 440, 441, 442, 384, 383, 443, 446, 447, 448, 409, 367, 409, 410, 411, 412, 369, 412, 413, 414, 415, 371, 415, 416, 418, 381, 52, 385, 394, 398, 401, 403, 386, 387, 66, 67, 388, 393, 399, 419, 375, 420, 377, 421, 379, 389, 391, 381], [57, 471, 473, 397, 474, 475, 476, 477, 384, 383, 478, 481, 482, 483, 409, 367, 409, 410, 411, 412, 369, 412, 413, 414, 415, 371, 415, 416, 418, 381, 52, 385, 394, 398, 401, 403, 386, 387, 66, 67, 388, 393, 399, 419, 375, 420, 377, 421, 379, 389, 391, 381]]
abbrev En : Type := Instr × Nat × Nat × Nat × Nat × Nat
def c0_0 : List (Nat × En) := [(0, (.new 8), 3, 0, 4, 0, 60), (3, .dup, 1, 0, 0, 0, 0), (4, (.invokespecial 97), 3, 1, 0, 2, 62), (7, (.astore_n 1), 1, 0, 0, 0, 0), (8, (.new 98), 3, 9, 24, 0, 794), (11, .dup, 1, 0, 0, 0, 0), (12, (.invokespecial 100), 3, 113, 0, 2, 796), (15, (.astore_n 2), 1, 0, 0, 0, 0), (16, (.iconst 1), 1, 0, 0, 0, 0), (17, (.newarray .long), 2, 2, 0, 0, 0), (19, (.astore_n 3), 1, 0, 0, 0, 0), (20, (.iconst 0), 1, 0, 0, 0, 0), (21, (.istore 4), 2, 0, 0, 0, 0), (23, (.iload 4), 2, 0, 0, 0, 0), (25, (.aload_n 0), 1, 0, 0, 0, 0), (26, .arraylength, 1, 0, 0, 0, 0), (27, (.iconst 4), 1, 0, 0, 0, 0), (28, .isub, 1, 0, 0, 0, 0), (29, (.if_icmp .gt 1767), 3, 1796, 0, 0, 0), (32, (.aload_n 0), 1, 0, 0, 0, 0), (33, (.iload 4), 2, 0, 0, 0, 0), (35, .iaload, 1, 0, 0, 0, 0), (36, (.bipush 31), 2, 0, 0, 0, 0), (38, .iand, 1, 0, 0, 0, 0), (39, (.tableswitch 1751 0 25 #[117, 173, 253, 321, 424, 492, 552, 620, 699, 767, 870, 930, 986, 1042, 1122, 1178, 1234, 1290, 1358, 1402, 1458, 1471, 1515, 1559, 1639, 1695]), 117, 0, 0, 0, 0), (156, (.aload_n 1), 1, 0, 0, 0, 0), (157, (.aload_n 0), 1, 0, 0, 0, 0), (158, (.iload 4), 2, 0, 0, 0, 0), (160, (.iconst 1), 1, 0, 0, 0, 0), (161, .iadd, 1, 0, 0, 0, 0), (162, .iaload, 1, 0, 0, 0, 0), (163, (.aload_n 3), 1, 0, 0, 0, 0), (164, (.invokestatic 101), 3, 27, 3, 0, 354), (167, (.istore 5), 2, 0, 0, 0, 0), (169, (.aload_n 2), 1, 0, 0, 0, 0), (170, (.aload_n 0), 1, 0, 0, 0, 0), (171, (.iload 4), 2, 0, 0, 0, 0), (173, (.iconst 1), 1, 0, 0, 0, 0), (174, .iadd, 1, 0, 0, 0, 0), (175, .iaload, 1, 0, 0, 0, 0)]
def c0_1 : List (Nat × En) := [(176, (.invokevirtual 106), 3, 116, 1, 1, 881), (179, (.istore 6), 2, 0, 0, 0, 0), (181, (.aload_n 2), 1, 0, 0, 0, 0), (182, (.invokevirtual 107), 3, 115, 0, 1, 877), (185, (.iload 5), 2, 0, 0, 0, 0), (187, (.if_icmp .eq 5), 3, 192, 0, 0, 0), (190, (.iconst 0), 1, 0, 0, 0, 0), (191, .ireturn, 1, 0, 0, 0, 0), (192, (.iload 5), 2, 0, 0, 0, 0), (194, (.ifCond .ne 15), 3, 209, 0, 0, 0), (197, (.aload_n 3), 1, 0, 0, 0, 0), (198, (.iconst 0), 1, 0, 0, 0, 0), (199, .laload, 1, 0, 0, 0, 0), (200, (.iload 6), 2, 0, 0, 0, 0), (202, .i2l, 1, 0, 0, 0, 0), (203, .lcmp, 1, 0, 0, 0, 0), (204, (.ifCond .eq 5), 3, 209, 0, 0, 0), (207, (.iconst 0), 1, 0, 0, 0, 0), (208, .ireturn, 1, 0, 0, 0, 0), (209, (.goto 1581), 3, 1790, 0, 0, 0), (212, (.aload_n 1), 1, 0, 0, 0, 0), (213, (.aload_n 0), 1, 0, 0, 0, 0), (214, (.iload 4), 2, 0, 0, 0, 0), (216, (.iconst 1), 1, 0, 0, 0, 0), (217, .iadd, 1, 0, 0, 0, 0), (218, .iaload, 1, 0, 0, 0, 0), (219, (.aload_n 0), 1, 0, 0, 0, 0), (220, (.iload 4), 2, 0, 0, 0, 0), (222, (.iconst 2), 1, 0, 0, 0, 0), (223, .iadd, 1, 0, 0, 0, 0), (224, .iaload, 1, 0, 0, 0, 0), (225, (.aload_n 0), 1, 0, 0, 0, 0), (226, (.iload 4), 2, 0, 0, 0, 0), (228, (.iconst 3), 1, 0, 0, 0, 0), (229, .iadd, 1, 0, 0, 0, 0), (230, .iaload, 1, 0, 0, 0, 0), (231, (.aload_n 3), 1, 0, 0, 0, 0), (232, (.invokestatic 110), 3, 32, 5, 0, 459), (235, (.istore 5), 2, 0, 0, 0, 0), (237, (.aload_n 2), 1, 0, 0, 0, 0)]
def c0_2 : List (Nat × En) := [(238, (.aload_n 0), 1, 0, 0, 0, 0), (239, (.iload 4), 2, 0, 0, 0, 0), (241, (.iconst 1), 1, 0, 0, 0, 0), (242, .iadd, 1, 0, 0, 0, 0), (243, .iaload, 1, 0, 0, 0, 0), (244, (.aload_n 0), 1, 0, 0, 0, 0), (245, (.iload 4), 2, 0, 0, 0, 0), (247, (.iconst 2), 1, 0, 0, 0, 0), (248, .iadd, 1, 0, 0, 0, 0), (249, .iaload, 1, 0, 0, 0, 0), (250, (.aload_n 0), 1, 0, 0, 0, 0), (251, (.iload 4), 2, 0, 0, 0, 0), (253, (.iconst 3), 1, 0, 0, 0, 0), (254, .iadd, 1, 0, 0, 0, 0), (255, .iaload, 1, 0, 0, 0, 0), (256, (.invokevirtual 113), 3, 118, 3, 1, 889), (259, (.istore 6), 2, 0, 0, 0, 0), (261, (.aload_n 2), 1, 0, 0, 0, 0), (262, (.invokevirtual 107), 3, 115, 0, 1, 877), (265, (.iload 5), 2, 0, 0, 0, 0), (267, (.if_icmp .eq 5), 3, 272, 0, 0, 0), (270, (.iconst 0), 1, 0, 0, 0, 0), (271, .ireturn, 1, 0, 0, 0, 0), (272, (.iload 5), 2, 0, 0, 0, 0), (274, (.ifCond .ne 15), 3, 289, 0, 0, 0), (277, (.aload_n 3), 1, 0, 0, 0, 0), (278, (.iconst 0), 1, 0, 0, 0, 0), (279, .laload, 1, 0, 0, 0, 0), (280, (.iload 6), 2, 0, 0, 0, 0), (282, .i2l, 1, 0, 0, 0, 0), (283, .lcmp, 1, 0, 0, 0, 0), (284, (.ifCond .eq 5), 3, 289, 0, 0, 0), (287, (.iconst 0), 1, 0, 0, 0, 0), (288, .ireturn, 1, 0, 0, 0, 0), (289, (.goto 1501), 3, 1790, 0, 0, 0), (292, (.aload_n 1), 1, 0, 0, 0, 0), (293, (.aload_n 0), 1, 0, 0, 0, 0), (294, (.iload 4), 2, 0, 0, 0, 0), (296, (.iconst 1), 1, 0, 0, 0, 0), (297, .iadd, 1, 0, 0, 0, 0)]
def c0_3 : List (Nat × En) := [(298, .iaload, 1, 0, 0, 0, 0), (299, (.aload_n 0), 1, 0, 0, 0, 0), (300, (.iload 4), 2, 0, 0, 0, 0), (302, (.iconst 2), 1, 0, 0, 0, 0), (303, .iadd, 1, 0, 0, 0, 0), (304, .iaload, 1, 0, 0, 0, 0), (305, (.aload_n 3), 1, 0, 0, 0, 0), (306, (.invokestatic 114), 3, 37, 4, 0, 494), (309, (.istore 5), 2, 0, 0, 0, 0), (311, (.aload_n 2), 1, 0, 0, 0, 0), (312, (.aload_n 0), 1, 0, 0, 0, 0), (313, (.iload 4), 2, 0, 0, 0, 0), (315, (.iconst 1), 1, 0, 0, 0, 0), (316, .iadd, 1, 0, 0, 0, 0), (317, .iaload, 1, 0, 0, 0, 0), (318, (.aload_n 0), 1, 0, 0, 0, 0), (319, (.iload 4), 2, 0, 0, 0, 0), (321, (.iconst 2), 1, 0, 0, 0, 0), (322, .iadd, 1, 0, 0, 0, 0), (323, .iaload, 1, 0, 0, 0, 0), (324, (.invokevirtual 117), 3, 121, 2, 1, 900), (327, (.istore 6), 2, 0, 0, 0, 0), (329, (.aload_n 2), 1, 0, 0, 0, 0), (330, (.invokevirtual 107), 3, 115, 0, 1, 877), (333, (.iload 5), 2, 0, 0, 0, 0), (335, (.if_icmp .eq 5), 3, 340, 0, 0, 0), (338, (.iconst 0), 1, 0, 0, 0, 0), (339, .ireturn, 1, 0, 0, 0, 0), (340, (.iload 5), 2, 0, 0, 0, 0), (342, (.ifCond .ne 15), 3, 357, 0, 0, 0), (345, (.aload_n 3), 1, 0, 0, 0, 0), (346, (.iconst 0), 1, 0, 0, 0, 0), (347, .laload, 1, 0, 0, 0, 0), (348, (.iload 6), 2, 0, 0, 0, 0), (350, .i2l, 1, 0, 0, 0, 0), (351, .lcmp, 1, 0, 0, 0, 0), (352, (.ifCond .eq 5), 3, 357, 0, 0, 0), (355, (.iconst 0), 1, 0, 0, 0, 0), (356, .ireturn, 1, 0, 0, 0, 0), (357, (.goto 1433), 3, 1790, 0, 0, 0)]
def c0_4 : List (Nat × En) := [(360, (.aload_n 1), 1, 0, 0, 0, 0), (361, (.aload_n 0), 1, 0, 0, 0, 0), (362, (.iload 4), 2, 0, 0, 0, 0), (364, (.iconst 1), 1, 0, 0, 0, 0), (365, .iadd, 1, 0, 0, 0, 0), (366, .iaload, 1, 0, 0, 0, 0), (367, (.aload_n 0), 1, 0, 0, 0, 0), (368, (.iload 4), 2, 0, 0, 0, 0), (370, (.iconst 2), 1, 0, 0, 0, 0), (371, .iadd, 1, 0, 0, 0, 0), (372, .iaload, 1, 0, 0, 0, 0), (373, (.aload_n 0), 1, 0, 0, 0, 0), (374, (.iload 4), 2, 0, 0, 0, 0), (376, (.iconst 3), 1, 0, 0, 0, 0), (377, .iadd, 1, 0, 0, 0, 0), (378, .iaload, 1, 0, 0, 0, 0), (379, (.ifCond .eq 7), 3, 386, 0, 0, 0), (382, (.iconst 1), 1, 0, 0, 0, 0), (383, (.goto 4), 3, 387, 0, 0, 0), (386, (.iconst 0), 1, 0, 0, 0, 0), (387, (.aload_n 3), 1, 0, 0, 0, 0), (388, (.invokestatic 118), 3, 39, 5, 0, 501), (391, (.istore 5), 2, 0, 0, 0, 0), (393, (.aload_n 2), 1, 0, 0, 0, 0), (394, (.aload_n 0), 1, 0, 0, 0, 0), (395, (.iload 4), 2, 0, 0, 0, 0), (397, (.iconst 1), 1, 0, 0, 0, 0), (398, .iadd, 1, 0, 0, 0, 0), (399, .iaload, 1, 0, 0, 0, 0), (400, (.aload_n 0), 1, 0, 0, 0, 0), (401, (.iload 4), 2, 0, 0, 0, 0), (403, (.iconst 2), 1, 0, 0, 0, 0), (404, .iadd, 1, 0, 0, 0, 0), (405, .iaload, 1, 0, 0, 0, 0), (406, (.aload_n 0), 1, 0, 0, 0, 0), (407, (.iload 4), 2, 0, 0, 0, 0), (409, (.iconst 3), 1, 0, 0, 0, 0), (410, .iadd, 1, 0, 0, 0, 0), (411, .iaload, 1, 0, 0, 0, 0), (412, (.ifCond .eq 7), 3, 419, 0, 0, 0)]
def c0_5 : List (Nat × En) := [(415, (.iconst 1), 1, 0, 0, 0, 0), (416, (.goto 4), 3, 420, 0, 0, 0), (419, (.iconst 0), 1, 0, 0, 0, 0), (420, (.invokevirtual 121), 3, 122, 3, 1, 904), (423, (.istore 6), 2, 0, 0, 0, 0), (425, (.aload_n 2), 1, 0, 0, 0, 0), (426, (.invokevirtual 107), 3, 115, 0, 1, 877), (429, (.iload 5), 2, 0, 0, 0, 0), (431, (.if_icmp .eq 5), 3, 436, 0, 0, 0), (434, (.iconst 0), 1, 0, 0, 0, 0), (435, .ireturn, 1, 0, 0, 0, 0), (436, (.iload 5), 2, 0, 0, 0, 0), (438, (.ifCond .ne 22), 3, 460, 0, 0, 0), (441, (.aload_n 3), 1, 0, 0, 0, 0), (442, (.iconst 0), 1, 0, 0, 0, 0), (443, .laload, 1, 0, 0, 0, 0), (444, (.iload 6), 2, 0, 0, 0, 0), (446, (.ifCond .eq 7), 3, 453, 0, 0, 0), (449, (.lconst 1), 1, 0, 0, 0, 0), (450, (.goto 4), 3, 454, 0, 0, 0), (453, (.lconst 0), 1, 0, 0, 0, 0), (454, .lcmp, 1, 0, 0, 0, 0), (455, (.ifCond .eq 5), 3, 460, 0, 0, 0), (458, (.iconst 0), 1, 0, 0, 0, 0), (459, .ireturn, 1, 0, 0, 0, 0), (460, (.goto 1330), 3, 1790, 0, 0, 0), (463, (.aload_n 1), 1, 0, 0, 0, 0), (464, (.aload_n 0), 1, 0, 0, 0, 0), (465, (.iload 4), 2, 0, 0, 0, 0), (467, (.iconst 1), 1, 0, 0, 0, 0), (468, .iadd, 1, 0, 0, 0, 0), (469, .iaload, 1, 0, 0, 0, 0), (470, (.aload_n 0), 1, 0, 0, 0, 0), (471, (.iload 4), 2, 0, 0, 0, 0), (473, (.iconst 2), 1, 0, 0, 0, 0), (474, .iadd, 1, 0, 0, 0, 0), (475, .iaload, 1, 0, 0, 0, 0), (476, (.aload_n 3), 1, 0, 0, 0, 0), (477, (.invokestatic 122), 3, 42, 4, 0, 511), (480, (.istore 5), 2, 0, 0, 0, 0)]
def c0_6 : List (Nat × En) := [(482, (.aload_n 2), 1, 0, 0, 0, 0), (483, (.aload_n 0), 1, 0, 0, 0, 0), (484, (.iload 4), 2, 0, 0, 0, 0), (486, (.iconst 1), 1, 0, 0, 0, 0), (487, .iadd, 1, 0, 0, 0, 0), (488, .iaload, 1, 0, 0, 0, 0), (489, (.aload_n 0), 1, 0, 0, 0, 0), (490, (.iload 4), 2, 0, 0, 0, 0), (492, (.iconst 2), 1, 0, 0, 0, 0), (493, .iadd, 1, 0, 0, 0, 0), (494, .iaload, 1, 0, 0, 0, 0), (495, (.invokevirtual 124), 3, 123, 2, 1, 908), (498, (.istore 6), 2, 0, 0, 0, 0), (500, (.aload_n 2), 1, 0, 0, 0, 0), (501, (.invokevirtual 107), 3, 115, 0, 1, 877), (504, (.iload 5), 2, 0, 0, 0, 0), (506, (.if_icmp .eq 5), 3, 511, 0, 0, 0), (509, (.iconst 0), 1, 0, 0, 0, 0), (510, .ireturn, 1, 0, 0, 0, 0), (511, (.iload 5), 2, 0, 0, 0, 0), (513, (.ifCond .ne 15), 3, 528, 0, 0, 0), (516, (.aload_n 3), 1, 0, 0, 0, 0), (517, (.iconst 0), 1, 0, 0, 0, 0), (518, .laload, 1, 0, 0, 0, 0), (519, (.iload 6), 2, 0, 0, 0, 0), (521, .i2l, 1, 0, 0, 0, 0), (522, .lcmp, 1, 0, 0, 0, 0), (523, (.ifCond .eq 5), 3, 528, 0, 0, 0), (526, (.iconst 0), 1, 0, 0, 0, 0), (527, .ireturn, 1, 0, 0, 0, 0), (528, (.goto 1262), 3, 1790, 0, 0, 0), (531, (.aload_n 1), 1, 0, 0, 0, 0), (532, (.aload_n 0), 1, 0, 0, 0, 0), (533, (.iload 4), 2, 0, 0, 0, 0), (535, (.iconst 1), 1, 0, 0, 0, 0), (536, .iadd, 1, 0, 0, 0, 0), (537, .iaload, 1, 0, 0, 0, 0), (538, (.aload_n 0), 1, 0, 0, 0, 0), (539, (.iload 4), 2, 0, 0, 0, 0), (541, (.iconst 2), 1, 0, 0, 0, 0)]
def c0_7 : List (Nat × En) := [(542, .iadd, 1, 0, 0, 0, 0), (543, .iaload, 1, 0, 0, 0, 0), (544, (.aload_n 0), 1, 0, 0, 0, 0), (545, (.iload 4), 2, 0, 0, 0, 0), (547, (.iconst 3), 1, 0, 0, 0, 0), (548, .iadd, 1, 0, 0, 0, 0), (549, .iaload, 1, 0, 0, 0, 0), (550, (.invokestatic 125), 3, 47, 4, 0, 530), (553, (.istore 5), 2, 0, 0, 0, 0), (555, (.aload_n 2), 1, 0, 0, 0, 0), (556, (.aload_n 0), 1, 0, 0, 0, 0), (557, (.iload 4), 2, 0, 0, 0, 0), (559, (.iconst 1), 1, 0, 0, 0, 0), (560, .iadd, 1, 0, 0, 0, 0), (561, .iaload, 1, 0, 0, 0, 0), (562, (.aload_n 0), 1, 0, 0, 0, 0), (563, (.iload 4), 2, 0, 0, 0, 0), (565, (.iconst 2), 1, 0, 0, 0, 0), (566, .iadd, 1, 0, 0, 0, 0), (567, .iaload, 1, 0, 0, 0, 0), (568, (.aload_n 0), 1, 0, 0, 0, 0), (569, (.iload 4), 2, 0, 0, 0, 0), (571, (.iconst 3), 1, 0, 0, 0, 0), (572, .iadd, 1, 0, 0, 0, 0), (573, .iaload, 1, 0, 0, 0, 0), (574, (.invokevirtual 128), 3, 124, 3, 1, 912), (577, (.aload_n 2), 1, 0, 0, 0, 0), (578, (.invokevirtual 107), 3, 115, 0, 1, 877), (581, (.iload 5), 2, 0, 0, 0, 0), (583, (.if_icmp .eq 5), 3, 588, 0, 0, 0), (586, (.iconst 0), 1, 0, 0, 0, 0), (587, .ireturn, 1, 0, 0, 0, 0), (588, (.goto 1202), 3, 1790, 0, 0, 0), (591, (.aload_n 1), 1, 0, 0, 0, 0), (592, (.aload_n 0), 1, 0, 0, 0, 0), (593, (.iload 4), 2, 0, 0, 0, 0), (595, (.iconst 1), 1, 0, 0, 0, 0), (596, .iadd, 1, 0, 0, 0, 0), (597, .iaload, 1, 0, 0, 0, 0), (598, (.aload_n 0), 1, 0, 0, 0, 0)]
def c0_8 : List (Nat × En) := [(599, (.iload 4), 2, 0, 0, 0, 0), (601, (.iconst 2), 1, 0, 0, 0, 0), (602, .iadd, 1, 0, 0, 0, 0), (603, .iaload, 1, 0, 0, 0, 0), (604, (.aload_n 3), 1, 0, 0, 0, 0), (605, (.invokestatic 129), 3, 52, 4, 0, 551), (608, (.istore 5), 2, 0, 0, 0, 0), (610, (.aload_n 2), 1, 0, 0, 0, 0), (611, (.aload_n 0), 1, 0, 0, 0, 0), (612, (.iload 4), 2, 0, 0, 0, 0), (614, (.iconst 1), 1, 0, 0, 0, 0), (615, .iadd, 1, 0, 0, 0, 0), (616, .iaload, 1, 0, 0, 0, 0), (617, (.aload_n 0), 1, 0, 0, 0, 0), (618, (.iload 4), 2, 0, 0, 0, 0), (620, (.iconst 2), 1, 0, 0, 0, 0), (621, .iadd, 1, 0, 0, 0, 0), (622, .iaload, 1, 0, 0, 0, 0), (623, (.invokevirtual 131), 3, 126, 2, 1, 920), (626, (.istore 6), 2, 0, 0, 0, 0), (628, (.aload_n 2), 1, 0, 0, 0, 0), (629, (.invokevirtual 107), 3, 115, 0, 1, 877), (632, (.iload 5), 2, 0, 0, 0, 0), (634, (.if_icmp .eq 5), 3, 639, 0, 0, 0), (637, (.iconst 0), 1, 0, 0, 0, 0), (638, .ireturn, 1, 0, 0, 0, 0), (639, (.iload 5), 2, 0, 0, 0, 0), (641, (.ifCond .ne 15), 3, 656, 0, 0, 0), (644, (.aload_n 3), 1, 0, 0, 0, 0), (645, (.iconst 0), 1, 0, 0, 0, 0), (646, .laload, 1, 0, 0, 0, 0), (647, (.iload 6), 2, 0, 0, 0, 0), (649, .i2l, 1, 0, 0, 0, 0), (650, .lcmp, 1, 0, 0, 0, 0), (651, (.ifCond .eq 5), 3, 656, 0, 0, 0), (654, (.iconst 0), 1, 0, 0, 0, 0), (655, .ireturn, 1, 0, 0, 0, 0), (656, (.goto 1134), 3, 1790, 0, 0, 0), (659, (.aload_n 1), 1, 0, 0, 0, 0), (660, (.aload_n 0), 1, 0, 0, 0, 0)]
def c0_9 : List (Nat × En) := [(661, (.iload 4), 2, 0, 0, 0, 0), (663, (.iconst 1), 1, 0, 0, 0, 0), (664, .iadd, 1, 0, 0, 0, 0), (665, .iaload, 1, 0, 0, 0, 0), (666, (.ifCond .eq 7), 3, 673, 0, 0, 0), (669, (.iconst 1), 1, 0, 0, 0, 0), (670, (.goto 4), 3, 674, 0, 0, 0), (673, (.iconst 0), 1, 0, 0, 0, 0), (674, (.aload_n 3), 1, 0, 0, 0, 0), (675, (.invokestatic 132), 3, 55, 3, 0, 562), (678, (.istore 5), 2, 0, 0, 0, 0), (680, (.aload_n 2), 1, 0, 0, 0, 0), (681, (.aload_n 0), 1, 0, 0, 0, 0), (682, (.iload 4), 2, 0, 0, 0, 0), (684, (.iconst 1), 1, 0, 0, 0, 0), (685, .iadd, 1, 0, 0, 0, 0), (686, .iaload, 1, 0, 0, 0, 0), (687, (.ifCond .eq 7), 3, 694, 0, 0, 0), (690, (.iconst 1), 1, 0, 0, 0, 0), (691, (.goto 4), 3, 695, 0, 0, 0), (694, (.iconst 0), 1, 0, 0, 0, 0), (695, (.invokevirtual 135), 3, 127, 1, 1, 924), (698, (.istore 6), 2, 0, 0, 0, 0), (700, (.aload_n 2), 1, 0, 0, 0, 0), (701, (.invokevirtual 107), 3, 115, 0, 1, 877), (704, (.iload 5), 2, 0, 0, 0, 0), (706, (.if_icmp .eq 5), 3, 711, 0, 0, 0), (709, (.iconst 0), 1, 0, 0, 0, 0), (710, .ireturn, 1, 0, 0, 0, 0), (711, (.iload 5), 2, 0, 0, 0, 0), (713, (.ifCond .ne 22), 3, 735, 0, 0, 0), (716, (.aload_n 3), 1, 0, 0, 0, 0), (717, (.iconst 0), 1, 0, 0, 0, 0), (718, .laload, 1, 0, 0, 0, 0), (719, (.iload 6), 2, 0, 0, 0, 0), (721, (.ifCond .eq 7), 3, 728, 0, 0, 0), (724, (.lconst 1), 1, 0, 0, 0, 0), (725, (.goto 4), 3, 729, 0, 0, 0), (728, (.lconst 0), 1, 0, 0, 0, 0), (729, .lcmp, 1, 0, 0, 0, 0)]
def c0_10 : List (Nat × En) := [(730, (.ifCond .eq 5), 3, 735, 0, 0, 0), (733, (.iconst 0), 1, 0, 0, 0, 0), (734, .ireturn, 1, 0, 0, 0, 0), (735, (.goto 1055), 3, 1790, 0, 0, 0), (738, (.aload_n 1), 1, 0, 0, 0, 0), (739, (.aload_n 0), 1, 0, 0, 0, 0), (740, (.iload 4), 2, 0, 0, 0, 0), (742, (.iconst 1), 1, 0, 0, 0, 0), (743, .iadd, 1, 0, 0, 0, 0), (744, .iaload, 1, 0, 0, 0, 0), (745, (.aload_n 0), 1, 0, 0, 0, 0), (746, (.iload 4), 2, 0, 0, 0, 0), (748, (.iconst 2), 1, 0, 0, 0, 0), (749, .iadd, 1, 0, 0, 0, 0), (750, .iaload, 1, 0, 0, 0, 0), (751, (.aload_n 3), 1, 0, 0, 0, 0), (752, (.invokestatic 136), 3, 57, 4, 0, 569), (755, (.istore 5), 2, 0, 0, 0, 0), (757, (.aload_n 2), 1, 0, 0, 0, 0), (758, (.aload_n 0), 1, 0, 0, 0, 0), (759, (.iload 4), 2, 0, 0, 0, 0), (761, (.iconst 1), 1, 0, 0, 0, 0), (762, .iadd, 1, 0, 0, 0, 0), (763, .iaload, 1, 0, 0, 0, 0), (764, (.aload_n 0), 1, 0, 0, 0, 0), (765, (.iload 4), 2, 0, 0, 0, 0), (767, (.iconst 2), 1, 0, 0, 0, 0), (768, .iadd, 1, 0, 0, 0, 0), (769, .iaload, 1, 0, 0, 0, 0), (770, (.invokevirtual 138), 3, 128, 2, 1, 928), (773, (.istore 6), 2, 0, 0, 0, 0), (775, (.aload_n 2), 1, 0, 0, 0, 0), (776, (.invokevirtual 107), 3, 115, 0, 1, 877), (779, (.iload 5), 2, 0, 0, 0, 0), (781, (.if_icmp .eq 5), 3, 786, 0, 0, 0), (784, (.iconst 0), 1, 0, 0, 0, 0), (785, .ireturn, 1, 0, 0, 0, 0), (786, (.iload 5), 2, 0, 0, 0, 0), (788, (.ifCond .ne 15), 3, 803, 0, 0, 0), (791, (.aload_n 3), 1, 0, 0, 0, 0)]
def c0_11 : List (Nat × En) := [(792, (.iconst 0), 1, 0, 0, 0, 0), (793, .laload, 1, 0, 0, 0, 0), (794, (.iload 6), 2, 0, 0, 0, 0), (796, .i2l, 1, 0, 0, 0, 0), (797, .lcmp, 1, 0, 0, 0, 0), (798, (.ifCond .eq 5), 3, 803, 0, 0, 0), (801, (.iconst 0), 1, 0, 0, 0, 0), (802, .ireturn, 1, 0, 0, 0, 0), (803, (.goto 987), 3, 1790, 0, 0, 0), (806, (.aload_n 1), 1, 0, 0, 0, 0), (807, (.aload_n 0), 1, 0, 0, 0, 0), (808, (.iload 4), 2, 0, 0, 0, 0), (810, (.iconst 1), 1, 0, 0, 0, 0), (811, .iadd, 1, 0, 0, 0, 0), (812, .iaload, 1, 0, 0, 0, 0), (813, (.aload_n 0), 1, 0, 0, 0, 0), (814, (.iload 4), 2, 0, 0, 0, 0), (816, (.iconst 2), 1, 0, 0, 0, 0), (817, .iadd, 1, 0, 0, 0, 0), (818, .iaload, 1, 0, 0, 0, 0), (819, (.aload_n 0), 1, 0, 0, 0, 0), (820, (.iload 4), 2, 0, 0, 0, 0), (822, (.iconst 3), 1, 0, 0, 0, 0), (823, .iadd, 1, 0, 0, 0, 0), (824, .iaload, 1, 0, 0, 0, 0), (825, (.ifCond .eq 7), 3, 832, 0, 0, 0), (828, (.iconst 1), 1, 0, 0, 0, 0), (829, (.goto 4), 3, 833, 0, 0, 0), (832, (.iconst 0), 1, 0, 0, 0, 0), (833, (.aload_n 3), 1, 0, 0, 0, 0), (834, (.invokestatic 139), 3, 59, 5, 0, 578), (837, (.istore 5), 2, 0, 0, 0, 0), (839, (.aload_n 2), 1, 0, 0, 0, 0), (840, (.aload_n 0), 1, 0, 0, 0, 0), (841, (.iload 4), 2, 0, 0, 0, 0), (843, (.iconst 1), 1, 0, 0, 0, 0), (844, .iadd, 1, 0, 0, 0, 0), (845, .iaload, 1, 0, 0, 0, 0), (846, (.aload_n 0), 1, 0, 0, 0, 0), (847, (.iload 4), 2, 0, 0, 0, 0)]
def c0_12 : List (Nat × En) := [(849, (.iconst 2), 1, 0, 0, 0, 0), (850, .iadd, 1, 0, 0, 0, 0), (851, .iaload, 1, 0, 0, 0, 0), (852, (.aload_n 0), 1, 0, 0, 0, 0), (853, (.iload 4), 2, 0, 0, 0, 0), (855, (.iconst 3), 1, 0, 0, 0, 0), (856, .iadd, 1, 0, 0, 0, 0), (857, .iaload, 1, 0, 0, 0, 0), (858, (.ifCond .eq 7), 3, 865, 0, 0, 0), (861, (.iconst 1), 1, 0, 0, 0, 0), (862, (.goto 4), 3, 866, 0, 0, 0), (865, (.iconst 0), 1, 0, 0, 0, 0), (866, (.invokevirtual 141), 3, 130, 3, 1, 935), (869, (.istore 6), 2, 0, 0, 0, 0), (871, (.aload_n 2), 1, 0, 0, 0, 0), (872, (.invokevirtual 107), 3, 115, 0, 1, 877), (875, (.iload 5), 2, 0, 0, 0, 0), (877, (.if_icmp .eq 5), 3, 882, 0, 0, 0), (880, (.iconst 0), 1, 0, 0, 0, 0), (881, .ireturn, 1, 0, 0, 0, 0), (882, (.iload 5), 2, 0, 0, 0, 0), (884, (.ifCond .ne 22), 3, 906, 0, 0, 0), (887, (.aload_n 3), 1, 0, 0, 0, 0), (888, (.iconst 0), 1, 0, 0, 0, 0), (889, .laload, 1, 0, 0, 0, 0), (890, (.iload 6), 2, 0, 0, 0, 0), (892, (.ifCond .eq 7), 3, 899, 0, 0, 0), (895, (.lconst 1), 1, 0, 0, 0, 0), (896, (.goto 4), 3, 900, 0, 0, 0), (899, (.lconst 0), 1, 0, 0, 0, 0), (900, .lcmp, 1, 0, 0, 0, 0), (901, (.ifCond .eq 5), 3, 906, 0, 0, 0), (904, (.iconst 0), 1, 0, 0, 0, 0), (905, .ireturn, 1, 0, 0, 0, 0), (906, (.goto 884), 3, 1790, 0, 0, 0), (909, (.aload_n 1), 1, 0, 0, 0, 0), (910, (.aload_n 0), 1, 0, 0, 0, 0), (911, (.iload 4), 2, 0, 0, 0, 0), (913, (.iconst 1), 1, 0, 0, 0, 0), (914, .iadd, 1, 0, 0, 0, 0)]
def c0_13 : List (Nat × En) := [(915, .iaload, 1, 0, 0, 0, 0), (916, (.aload_n 0), 1, 0, 0, 0, 0), (917, (.iload 4), 2, 0, 0, 0, 0), (919, (.iconst 2), 1, 0, 0, 0, 0), (920, .iadd, 1, 0, 0, 0, 0), (921, .iaload, 1, 0, 0, 0, 0), (922, (.aload_n 0), 1, 0, 0, 0, 0), (923, (.iload 4), 2, 0, 0, 0, 0), (925, (.iconst 3), 1, 0, 0, 0, 0), (926, .iadd, 1, 0, 0, 0, 0), (927, .iaload, 1, 0, 0, 0, 0), (928, (.invokestatic 142), 3, 61, 4, 0, 585), (931, (.istore 5), 2, 0, 0, 0, 0), (933, (.aload_n 2), 1, 0, 0, 0, 0), (934, (.aload_n 0), 1, 0, 0, 0, 0), (935, (.iload 4), 2, 0, 0, 0, 0), (937, (.iconst 1), 1, 0, 0, 0, 0), (938, .iadd, 1, 0, 0, 0, 0), (939, .iaload, 1, 0, 0, 0, 0), (940, (.aload_n 0), 1, 0, 0, 0, 0), (941, (.iload 4), 2, 0, 0, 0, 0), (943, (.iconst 2), 1, 0, 0, 0, 0), (944, .iadd, 1, 0, 0, 0, 0), (945, .iaload, 1, 0, 0, 0, 0), (946, (.aload_n 0), 1, 0, 0, 0, 0), (947, (.iload 4), 2, 0, 0, 0, 0), (949, (.iconst 3), 1, 0, 0, 0, 0), (950, .iadd, 1, 0, 0, 0, 0), (951, .iaload, 1, 0, 0, 0, 0), (952, (.invokevirtual 144), 3, 131, 3, 1, 939), (955, (.aload_n 2), 1, 0, 0, 0, 0), (956, (.invokevirtual 107), 3, 115, 0, 1, 877), (959, (.iload 5), 2, 0, 0, 0, 0), (961, (.if_icmp .eq 5), 3, 966, 0, 0, 0), (964, (.iconst 0), 1, 0, 0, 0, 0), (965, .ireturn, 1, 0, 0, 0, 0), (966, (.goto 824), 3, 1790, 0, 0, 0), (969, (.aload_n 1), 1, 0, 0, 0, 0), (970, (.aload_n 0), 1, 0, 0, 0, 0), (971, (.iload 4), 2, 0, 0, 0, 0)]
def c0_14 : List (Nat × En) := [(973, (.iconst 1), 1, 0, 0, 0, 0), (974, .iadd, 1, 0, 0, 0, 0), (975, .iaload, 1, 0, 0, 0, 0), (976, (.aload_n 3), 1, 0, 0, 0, 0), (977, (.invokestatic 145), 3, 63, 3, 0, 592), (980, (.istore 5), 2, 0, 0, 0, 0), (982, (.aload_n 2), 1, 0, 0, 0, 0), (983, (.aload_n 0), 1, 0, 0, 0, 0), (984, (.iload 4), 2, 0, 0, 0, 0), (986, (.iconst 1), 1, 0, 0, 0, 0), (987, .iadd, 1, 0, 0, 0, 0), (988, .iaload, 1, 0, 0, 0, 0), (989, (.invokevirtual 147), 3, 132, 1, 1, 943), (992, (.istore 6), 2, 0, 0, 0, 0), (994, (.aload_n 2), 1, 0, 0, 0, 0), (995, (.invokevirtual 107), 3, 115, 0, 1, 877), (998, (.iload 5), 2, 0, 0, 0, 0), (1000, (.if_icmp .eq 5), 3, 1005, 0, 0, 0), (1003, (.iconst 0), 1, 0, 0, 0, 0), (1004, .ireturn, 1, 0, 0, 0, 0), (1005, (.iload 5), 2, 0, 0, 0, 0), (1007, (.ifCond .ne 15), 3, 1022, 0, 0, 0), (1010, (.aload_n 3), 1, 0, 0, 0, 0), (1011, (.iconst 0), 1, 0, 0, 0, 0), (1012, .laload, 1, 0, 0, 0, 0), (1013, (.iload 6), 2, 0, 0, 0, 0), (1015, .i2l, 1, 0, 0, 0, 0), (1016, .lcmp, 1, 0, 0, 0, 0), (1017, (.ifCond .eq 5), 3, 1022, 0, 0, 0), (1020, (.iconst 0), 1, 0, 0, 0, 0), (1021, .ireturn, 1, 0, 0, 0, 0), (1022, (.goto 768), 3, 1790, 0, 0, 0), (1025, (.aload_n 1), 1, 0, 0, 0, 0), (1026, (.aload_n 0), 1, 0, 0, 0, 0), (1027, (.iload 4), 2, 0, 0, 0, 0), (1029, (.iconst 1), 1, 0, 0, 0, 0), (1030, .iadd, 1, 0, 0, 0, 0), (1031, .iaload, 1, 0, 0, 0, 0), (1032, (.aload_n 3), 1, 0, 0, 0, 0), (1033, (.invokestatic 148), 3, 65, 3, 0, 599)]
def c0_15 : List (Nat × En) := [(1036, (.istore 5), 2, 0, 0, 0, 0), (1038, (.aload_n 2), 1, 0, 0, 0, 0), (1039, (.aload_n 0), 1, 0, 0, 0, 0), (1040, (.iload 4), 2, 0, 0, 0, 0), (1042, (.iconst 1), 1, 0, 0, 0, 0), (1043, .iadd, 1, 0, 0, 0, 0), (1044, .iaload, 1, 0, 0, 0, 0), (1045, (.invokevirtual 150), 3, 133, 1, 1, 947), (1048, (.istore 6), 2, 0, 0, 0, 0), (1050, (.aload_n 2), 1, 0, 0, 0, 0), (1051, (.invokevirtual 107), 3, 115, 0, 1, 877), (1054, (.iload 5), 2, 0, 0, 0, 0), (1056, (.if_icmp .eq 5), 3, 1061, 0, 0, 0), (1059, (.iconst 0), 1, 0, 0, 0, 0), (1060, .ireturn, 1, 0, 0, 0, 0), (1061, (.iload 5), 2, 0, 0, 0, 0), (1063, (.ifCond .ne 15), 3, 1078, 0, 0, 0), (1066, (.aload_n 3), 1, 0, 0, 0, 0), (1067, (.iconst 0), 1, 0, 0, 0, 0), (1068, .laload, 1, 0, 0, 0, 0), (1069, (.iload 6), 2, 0, 0, 0, 0), (1071, .i2l, 1, 0, 0, 0, 0), (1072, .lcmp, 1, 0, 0, 0, 0), (1073, (.ifCond .eq 5), 3, 1078, 0, 0, 0), (1076, (.iconst 0), 1, 0, 0, 0, 0), (1077, .ireturn, 1, 0, 0, 0, 0), (1078, (.goto 712), 3, 1790, 0, 0, 0), (1081, (.aload_n 1), 1, 0, 0, 0, 0), (1082, (.aload_n 0), 1, 0, 0, 0, 0), (1083, (.iload 4), 2, 0, 0, 0, 0), (1085, (.iconst 1), 1, 0, 0, 0, 0), (1086, .iadd, 1, 0, 0, 0, 0), (1087, .iaload, 1, 0, 0, 0, 0), (1088, (.aload_n 0), 1, 0, 0, 0, 0), (1089, (.iload 4), 2, 0, 0, 0, 0), (1091, (.iconst 2), 1, 0, 0, 0, 0), (1092, .iadd, 1, 0, 0, 0, 0), (1093, .iaload, 1, 0, 0, 0, 0), (1094, (.aload_n 0), 1, 0, 0, 0, 0), (1095, (.iload 4), 2, 0, 0, 0, 0)]
def c0_16 : List (Nat × En) := [(1097, (.iconst 3), 1, 0, 0, 0, 0), (1098, .iadd, 1, 0, 0, 0, 0), (1099, .iaload, 1, 0, 0, 0, 0), (1100, (.aload_n 3), 1, 0, 0, 0, 0), (1101, (.invokestatic 151), 3, 67, 5, 0, 606), (1104, (.istore 5), 2, 0, 0, 0, 0), (1106, (.aload_n 2), 1, 0, 0, 0, 0), (1107, (.aload_n 0), 1, 0, 0, 0, 0), (1108, (.iload 4), 2, 0, 0, 0, 0), (1110, (.iconst 1), 1, 0, 0, 0, 0), (1111, .iadd, 1, 0, 0, 0, 0), (1112, .iaload, 1, 0, 0, 0, 0), (1113, (.aload_n 0), 1, 0, 0, 0, 0), (1114, (.iload 4), 2, 0, 0, 0, 0), (1116, (.iconst 2), 1, 0, 0, 0, 0), (1117, .iadd, 1, 0, 0, 0, 0), (1118, .iaload, 1, 0, 0, 0, 0), (1119, (.aload_n 0), 1, 0, 0, 0, 0), (1120, (.iload 4), 2, 0, 0, 0, 0), (1122, (.iconst 3), 1, 0, 0, 0, 0), (1123, .iadd, 1, 0, 0, 0, 0), (1124, .iaload, 1, 0, 0, 0, 0), (1125, (.invokevirtual 153), 3, 134, 3, 1, 951), (1128, (.istore 6), 2, 0, 0, 0, 0), (1130, (.aload_n 2), 1, 0, 0, 0, 0), (1131, (.invokevirtual 107), 3, 115, 0, 1, 877), (1134, (.iload 5), 2, 0, 0, 0, 0), (1136, (.if_icmp .eq 5), 3, 1141, 0, 0, 0), (1139, (.iconst 0), 1, 0, 0, 0, 0), (1140, .ireturn, 1, 0, 0, 0, 0), (1141, (.iload 5), 2, 0, 0, 0, 0), (1143, (.ifCond .ne 15), 3, 1158, 0, 0, 0), (1146, (.aload_n 3), 1, 0, 0, 0, 0), (1147, (.iconst 0), 1, 0, 0, 0, 0), (1148, .laload, 1, 0, 0, 0, 0), (1149, (.iload 6), 2, 0, 0, 0, 0), (1151, .i2l, 1, 0, 0, 0, 0), (1152, .lcmp, 1, 0, 0, 0, 0), (1153, (.ifCond .eq 5), 3, 1158, 0, 0, 0), (1156, (.iconst 0), 1, 0, 0, 0, 0)]
def c0_17 : List (Nat × En) := [(1157, .ireturn, 1, 0, 0, 0, 0), (1158, (.goto 632), 3, 1790, 0, 0, 0), (1161, (.aload_n 1), 1, 0, 0, 0, 0), (1162, (.aload_n 0), 1, 0, 0, 0, 0), (1163, (.iload 4), 2, 0, 0, 0, 0), (1165, (.iconst 1), 1, 0, 0, 0, 0), (1166, .iadd, 1, 0, 0, 0, 0), (1167, .iaload, 1, 0, 0, 0, 0), (1168, (.aload_n 3), 1, 0, 0, 0, 0), (1169, (.invokestatic 154), 3, 71, 3, 0, 620), (1172, (.istore 5), 2, 0, 0, 0, 0), (1174, (.aload_n 2), 1, 0, 0, 0, 0), (1175, (.aload_n 0), 1, 0, 0, 0, 0), (1176, (.iload 4), 2, 0, 0, 0, 0), (1178, (.iconst 1), 1, 0, 0, 0, 0), (1179, .iadd, 1, 0, 0, 0, 0), (1180, .iaload, 1, 0, 0, 0, 0), (1181, (.invokevirtual 156), 3, 136, 1, 1, 959), (1184, (.istore 6), 2, 0, 0, 0, 0), (1186, (.aload_n 2), 1, 0, 0, 0, 0), (1187, (.invokevirtual 107), 3, 115, 0, 1, 877), (1190, (.iload 5), 2, 0, 0, 0, 0), (1192, (.if_icmp .eq 5), 3, 1197, 0, 0, 0), (1195, (.iconst 0), 1, 0, 0, 0, 0), (1196, .ireturn, 1, 0, 0, 0, 0), (1197, (.iload 5), 2, 0, 0, 0, 0), (1199, (.ifCond .ne 15), 3, 1214, 0, 0, 0), (1202, (.aload_n 3), 1, 0, 0, 0, 0), (1203, (.iconst 0), 1, 0, 0, 0, 0), (1204, .laload, 1, 0, 0, 0, 0), (1205, (.iload 6), 2, 0, 0, 0, 0), (1207, .i2l, 1, 0, 0, 0, 0), (1208, .lcmp, 1, 0, 0, 0, 0), (1209, (.ifCond .eq 5), 3, 1214, 0, 0, 0), (1212, (.iconst 0), 1, 0, 0, 0, 0), (1213, .ireturn, 1, 0, 0, 0, 0), (1214, (.goto 576), 3, 1790, 0, 0, 0), (1217, (.aload_n 1), 1, 0, 0, 0, 0), (1218, (.aload_n 0), 1, 0, 0, 0, 0), (1219, (.iload 4), 2, 0, 0, 0, 0)]
def c0_18 : List (Nat × En) := [(1221, (.iconst 1), 1, 0, 0, 0, 0), (1222, .iadd, 1, 0, 0, 0, 0), (1223, .iaload, 1, 0, 0, 0, 0), (1224, (.aload_n 3), 1, 0, 0, 0, 0), (1225, (.invokestatic 157), 3, 81, 3, 0, 664), (1228, (.istore 5), 2, 0, 0, 0, 0), (1230, (.aload_n 2), 1, 0, 0, 0, 0), (1231, (.aload_n 0), 1, 0, 0, 0, 0), (1232, (.iload 4), 2, 0, 0, 0, 0), (1234, (.iconst 1), 1, 0, 0, 0, 0), (1235, .iadd, 1, 0, 0, 0, 0), (1236, .iaload, 1, 0, 0, 0, 0), (1237, (.invokevirtual 159), 3, 150, 1, 1, 1015), (1240, (.istore 6), 2, 0, 0, 0, 0), (1242, (.aload_n 2), 1, 0, 0, 0, 0), (1243, (.invokevirtual 107), 3, 115, 0, 1, 877), (1246, (.iload 5), 2, 0, 0, 0, 0), (1248, (.if_icmp .eq 5), 3, 1253, 0, 0, 0), (1251, (.iconst 0), 1, 0, 0, 0, 0), (1252, .ireturn, 1, 0, 0, 0, 0), (1253, (.iload 5), 2, 0, 0, 0, 0), (1255, (.ifCond .ne 15), 3, 1270, 0, 0, 0), (1258, (.aload_n 3), 1, 0, 0, 0, 0), (1259, (.iconst 0), 1, 0, 0, 0, 0), (1260, .laload, 1, 0, 0, 0, 0), (1261, (.iload 6), 2, 0, 0, 0, 0), (1263, .i2l, 1, 0, 0, 0, 0), (1264, .lcmp, 1, 0, 0, 0, 0), (1265, (.ifCond .eq 5), 3, 1270, 0, 0, 0), (1268, (.iconst 0), 1, 0, 0, 0, 0), (1269, .ireturn, 1, 0, 0, 0, 0), (1270, (.goto 520), 3, 1790, 0, 0, 0), (1273, (.aload_n 1), 1, 0, 0, 0, 0), (1274, (.aload_n 0), 1, 0, 0, 0, 0), (1275, (.iload 4), 2, 0, 0, 0, 0), (1277, (.iconst 1), 1, 0, 0, 0, 0), (1278, .iadd, 1, 0, 0, 0, 0), (1279, .iaload, 1, 0, 0, 0, 0), (1280, (.aload_n 3), 1, 0, 0, 0, 0), (1281, (.invokestatic 160), 3, 84, 3, 0, 675)]
def c0_19 : List (Nat × En) := [(1284, (.istore 5), 2, 0, 0, 0, 0), (1286, (.aload_n 2), 1, 0, 0, 0, 0), (1287, (.aload_n 0), 1, 0, 0, 0, 0), (1288, (.iload 4), 2, 0, 0, 0, 0), (1290, (.iconst 1), 1, 0, 0, 0, 0), (1291, .iadd, 1, 0, 0, 0, 0), (1292, .iaload, 1, 0, 0, 0, 0), (1293, (.invokevirtual 162), 3, 151, 1, 1, 1019), (1296, (.istore 6), 2, 0, 0, 0, 0), (1298, (.aload_n 2), 1, 0, 0, 0, 0), (1299, (.invokevirtual 107), 3, 115, 0, 1, 877), (1302, (.iload 5), 2, 0, 0, 0, 0), (1304, (.if_icmp .eq 5), 3, 1309, 0, 0, 0), (1307, (.iconst 0), 1, 0, 0, 0, 0), (1308, .ireturn, 1, 0, 0, 0, 0), (1309, (.iload 5), 2, 0, 0, 0, 0), (1311, (.ifCond .ne 15), 3, 1326, 0, 0, 0), (1314, (.aload_n 3), 1, 0, 0, 0, 0), (1315, (.iconst 0), 1, 0, 0, 0, 0), (1316, .laload, 1, 0, 0, 0, 0), (1317, (.iload 6), 2, 0, 0, 0, 0), (1319, .i2l, 1, 0, 0, 0, 0), (1320, .lcmp, 1, 0, 0, 0, 0), (1321, (.ifCond .eq 5), 3, 1326, 0, 0, 0), (1324, (.iconst 0), 1, 0, 0, 0, 0), (1325, .ireturn, 1, 0, 0, 0, 0), (1326, (.goto 464), 3, 1790, 0, 0, 0), (1329, (.aload_n 1), 1, 0, 0, 0, 0), (1330, (.aload_n 0), 1, 0, 0, 0, 0), (1331, (.iload 4), 2, 0, 0, 0, 0), (1333, (.iconst 1), 1, 0, 0, 0, 0), (1334, .iadd, 1, 0, 0, 0, 0), (1335, .iaload, 1, 0, 0, 0, 0), (1336, (.aload_n 0), 1, 0, 0, 0, 0), (1337, (.iload 4), 2, 0, 0, 0, 0), (1339, (.iconst 2), 1, 0, 0, 0, 0), (1340, .iadd, 1, 0, 0, 0, 0), (1341, .iaload, 1, 0, 0, 0, 0), (1342, (.aload_n 3), 1, 0, 0, 0, 0), (1343, (.invokestatic 163), 3, 86, 4, 0, 682)]
def c0_20 : List (Nat × En) := [(1346, (.istore 5), 2, 0, 0, 0, 0), (1348, (.aload_n 2), 1, 0, 0, 0, 0), (1349, (.aload_n 0), 1, 0, 0, 0, 0), (1350, (.iload 4), 2, 0, 0, 0, 0), (1352, (.iconst 1), 1, 0, 0, 0, 0), (1353, .iadd, 1, 0, 0, 0, 0), (1354, .iaload, 1, 0, 0, 0, 0), (1355, (.aload_n 0), 1, 0, 0, 0, 0), (1356, (.iload 4), 2, 0, 0, 0, 0), (1358, (.iconst 2), 1, 0, 0, 0, 0), (1359, .iadd, 1, 0, 0, 0, 0), (1360, .iaload, 1, 0, 0, 0, 0), (1361, (.invokevirtual 165), 3, 152, 2, 1, 1023), (1364, (.istore 6), 2, 0, 0, 0, 0), (1366, (.aload_n 2), 1, 0, 0, 0, 0), (1367, (.invokevirtual 107), 3, 115, 0, 1, 877), (1370, (.iload 5), 2, 0, 0, 0, 0), (1372, (.if_icmp .eq 5), 3, 1377, 0, 0, 0), (1375, (.iconst 0), 1, 0, 0, 0, 0), (1376, .ireturn, 1, 0, 0, 0, 0), (1377, (.iload 5), 2, 0, 0, 0, 0), (1379, (.ifCond .ne 15), 3, 1394, 0, 0, 0), (1382, (.aload_n 3), 1, 0, 0, 0, 0), (1383, (.iconst 0), 1, 0, 0, 0, 0), (1384, .laload, 1, 0, 0, 0, 0), (1385, (.iload 6), 2, 0, 0, 0, 0), (1387, .i2l, 1, 0, 0, 0, 0), (1388, .lcmp, 1, 0, 0, 0, 0), (1389, (.ifCond .eq 5), 3, 1394, 0, 0, 0), (1392, (.iconst 0), 1, 0, 0, 0, 0), (1393, .ireturn, 1, 0, 0, 0, 0), (1394, (.goto 396), 3, 1790, 0, 0, 0), (1397, (.aload_n 1), 1, 0, 0, 0, 0), (1398, (.aload_n 3), 1, 0, 0, 0, 0), (1399, (.invokestatic 166), 3, 88, 2, 0, 689), (1402, (.istore 5), 2, 0, 0, 0, 0), (1404, (.aload_n 2), 1, 0, 0, 0, 0), (1405, (.invokevirtual 169), 3, 153, 0, 1, 1027), (1408, (.istore 6), 2, 0, 0, 0, 0), (1410, (.aload_n 2), 1, 0, 0, 0, 0)]
def c0_21 : List (Nat × En) := [(1411, (.invokevirtual 107), 3, 115, 0, 1, 877), (1414, (.iload 5), 2, 0, 0, 0, 0), (1416, (.if_icmp .eq 5), 3, 1421, 0, 0, 0), (1419, (.iconst 0), 1, 0, 0, 0, 0), (1420, .ireturn, 1, 0, 0, 0, 0), (1421, (.iload 5), 2, 0, 0, 0, 0), (1423, (.ifCond .ne 15), 3, 1438, 0, 0, 0), (1426, (.aload_n 3), 1, 0, 0, 0, 0), (1427, (.iconst 0), 1, 0, 0, 0, 0), (1428, .laload, 1, 0, 0, 0, 0), (1429, (.iload 6), 2, 0, 0, 0, 0), (1431, .i2l, 1, 0, 0, 0, 0), (1432, .lcmp, 1, 0, 0, 0, 0), (1433, (.ifCond .eq 5), 3, 1438, 0, 0, 0), (1436, (.iconst 0), 1, 0, 0, 0, 0), (1437, .ireturn, 1, 0, 0, 0, 0), (1438, (.goto 352), 3, 1790, 0, 0, 0), (1441, (.aload_n 1), 1, 0, 0, 0, 0), (1442, (.aload_n 0), 1, 0, 0, 0, 0), (1443, (.iload 4), 2, 0, 0, 0, 0), (1445, (.iconst 1), 1, 0, 0, 0, 0), (1446, .iadd, 1, 0, 0, 0, 0), (1447, .iaload, 1, 0, 0, 0, 0), (1448, (.aload_n 3), 1, 0, 0, 0, 0), (1449, (.invokestatic 170), 3, 92, 3, 0, 705), (1452, (.istore 5), 2, 0, 0, 0, 0), (1454, (.aload_n 2), 1, 0, 0, 0, 0), (1455, (.aload_n 0), 1, 0, 0, 0, 0), (1456, (.iload 4), 2, 0, 0, 0, 0), (1458, (.iconst 1), 1, 0, 0, 0, 0), (1459, .iadd, 1, 0, 0, 0, 0), (1460, .iaload, 1, 0, 0, 0, 0), (1461, (.invokevirtual 172), 3, 154, 1, 1, 1031), (1464, (.istore 6), 2, 0, 0, 0, 0), (1466, (.aload_n 2), 1, 0, 0, 0, 0), (1467, (.invokevirtual 107), 3, 115, 0, 1, 877), (1470, (.iload 5), 2, 0, 0, 0, 0), (1472, (.if_icmp .eq 5), 3, 1477, 0, 0, 0), (1475, (.iconst 0), 1, 0, 0, 0, 0), (1476, .ireturn, 1, 0, 0, 0, 0)]
def c0_22 : List (Nat × En) := [(1477, (.iload 5), 2, 0, 0, 0, 0), (1479, (.ifCond .ne 15), 3, 1494, 0, 0, 0), (1482, (.aload_n 3), 1, 0, 0, 0, 0), (1483, (.iconst 0), 1, 0, 0, 0, 0), (1484, .laload, 1, 0, 0, 0, 0), (1485, (.iload 6), 2, 0, 0, 0, 0), (1487, .i2l, 1, 0, 0, 0, 0), (1488, .lcmp, 1, 0, 0, 0, 0), (1489, (.ifCond .eq 5), 3, 1494, 0, 0, 0), (1492, (.iconst 0), 1, 0, 0, 0, 0), (1493, .ireturn, 1, 0, 0, 0, 0), (1494, (.goto 296), 3, 1790, 0, 0, 0), (1497, (.aload_n 1), 1, 0, 0, 0, 0), (1498, (.invokevirtual 173), 3, 16, 0, 1, 310), (1501, (.aload_n 2), 1, 0, 0, 0, 0), (1502, (.invokevirtual 176), 3, 158, 0, 1, 1047), (1505, (.if_icmp .eq 285), 3, 1790, 0, 0, 0), (1508, (.iconst 0), 1, 0, 0, 0, 0), (1509, .ireturn, 1, 0, 0, 0, 0), (1510, (.aload_n 1), 1, 0, 0, 0, 0), (1511, (.aload_n 3), 1, 0, 0, 0, 0), (1512, (.invokestatic 177), 3, 97, 2, 0, 728), (1515, (.istore 5), 2, 0, 0, 0, 0), (1517, (.aload_n 2), 1, 0, 0, 0, 0), (1518, (.invokevirtual 179), 3, 159, 0, 1, 1051), (1521, (.istore 6), 2, 0, 0, 0, 0), (1523, (.aload_n 2), 1, 0, 0, 0, 0), (1524, (.invokevirtual 107), 3, 115, 0, 1, 877), (1527, (.iload 5), 2, 0, 0, 0, 0), (1529, (.if_icmp .eq 5), 3, 1534, 0, 0, 0), (1532, (.iconst 0), 1, 0, 0, 0, 0), (1533, .ireturn, 1, 0, 0, 0, 0), (1534, (.iload 5), 2, 0, 0, 0, 0), (1536, (.ifCond .ne 15), 3, 1551, 0, 0, 0), (1539, (.aload_n 3), 1, 0, 0, 0, 0), (1540, (.iconst 0), 1, 0, 0, 0, 0), (1541, .laload, 1, 0, 0, 0, 0), (1542, (.iload 6), 2, 0, 0, 0, 0), (1544, .i2l, 1, 0, 0, 0, 0), (1545, .lcmp, 1, 0, 0, 0, 0)]
def c0_23 : List (Nat × En) := [(1546, (.ifCond .eq 5), 3, 1551, 0, 0, 0), (1549, (.iconst 0), 1, 0, 0, 0, 0), (1550, .ireturn, 1, 0, 0, 0, 0), (1551, (.goto 239), 3, 1790, 0, 0, 0), (1554, (.aload_n 1), 1, 0, 0, 0, 0), (1555, (.aload_n 3), 1, 0, 0, 0, 0), (1556, (.invokestatic 180), 3, 100, 2, 0, 741), (1559, (.istore 5), 2, 0, 0, 0, 0), (1561, (.aload_n 2), 1, 0, 0, 0, 0), (1562, (.invokevirtual 182), 3, 160, 0, 1, 1055), (1565, (.istore 6), 2, 0, 0, 0, 0), (1567, (.aload_n 2), 1, 0, 0, 0, 0), (1568, (.invokevirtual 107), 3, 115, 0, 1, 877), (1571, (.iload 5), 2, 0, 0, 0, 0), (1573, (.if_icmp .eq 5), 3, 1578, 0, 0, 0), (1576, (.iconst 0), 1, 0, 0, 0, 0), (1577, .ireturn, 1, 0, 0, 0, 0), (1578, (.iload 5), 2, 0, 0, 0, 0), (1580, (.ifCond .ne 15), 3, 1595, 0, 0, 0), (1583, (.aload_n 3), 1, 0, 0, 0, 0), (1584, (.iconst 0), 1, 0, 0, 0, 0), (1585, .laload, 1, 0, 0, 0, 0), (1586, (.iload 6), 2, 0, 0, 0, 0), (1588, .i2l, 1, 0, 0, 0, 0), (1589, .lcmp, 1, 0, 0, 0, 0), (1590, (.ifCond .eq 5), 3, 1595, 0, 0, 0), (1593, (.iconst 0), 1, 0, 0, 0, 0), (1594, .ireturn, 1, 0, 0, 0, 0), (1595, (.goto 195), 3, 1790, 0, 0, 0), (1598, (.aload_n 1), 1, 0, 0, 0, 0), (1599, (.aload_n 0), 1, 0, 0, 0, 0), (1600, (.iload 4), 2, 0, 0, 0, 0), (1602, (.iconst 1), 1, 0, 0, 0, 0), (1603, .iadd, 1, 0, 0, 0, 0), (1604, .iaload, 1, 0, 0, 0, 0), (1605, (.aload_n 0), 1, 0, 0, 0, 0), (1606, (.iload 4), 2, 0, 0, 0, 0), (1608, (.iconst 2), 1, 0, 0, 0, 0), (1609, .iadd, 1, 0, 0, 0, 0), (1610, .iaload, 1, 0, 0, 0, 0)]
def c0_24 : List (Nat × En) := [(1611, (.aload_n 0), 1, 0, 0, 0, 0), (1612, (.iload 4), 2, 0, 0, 0, 0), (1614, (.iconst 3), 1, 0, 0, 0, 0), (1615, .iadd, 1, 0, 0, 0, 0), (1616, .iaload, 1, 0, 0, 0, 0), (1617, (.aload_n 3), 1, 0, 0, 0, 0), (1618, (.invokestatic 183), 3, 103, 5, 0, 753), (1621, (.istore 5), 2, 0, 0, 0, 0), (1623, (.aload_n 2), 1, 0, 0, 0, 0), (1624, (.aload_n 0), 1, 0, 0, 0, 0), (1625, (.iload 4), 2, 0, 0, 0, 0), (1627, (.iconst 1), 1, 0, 0, 0, 0), (1628, .iadd, 1, 0, 0, 0, 0), (1629, .iaload, 1, 0, 0, 0, 0), (1630, (.aload_n 0), 1, 0, 0, 0, 0), (1631, (.iload 4), 2, 0, 0, 0, 0), (1633, (.iconst 2), 1, 0, 0, 0, 0), (1634, .iadd, 1, 0, 0, 0, 0), (1635, .iaload, 1, 0, 0, 0, 0), (1636, (.aload_n 0), 1, 0, 0, 0, 0), (1637, (.iload 4), 2, 0, 0, 0, 0), (1639, (.iconst 3), 1, 0, 0, 0, 0), (1640, .iadd, 1, 0, 0, 0, 0), (1641, .iaload, 1, 0, 0, 0, 0), (1642, (.invokevirtual 185), 3, 161, 3, 1, 1059), (1645, (.istore 6), 2, 0, 0, 0, 0), (1647, (.aload_n 2), 1, 0, 0, 0, 0), (1648, (.invokevirtual 107), 3, 115, 0, 1, 877), (1651, (.iload 5), 2, 0, 0, 0, 0), (1653, (.if_icmp .eq 5), 3, 1658, 0, 0, 0), (1656, (.iconst 0), 1, 0, 0, 0, 0), (1657, .ireturn, 1, 0, 0, 0, 0), (1658, (.iload 5), 2, 0, 0, 0, 0), (1660, (.ifCond .ne 15), 3, 1675, 0, 0, 0), (1663, (.aload_n 3), 1, 0, 0, 0, 0), (1664, (.iconst 0), 1, 0, 0, 0, 0), (1665, .laload, 1, 0, 0, 0, 0), (1666, (.iload 6), 2, 0, 0, 0, 0), (1668, .i2l, 1, 0, 0, 0, 0), (1669, .lcmp, 1, 0, 0, 0, 0)]
def c0_25 : List (Nat × En) := [(1670, (.ifCond .eq 5), 3, 1675, 0, 0, 0), (1673, (.iconst 0), 1, 0, 0, 0, 0), (1674, .ireturn, 1, 0, 0, 0, 0), (1675, (.goto 115), 3, 1790, 0, 0, 0), (1678, (.aload_n 1), 1, 0, 0, 0, 0), (1679, (.aload_n 0), 1, 0, 0, 0, 0), (1680, (.iload 4), 2, 0, 0, 0, 0), (1682, (.iconst 1), 1, 0, 0, 0, 0), (1683, .iadd, 1, 0, 0, 0, 0), (1684, .iaload, 1, 0, 0, 0, 0), (1685, (.aload_n 3), 1, 0, 0, 0, 0), (1686, (.invokestatic 186), 3, 105, 3, 0, 761), (1689, (.istore 5), 2, 0, 0, 0, 0), (1691, (.aload_n 2), 1, 0, 0, 0, 0), (1692, (.aload_n 0), 1, 0, 0, 0, 0), (1693, (.iload 4), 2, 0, 0, 0, 0), (1695, (.iconst 1), 1, 0, 0, 0, 0), (1696, .iadd, 1, 0, 0, 0, 0), (1697, .iaload, 1, 0, 0, 0, 0), (1698, (.invokevirtual 188), 3, 163, 1, 1, 1067), (1701, (.istore 6), 2, 0, 0, 0, 0), (1703, (.aload_n 2), 1, 0, 0, 0, 0), (1704, (.invokevirtual 107), 3, 115, 0, 1, 877), (1707, (.iload 5), 2, 0, 0, 0, 0), (1709, (.if_icmp .eq 5), 3, 1714, 0, 0, 0), (1712, (.iconst 0), 1, 0, 0, 0, 0), (1713, .ireturn, 1, 0, 0, 0, 0), (1714, (.iload 5), 2, 0, 0, 0, 0), (1716, (.ifCond .ne 15), 3, 1731, 0, 0, 0), (1719, (.aload_n 3), 1, 0, 0, 0, 0), (1720, (.iconst 0), 1, 0, 0, 0, 0), (1721, .laload, 1, 0, 0, 0, 0), (1722, (.iload 6), 2, 0, 0, 0, 0), (1724, .i2l, 1, 0, 0, 0, 0), (1725, .lcmp, 1, 0, 0, 0, 0), (1726, (.ifCond .eq 5), 3, 1731, 0, 0, 0), (1729, (.iconst 0), 1, 0, 0, 0, 0), (1730, .ireturn, 1, 0, 0, 0, 0), (1731, (.goto 59), 3, 1790, 0, 0, 0), (1734, (.aload_n 1), 1, 0, 0, 0, 0)]
def c0_26 : List (Nat × En) := [(1735, (.aload_n 0), 1, 0, 0, 0, 0), (1736, (.iload 4), 2, 0, 0, 0, 0), (1738, (.iconst 1), 1, 0, 0, 0, 0), (1739, .iadd, 1, 0, 0, 0, 0), (1740, .iaload, 1, 0, 0, 0, 0), (1741, (.aload_n 3), 1, 0, 0, 0, 0), (1742, (.invokestatic 189), 3, 110, 3, 0, 782), (1745, (.istore 5), 2, 0, 0, 0, 0), (1747, (.aload_n 2), 1, 0, 0, 0, 0), (1748, (.aload_n 0), 1, 0, 0, 0, 0), (1749, (.iload 4), 2, 0, 0, 0, 0), (1751, (.iconst 1), 1, 0, 0, 0, 0), (1752, .iadd, 1, 0, 0, 0, 0), (1753, .iaload, 1, 0, 0, 0, 0), (1754, (.invokevirtual 191), 3, 164, 1, 1, 1071), (1757, (.istore 6), 2, 0, 0, 0, 0), (1759, (.aload_n 2), 1, 0, 0, 0, 0), (1760, (.invokevirtual 107), 3, 115, 0, 1, 877), (1763, (.iload 5), 2, 0, 0, 0, 0), (1765, (.if_icmp .eq 5), 3, 1770, 0, 0, 0), (1768, (.iconst 0), 1, 0, 0, 0, 0), (1769, .ireturn, 1, 0, 0, 0, 0), (1770, (.iload 5), 2, 0, 0, 0, 0), (1772, (.ifCond .ne 15), 3, 1787, 0, 0, 0), (1775, (.aload_n 3), 1, 0, 0, 0, 0), (1776, (.iconst 0), 1, 0, 0, 0, 0), (1777, .laload, 1, 0, 0, 0, 0), (1778, (.iload 6), 2, 0, 0, 0, 0), (1780, .i2l, 1, 0, 0, 0, 0), (1781, .lcmp, 1, 0, 0, 0, 0), (1782, (.ifCond .eq 5), 3, 1787, 0, 0, 0), (1785, (.iconst 0), 1, 0, 0, 0, 0), (1786, .ireturn, 1, 0, 0, 0, 0), (1787, (.goto 3), 3, 1790, 0, 0, 0), (1790, (.iinc 4 4), 3, 0, 0, 0, 0), (1793, (.goto (-1770)), 3, 23, 0, 0, 0), (1796, (.iconst 1), 1, 0, 0, 0, 0), (1797, .ireturn, 1, 0, 0, 0, 0)]
def c0 : List (Nat × En) := c0_0 ++ (c0_1 ++ (c0_2 ++ (c0_3 ++ (c0_4 ++ (c0_5 ++ (c0_6 ++ (c0_7 ++ (c0_8 ++ (c0_9 ++ (c0_10 ++ (c0_11 ++ (c0_12 ++ (c0_13 ++ (c0_14 ++ (c0_15 ++ (c0_16 ++ (c0_17 ++ (c0_18 ++ (c0_19 ++ (c0_20 ++ (c0_21 ++ (c0_22 ++ (c0_23 ++ (c0_24 ++ (c0_25 ++ (c0_26))))))))))))))))))))))))))
def c1 : List (Nat × En) := [(0, (.aload_n 0), 1, 0, 0, 0, 0), (1, (.invokespecial 1), 3, 9001, 0, 2, 65), (4, (.aload_n 0), 1, 0, 0, 0, 0), (5, (.new 7), 3, 2, 14, 0, 68), (8, .dup, 1, 0, 0, 0, 0), (9, (.invokespecial 9), 3, 2, 0, 2, 70), (12, (.putfield 10), 3, 0, 0, 2, 297), (15, (.aload_n 0), 1, 0, 0, 0, 0), (16, (.new 16), 3, 7, 3, 0, 206), (19, .dup, 1, 0, 0, 0, 0), (20, (.invokespecial 18), 3, 7, 0, 6, 208), (23, (.putfield 19), 3, 0, 1, 2, 298), (26, (.aload_n 0), 1, 0, 0, 0, 0), (27, (.new 23), 3, 1, 3, 0, 223), (30, .dup, 1, 0, 0, 0, 0), (31, (.invokespecial 25), 3, 8, 0, 2, 225), (34, (.putfield 26), 3, 0, 2, 2, 299), (37, (.aload_n 0), 1, 0, 0, 0, 0), (38, (.new 30), 3, 6, 2, 0, 271), (41, .dup, 1, 0, 0, 0, 0), (42, (.invokespecial 32), 3, 4, 0, 6, 272), (45, (.putfield 33), 3, 0, 3, 2, 300), (48, (.aload_n 0), 1, 0, 0, 0, 0), (49, (.getfield 10), 3, 0, 0, 2, 297), (52, (.bipush 26), 2, 0, 0, 0, 0), (54, (.invokevirtual 37), 3, 10, 1, 1, 273), (57, .return_, 1, 0, 0, 0, 0)]
def c2_0 : List (Nat × En) := [(0, (.aload_n 0), 1, 0, 0, 0, 0), (1, (.invokespecial 3), 3, 9001, 0, 2, 73), (4, (.aload_n 0), 1, 0, 0, 0, 0), (5, (.bipush 8), 2, 0, 0, 0, 0), (7, (.anewarray 9), 3, 5, 75, 0, 74), (10, (.putfield 11), 3, 2, 0, 2, 151), (13, (.aload_n 0), 1, 0, 0, 0, 0), (14, (.bipush 6), 2, 0, 0, 0, 0), (16, (.newarray .int), 2, 0, 0, 0, 0), (18, (.putfield 17), 3, 2, 1, 2, 153), (21, (.aload_n 0), 1, 0, 0, 0, 0), (22, (.bipush 6), 2, 0, 0, 0, 0), (24, (.newarray .int), 2, 0, 0, 0, 0), (26, (.putfield 21), 3, 2, 2, 2, 154), (29, (.aload_n 0), 1, 0, 0, 0, 0), (30, (.bipush 12), 2, 0, 0, 0, 0), (32, (.anewarray 24), 3, 4, 77, 0, 76), (35, (.putfield 26), 3, 2, 3, 2, 155), (38, (.aload_n 0), 1, 0, 0, 0, 0), (39, (.bipush 27), 2, 0, 0, 0, 0), (41, (.newarray .int), 2, 0, 0, 0, 0), (43, (.putfield 30), 3, 2, 4, 2, 157), (46, (.aload_n 0), 1, 0, 0, 0, 0), (47, (.bipush 27), 2, 0, 0, 0, 0), (49, (.newarray .int), 2, 0, 0, 0, 0), (51, (.putfield 33), 3, 2, 5, 2, 159), (54, (.aload_n 0), 1, 0, 0, 0, 0), (55, (.new 36), 3, 4, 2, 0, 78), (58, .dup, 1, 0, 0, 0, 0), (59, (.invokespecial 38), 3, 3, 0, 6, 80), (62, (.putfield 39), 3, 2, 6, 2, 161), (65, (.aload_n 0), 1, 0, 0, 0, 0), (66, (.new 36), 3, 4, 2, 0, 78), (69, .dup, 1, 0, 0, 0, 0), (70, (.invokespecial 38), 3, 3, 0, 6, 80), (73, (.putfield 43), 3, 2, 7, 2, 163), (76, (.aload_n 0), 1, 0, 0, 0, 0), (77, (.new 46), 3, 6, 2, 0, 94), (80, .dup, 1, 0, 0, 0, 0), (81, (.invokespecial 48), 3, 4, 0, 6, 96)]
def c2_1 : List (Nat × En) := [(84, (.putfield 49), 3, 2, 8, 2, 165), (87, (.iconst 0), 1, 0, 0, 0, 0), (88, (.istore_n 1), 1, 0, 0, 0, 0), (89, (.iload_n 1), 1, 0, 0, 0, 0), (90, (.bipush 8), 2, 0, 0, 0, 0), (92, (.if_icmp .ge 22), 3, 114, 0, 0, 0), (95, (.aload_n 0), 1, 0, 0, 0, 0), (96, (.getfield 11), 3, 2, 0, 2, 151), (99, (.iload_n 1), 1, 0, 0, 0, 0), (100, (.new 9), 3, 8, 4, 0, 74), (103, .dup, 1, 0, 0, 0, 0), (104, (.invokespecial 53), 3, 5, 0, 6, 112), (107, .aastore, 1, 0, 0, 0, 0), (108, (.iinc 1 1), 3, 0, 0, 0, 0), (111, (.goto (-22)), 3, 89, 0, 0, 0), (114, (.iconst 0), 1, 0, 0, 0, 0), (115, (.istore_n 1), 1, 0, 0, 0, 0), (116, (.iload_n 1), 1, 0, 0, 0, 0), (117, (.bipush 12), 2, 0, 0, 0, 0), (119, (.if_icmp .ge 22), 3, 141, 0, 0, 0), (122, (.aload_n 0), 1, 0, 0, 0, 0), (123, (.getfield 26), 3, 2, 3, 2, 155), (126, (.iload_n 1), 1, 0, 0, 0, 0), (127, (.new 24), 3, 5, 2, 0, 76), (130, .dup, 1, 0, 0, 0, 0), (131, (.invokespecial 54), 3, 6, 0, 6, 136), (134, .aastore, 1, 0, 0, 0, 0), (135, (.iinc 1 1), 3, 0, 0, 0, 0), (138, (.goto (-22)), 3, 116, 0, 0, 0), (141, .return_, 1, 0, 0, 0, 0)]
def c2 : List (Nat × En) := c2_0 ++ (c2_1)
def c3 : List (Nat × En) := [(0, (.aload_n 0), 1, 0, 0, 0, 0), (1, (.invokespecial 3), 3, 9001, 0, 2, 83), (4, (.aload_n 0), 1, 0, 0, 0, 0), (5, (.bipush 32), 2, 0, 0, 0, 0), (7, (.newarray .int), 2, 0, 0, 0, 0), (9, (.putfield 9), 3, 4, 0, 2, 84), (12, .return_, 1, 0, 0, 0, 0)]
def c4 : List (Nat × En) := [(0, (.aload_n 0), 1, 0, 0, 0, 0), (1, (.invokespecial 3), 3, 9001, 0, 2, 99), (4, (.aload_n 0), 1, 0, 0, 0, 0), (5, (.bipush 6), 2, 0, 0, 0, 0), (7, (.newarray .int), 2, 0, 0, 0, 0), (9, (.putfield 9), 3, 6, 0, 2, 100), (12, (.aload_n 0), 1, 0, 0, 0, 0), (13, (.bipush 12), 2, 0, 0, 0, 0), (15, (.newarray .int), 2, 0, 0, 0, 0), (17, (.putfield 15), 3, 6, 1, 2, 103), (20, .return_, 1, 0, 0, 0, 0)]
def c5 : List (Nat × En) := [(0, (.aload_n 0), 1, 0, 0, 0, 0), (1, (.invokespecial 3), 3, 9001, 0, 2, 115), (4, (.aload_n 0), 1, 0, 0, 0, 0), (5, (.bipush 32), 2, 0, 0, 0, 0), (7, (.newarray .int), 2, 0, 0, 0, 0), (9, (.putfield 9), 3, 8, 0, 2, 116), (12, (.aload_n 0), 1, 0, 0, 0, 0), (13, (.bipush 32), 2, 0, 0, 0, 0), (15, (.newarray .int), 2, 0, 0, 0, 0), (17, (.putfield 15), 3, 8, 1, 2, 118), (20, (.aload_n 0), 1, 0, 0, 0, 0), (21, (.bipush 32), 2, 0, 0, 0, 0), (23, (.newarray .boolean), 2, 1, 0, 0, 0), (25, (.putfield 18), 3, 8, 2, 2, 120), (28, .return_, 1, 0, 0, 0, 0)]
def c6 : List (Nat × En) := [(0, (.aload_n 0), 1, 0, 0, 0, 0), (1, (.invokespecial 3), 3, 9001, 0, 2, 139), (4, (.aload_n 0), 1, 0, 0, 0, 0), (5, (.bipush 61), 2, 0, 0, 0, 0), (7, (.newarray .boolean), 2, 1, 0, 0, 0), (9, (.putfield 9), 3, 5, 0, 2, 140), (12, .return_, 1, 0, 0, 0, 0)]
def c7 : List (Nat × En) := [(0, (.aload_n 0), 1, 0, 0, 0, 0), (1, (.invokespecial 3), 3, 9001, 0, 2, 211), (4, (.aload_n 0), 1, 0, 0, 0, 0), (5, (.bipush 40), 2, 0, 0, 0, 0), (7, (.newarray .int), 2, 0, 0, 0, 0), (9, (.putfield 9), 3, 7, 0, 2, 212), (12, .return_, 1, 0, 0, 0, 0)]
def c8 : List (Nat × En) := [(0, (.aload_n 0), 1, 0, 0, 0, 0), (1, (.invokespecial 3), 3, 9001, 0, 2, 228), (4, (.aload_n 0), 1, 0, 0, 0, 0), (5, (.bipush 20), 2, 0, 0, 0, 0), (7, (.anewarray 9), 3, 3, 230, 0, 229), (10, (.putfield 11), 3, 1, 0, 2, 258), (13, (.iconst 0), 1, 0, 0, 0, 0), (14, (.istore_n 1), 1, 0, 0, 0, 0), (15, (.iload_n 1), 1, 0, 0, 0, 0), (16, (.bipush 20), 2, 0, 0, 0, 0), (18, (.if_icmp .ge 22), 3, 40, 0, 0, 0), (21, (.aload_n 0), 1, 0, 0, 0, 0), (22, (.getfield 11), 3, 1, 0, 2, 258), (25, (.iload_n 1), 1, 0, 0, 0, 0), (26, (.new 9), 3, 3, 4, 0, 229), (29, .dup, 1, 0, 0, 0, 0), (30, (.invokespecial 17), 3, 9, 0, 6, 232), (33, .aastore, 1, 0, 0, 0, 0), (34, (.iinc 1 1), 3, 0, 0, 0, 0), (37, (.goto (-22)), 3, 15, 0, 0, 0), (40, .return_, 1, 0, 0, 0, 0)]
def c9 : List (Nat × En) := [(0, (.aload_n 0), 1, 0, 0, 0, 0), (1, (.invokespecial 3), 3, 9001, 0, 2, 235), (4, (.aload_n 0), 1, 0, 0, 0, 0), (5, (.new 9), 3, 6, 2, 0, 236), (8, .dup, 1, 0, 0, 0, 0), (9, (.invokespecial 11), 3, 4, 0, 6, 237), (12, (.putfield 12), 3, 3, 0, 2, 238), (15, (.aload_n 0), 1, 0, 0, 0, 0), (16, (.bipush 60), 2, 0, 0, 0, 0), (18, (.newarray .int), 2, 0, 0, 0, 0), (20, (.putfield 18), 3, 3, 1, 2, 241), (23, (.aload_n 0), 1, 0, 0, 0, 0), (24, (.bipush 60), 2, 0, 0, 0, 0), (26, (.newarray .int), 2, 0, 0, 0, 0), (28, (.putfield 22), 3, 3, 2, 2, 244), (31, .return_, 1, 0, 0, 0, 0)]
def c10_0 : List (Nat × En) := [(0, (.iconst 0), 1, 0, 0, 0, 0), (1, (.istore_n 2), 1, 0, 0, 0, 0), (2, (.iload_n 2), 1, 0, 0, 0, 0), (3, (.bipush 8), 2, 0, 0, 0, 0), (5, (.if_icmp .ge 18), 3, 23, 0, 0, 0), (8, (.aload_n 0), 1, 0, 0, 0, 0), (9, (.getfield 11), 3, 2, 0, 2, 151), (12, (.iload_n 2), 1, 0, 0, 0, 0), (13, .aaload, 1, 0, 0, 0, 0), (14, (.invokevirtual 55), 3, 11, 0, 1, 277), (17, (.iinc 2 1), 3, 0, 0, 0, 0), (20, (.goto (-18)), 3, 2, 0, 0, 0), (23, (.iconst 0), 1, 0, 0, 0, 0), (24, (.istore_n 2), 1, 0, 0, 0, 0), (25, (.iload_n 2), 1, 0, 0, 0, 0), (26, (.bipush 12), 2, 0, 0, 0, 0), (28, (.if_icmp .ge 19), 3, 47, 0, 0, 0), (31, (.aload_n 0), 1, 0, 0, 0, 0), (32, (.getfield 26), 3, 2, 3, 2, 155), (35, (.iload_n 2), 1, 0, 0, 0, 0), (36, .aaload, 1, 0, 0, 0, 0), (37, (.iconst 0), 1, 0, 0, 0, 0), (38, (.invokevirtual 58), 3, 12, 1, 1, 281), (41, (.iinc 2 1), 3, 0, 0, 0, 0), (44, (.goto (-19)), 3, 25, 0, 0, 0), (47, (.aload_n 0), 1, 0, 0, 0, 0), (48, (.getfield 17), 3, 2, 1, 2, 153), (51, (.iconst (-1)), 1, 0, 0, 0, 0), (52, (.invokestatic 62), 3, 13, 2, 0, 285), (55, (.aload_n 0), 1, 0, 0, 0, 0), (56, (.getfield 30), 3, 2, 4, 2, 157), (59, (.iconst (-1)), 1, 0, 0, 0, 0), (60, (.invokestatic 62), 3, 13, 2, 0, 285), (63, (.aload_n 0), 1, 0, 0, 0, 0), (64, (.getfield 33), 3, 2, 5, 2, 159), (67, (.iconst (-1)), 1, 0, 0, 0, 0), (68, (.invokestatic 62), 3, 13, 2, 0, 285), (71, (.aload_n 0), 1, 0, 0, 0, 0), (72, (.getfield 39), 3, 2, 6, 2, 161), (75, (.invokevirtual 68), 3, 14, 0, 1, 288)]
def c10_1 : List (Nat × En) := [(78, (.aload_n 0), 1, 0, 0, 0, 0), (79, (.getfield 43), 3, 2, 7, 2, 163), (82, (.invokevirtual 68), 3, 14, 0, 1, 288), (85, (.aload_n 0), 1, 0, 0, 0, 0), (86, (.getfield 49), 3, 2, 8, 2, 165), (89, (.invokevirtual 69), 3, 15, 0, 1, 292), (92, (.aload_n 0), 1, 0, 0, 0, 0), (93, (.iload_n 1), 1, 0, 0, 0, 0), (94, (.putfield 70), 3, 2, 9, 0, 168), (97, (.aload_n 0), 1, 0, 0, 0, 0), (98, (.iconst 0), 1, 0, 0, 0, 0), (99, (.putfield 74), 3, 2, 10, 0, 169), (102, (.aload_n 0), 1, 0, 0, 0, 0), (103, (.iconst 0), 1, 0, 0, 0, 0), (104, (.putfield 77), 3, 2, 11, 0, 171), (107, (.aload_n 0), 1, 0, 0, 0, 0), (108, (.iconst 0), 1, 0, 0, 0, 0), (109, (.putfield 80), 3, 2, 12, 0, 173), (112, (.aload_n 0), 1, 0, 0, 0, 0), (113, (.iconst 0), 1, 0, 0, 0, 0), (114, (.putfield 83), 3, 2, 13, 1, 175), (117, .return_, 1, 0, 0, 0, 0)]
def c10 : List (Nat × En) := c10_0 ++ (c10_1)
def c11 : List (Nat × En) := [(0, (.iconst 0), 1, 0, 0, 0, 0), (1, (.istore_n 1), 1, 0, 0, 0, 0), (2, (.iload_n 1), 1, 0, 0, 0, 0), (3, (.bipush 32), 2, 0, 0, 0, 0), (5, (.if_icmp .ge 30), 3, 35, 0, 0, 0), (8, (.aload_n 0), 1, 0, 0, 0, 0), (9, (.getfield 9), 3, 8, 0, 2, 116), (12, (.iload_n 1), 1, 0, 0, 0, 0), (13, (.iload_n 1), 1, 0, 0, 0, 0), (14, .iastore, 1, 0, 0, 0, 0), (15, (.aload_n 0), 1, 0, 0, 0, 0), (16, (.getfield 15), 3, 8, 1, 2, 118), (19, (.iload_n 1), 1, 0, 0, 0, 0), (20, (.iload_n 1), 1, 0, 0, 0, 0), (21, .iastore, 1, 0, 0, 0, 0), (22, (.aload_n 0), 1, 0, 0, 0, 0), (23, (.getfield 18), 3, 8, 2, 2, 120), (26, (.iload_n 1), 1, 0, 0, 0, 0), (27, (.iconst 0), 1, 0, 0, 0, 0), (28, .bastore, 1, 0, 0, 0, 0), (29, (.iinc 1 1), 3, 0, 0, 0, 0), (32, (.goto (-30)), 3, 2, 0, 0, 0), (35, (.aload_n 0), 1, 0, 0, 0, 0), (36, (.iconst 0), 1, 0, 0, 0, 0), (37, (.putfield 22), 3, 8, 3, 0, 123), (40, .return_, 1, 0, 0, 0, 0)]
def c12 : List (Nat × En) := [(0, (.iconst 0), 1, 0, 0, 0, 0), (1, (.istore_n 2), 1, 0, 0, 0, 0), (2, (.iload_n 2), 1, 0, 0, 0, 0), (3, (.bipush 61), 2, 0, 0, 0, 0), (5, (.if_icmp .ge 16), 3, 21, 0, 0, 0), (8, (.aload_n 0), 1, 0, 0, 0, 0), (9, (.getfield 9), 3, 5, 0, 2, 140), (12, (.iload_n 2), 1, 0, 0, 0, 0), (13, (.iconst 0), 1, 0, 0, 0, 0), (14, .bastore, 1, 0, 0, 0, 0), (15, (.iinc 2 1), 3, 0, 0, 0, 0), (18, (.goto (-16)), 3, 2, 0, 0, 0), (21, (.aload_n 0), 1, 0, 0, 0, 0), (22, (.iload_n 1), 1, 0, 0, 0, 0), (23, (.putfield 15), 3, 5, 1, 0, 143), (26, .return_, 1, 0, 0, 0, 0)]
def c13 : List (Nat × En) := [(0, (.iconst 0), 1, 0, 0, 0, 0), (1, (.istore_n 2), 1, 0, 0, 0, 0), (2, (.aload_n 0), 1, 0, 0, 0, 0), (3, .arraylength, 1, 0, 0, 0, 0), (4, (.istore_n 3), 1, 0, 0, 0, 0), (5, (.iload_n 2), 1, 0, 0, 0, 0), (6, (.iload_n 3), 1, 0, 0, 0, 0), (7, (.if_icmp .ge 13), 3, 20, 0, 0, 0), (10, (.aload_n 0), 1, 0, 0, 0, 0), (11, (.iload_n 2), 1, 0, 0, 0, 0), (12, (.iload_n 1), 1, 0, 0, 0, 0), (13, .iastore, 1, 0, 0, 0, 0), (14, (.iinc 2 1), 3, 0, 0, 0, 0), (17, (.goto (-12)), 3, 5, 0, 0, 0), (20, .return_, 1, 0, 0, 0, 0)]
def c14 : List (Nat × En) := [(0, (.iconst 0), 1, 0, 0, 0, 0), (1, (.istore_n 1), 1, 0, 0, 0, 0), (2, (.iload_n 1), 1, 0, 0, 0, 0), (3, (.bipush 32), 2, 0, 0, 0, 0), (5, (.if_icmp .ge 16), 3, 21, 0, 0, 0), (8, (.aload_n 0), 1, 0, 0, 0, 0), (9, (.getfield 9), 3, 4, 0, 2, 84), (12, (.iload_n 1), 1, 0, 0, 0, 0), (13, (.iload_n 1), 1, 0, 0, 0, 0), (14, .iastore, 1, 0, 0, 0, 0), (15, (.iinc 1 1), 3, 0, 0, 0, 0), (18, (.goto (-16)), 3, 2, 0, 0, 0), (21, (.aload_n 0), 1, 0, 0, 0, 0), (22, (.iconst 0), 1, 0, 0, 0, 0), (23, (.putfield 15), 3, 4, 1, 0, 86), (26, .return_, 1, 0, 0, 0, 0)]
def c15 : List (Nat × En) := [(0, (.aload_n 0), 1, 0, 0, 0, 0), (1, (.getfield 9), 3, 6, 0, 2, 100), (4, (.iconst 0), 1, 0, 0, 0, 0), (5, (.invokestatic 18), 3, 13, 2, 0, 296), (8, (.aload_n 0), 1, 0, 0, 0, 0), (9, (.getfield 15), 3, 6, 1, 2, 103), (12, (.iconst 0), 1, 0, 0, 0, 0), (13, (.invokestatic 18), 3, 13, 2, 0, 296), (16, .return_, 1, 0, 0, 0, 0)]
def c16 : List (Nat × En) := [(0, (.iconst 0), 1, 0, 0, 0, 0), (1, (.istore_n 1), 1, 0, 0, 0, 0), (2, (.iconst 0), 1, 0, 0, 0, 0), (3, (.istore_n 2), 1, 0, 0, 0, 0), (4, (.iload_n 2), 1, 0, 0, 0, 0), (5, (.aload_n 0), 1, 0, 0, 0, 0), (6, (.getfield 10), 3, 0, 0, 2, 297), (9, (.getfield 51), 3, 2, 9, 0, 167), (12, (.if_icmp .ge 24), 3, 36, 0, 0, 0), (15, (.aload_n 0), 1, 0, 0, 0, 0), (16, (.getfield 10), 3, 0, 0, 2, 297), (19, (.iload_n 2), 1, 0, 0, 0, 0), (20, (.invokevirtual 179), 3, 17, 1, 1, 314), (23, (.iload_n 2), 1, 0, 0, 0, 0), (24, (.if_icmp .ne 6), 3, 30, 0, 0, 0), (27, (.iinc 1 1), 3, 0, 0, 0, 0), (30, (.iinc 2 1), 3, 0, 0, 0, 0), (33, (.goto (-29)), 3, 4, 0, 0, 0), (36, (.iload_n 1), 1, 0, 0, 0, 0), (37, .ireturn, 1, 0, 0, 0, 0)]
def c17 : List (Nat × En) := [(0, (.aload_n 0), 1, 0, 0, 0, 0), (1, (.getfield 39), 3, 2, 6, 2, 161), (4, (.getfield 128), 3, 4, 0, 2, 85), (7, (.aload_n 0), 1, 0, 0, 0, 0), (8, (.aload_n 0), 1, 0, 0, 0, 0), (9, (.getfield 39), 3, 2, 6, 2, 161), (12, (.getfield 128), 3, 4, 0, 2, 85), (15, (.iload_n 1), 1, 0, 0, 0, 0), (16, .iaload, 1, 0, 0, 0, 0), (17, (.invokevirtual 131), 3, 18, 1, 1, 318), (20, .iaload, 1, 0, 0, 0, 0), (21, .ireturn, 1, 0, 0, 0, 0)]
def c18 : List (Nat × En) := [(0, (.aload_n 0), 1, 0, 0, 0, 0), (1, (.getfield 80), 3, 2, 12, 0, 173), (4, (.lookupswitch 80 #[(0, 28), (1, 61)]), 28, 0, 0, 0, 0), (32, (.aload_n 0), 1, 0, 0, 0, 0), (33, (.getfield 83), 3, 2, 13, 1, 175), (36, (.ifCond .eq 23), 3, 59, 0, 0, 0), (39, (.aload_n 0), 1, 0, 0, 0, 0), (40, (.aload_n 0), 1, 0, 0, 0, 0), (41, (.getfield 43), 3, 2, 7, 2, 163), (44, (.getfield 128), 3, 4, 0, 2, 85), (47, (.aload_n 0), 1, 0, 0, 0, 0), (48, (.iload_n 1), 1, 0, 0, 0, 0), (49, (.invokevirtual 138), 3, 19, 1, 1, 322), (52, .iaload, 1, 0, 0, 0, 0), (53, (.invokevirtual 135), 3, 22, 1, 1, 333), (56, (.goto 8), 3, 64, 0, 0, 0), (59, (.aload_n 0), 1, 0, 0, 0, 0), (60, (.iload_n 1), 1, 0, 0, 0, 0), (61, (.invokevirtual 138), 3, 19, 1, 1, 322), (64, .ireturn, 1, 0, 0, 0, 0), (65, (.aload_n 0), 1, 0, 0, 0, 0), (66, (.getfield 70), 3, 2, 9, 0, 168), (69, (.bipush 32), 2, 0, 0, 0, 0), (71, (.if_icmp .ne 11), 3, 82, 0, 0, 0), (74, (.aload_n 0), 1, 0, 0, 0, 0), (75, (.iload_n 1), 1, 0, 0, 0, 0), (76, (.invokevirtual 141), 3, 23, 1, 1, 337), (79, (.goto 4), 3, 83, 0, 0, 0), (82, (.iload_n 1), 1, 0, 0, 0, 0), (83, .ireturn, 1, 0, 0, 0, 0), (84, (.aload_n 0), 1, 0, 0, 0, 0), (85, (.invokevirtual 144), 3, 25, 0, 1, 345), (88, (.iload_n 1), 1, 0, 0, 0, 0), (89, .isub, 1, 0, 0, 0, 0), (90, (.aload_n 0), 1, 0, 0, 0, 0), (91, (.getfield 70), 3, 2, 9, 0, 168), (94, (.invokestatic 101), 3, 21, 2, 4, 353), (97, .ireturn, 1, 0, 0, 0, 0)]
def c19 : List (Nat × En) := [(0, (.iload_n 1), 1, 0, 0, 0, 0), (1, (.istore_n 2), 1, 0, 0, 0, 0), (2, (.iconst 0), 1, 0, 0, 0, 0), (3, (.istore_n 3), 1, 0, 0, 0, 0), (4, (.iload_n 3), 1, 0, 0, 0, 0), (5, (.aload_n 0), 1, 0, 0, 0, 0), (6, (.getfield 74), 3, 2, 10, 0, 169), (9, (.if_icmp .ge 57), 3, 66, 0, 0, 0), (12, (.aload_n 0), 1, 0, 0, 0, 0), (13, (.getfield 11), 3, 2, 0, 2, 151), (16, (.aload_n 0), 1, 0, 0, 0, 0), (17, (.getfield 17), 3, 2, 1, 2, 153), (20, (.aload_n 0), 1, 0, 0, 0, 0), (21, (.getfield 21), 3, 2, 2, 2, 154), (24, (.iload_n 3), 1, 0, 0, 0, 0), (25, .iaload, 1, 0, 0, 0, 0), (26, .iaload, 1, 0, 0, 0, 0), (27, .aaload, 1, 0, 0, 0, 0), (28, (.astore 4), 2, 0, 0, 0, 0), (30, (.aload 4), 2, 0, 0, 0, 0), (32, (.aload 4), 2, 0, 0, 0, 0), (34, (.getfield 148), 3, 8, 0, 2, 117), (37, (.iload_n 2), 1, 0, 0, 0, 0), (38, (.aload_n 0), 1, 0, 0, 0, 0), (39, (.getfield 49), 3, 2, 8, 2, 165), (42, (.getfield 98), 3, 6, 0, 2, 101), (45, (.aload_n 0), 1, 0, 0, 0, 0), (46, (.getfield 21), 3, 2, 2, 2, 154), (49, (.iload_n 3), 1, 0, 0, 0, 0), (50, .iaload, 1, 0, 0, 0, 0), (51, .iaload, 1, 0, 0, 0, 0), (52, (.aload_n 0), 1, 0, 0, 0, 0), (53, (.getfield 70), 3, 2, 9, 0, 168), (56, (.invokevirtual 151), 3, 20, 4, 1, 326), (59, (.istore_n 2), 1, 0, 0, 0, 0), (60, (.iinc 3 1), 3, 0, 0, 0, 0), (63, (.goto (-59)), 3, 4, 0, 0, 0), (66, (.iload_n 2), 1, 0, 0, 0, 0), (67, .ireturn, 1, 0, 0, 0, 0)]
def c20 : List (Nat × En) := [(0, (.iload_n 3), 1, 0, 0, 0, 0), (1, (.aload_n 0), 1, 0, 0, 0, 0), (2, (.getfield 22), 3, 8, 3, 0, 123), (5, .isub, 1, 0, 0, 0, 0), (6, (.istore 5), 2, 0, 0, 0, 0), (8, (.aload_n 1), 1, 0, 0, 0, 0), (9, (.iload_n 2), 1, 0, 0, 0, 0), (10, (.iload 5), 2, 0, 0, 0, 0), (12, .iadd, 1, 0, 0, 0, 0), (13, (.iload 4), 2, 0, 0, 0, 0), (15, (.invokestatic 30), 3, 21, 2, 4, 330), (18, .iaload, 1, 0, 0, 0, 0), (19, (.iload 5), 2, 0, 0, 0, 0), (21, .isub, 1, 0, 0, 0, 0), (22, (.iload 4), 2, 0, 0, 0, 0), (24, (.invokestatic 30), 3, 21, 2, 4, 330), (27, .ireturn, 1, 0, 0, 0, 0)]
def c21 : List (Nat × En) := [(0, (.iload_n 0), 1, 0, 0, 0, 0), (1, (.ifCond .ge 7), 3, 8, 0, 0, 0), (4, (.iload_n 0), 1, 0, 0, 0, 0), (5, (.iload_n 1), 1, 0, 0, 0, 0), (6, .iadd, 1, 0, 0, 0, 0), (7, .ireturn, 1, 0, 0, 0, 0), (8, (.iload_n 0), 1, 0, 0, 0, 0), (9, (.iload_n 1), 1, 0, 0, 0, 0), (10, (.if_icmp .lt 9), 3, 19, 0, 0, 0), (13, (.iload_n 0), 1, 0, 0, 0, 0), (14, (.iload_n 1), 1, 0, 0, 0, 0), (15, .isub, 1, 0, 0, 0, 0), (16, (.goto 4), 3, 20, 0, 0, 0), (19, (.iload_n 0), 1, 0, 0, 0, 0), (20, .ireturn, 1, 0, 0, 0, 0)]
def c22 : List (Nat × En) := [(0, (.iload_n 1), 1, 0, 0, 0, 0), (1, (.istore_n 2), 1, 0, 0, 0, 0), (2, (.aload_n 0), 1, 0, 0, 0, 0), (3, (.getfield 74), 3, 2, 10, 0, 169), (6, (.iconst 1), 1, 0, 0, 0, 0), (7, .isub, 1, 0, 0, 0, 0), (8, (.istore_n 3), 1, 0, 0, 0, 0), (9, (.iload_n 3), 1, 0, 0, 0, 0), (10, (.ifCond .lt 57), 3, 67, 0, 0, 0), (13, (.aload_n 0), 1, 0, 0, 0, 0), (14, (.getfield 11), 3, 2, 0, 2, 151), (17, (.aload_n 0), 1, 0, 0, 0, 0), (18, (.getfield 17), 3, 2, 1, 2, 153), (21, (.aload_n 0), 1, 0, 0, 0, 0), (22, (.getfield 21), 3, 2, 2, 2, 154), (25, (.iload_n 3), 1, 0, 0, 0, 0), (26, .iaload, 1, 0, 0, 0, 0), (27, .iaload, 1, 0, 0, 0, 0), (28, .aaload, 1, 0, 0, 0, 0), (29, (.astore 4), 2, 0, 0, 0, 0), (31, (.aload 4), 2, 0, 0, 0, 0), (33, (.aload 4), 2, 0, 0, 0, 0), (35, (.getfield 155), 3, 8, 1, 2, 119), (38, (.iload_n 2), 1, 0, 0, 0, 0), (39, (.aload_n 0), 1, 0, 0, 0, 0), (40, (.getfield 49), 3, 2, 8, 2, 165), (43, (.getfield 98), 3, 6, 0, 2, 101), (46, (.aload_n 0), 1, 0, 0, 0, 0), (47, (.getfield 21), 3, 2, 2, 2, 154), (50, (.iload_n 3), 1, 0, 0, 0, 0), (51, .iaload, 1, 0, 0, 0, 0), (52, .iaload, 1, 0, 0, 0, 0), (53, (.aload_n 0), 1, 0, 0, 0, 0), (54, (.getfield 70), 3, 2, 9, 0, 168), (57, (.invokevirtual 151), 3, 20, 4, 1, 326), (60, (.istore_n 2), 1, 0, 0, 0, 0), (61, (.iinc 3 (-1)), 3, 0, 0, 0, 0), (64, (.goto (-55)), 3, 9, 0, 0, 0), (67, (.iload_n 2), 1, 0, 0, 0, 0), (68, .ireturn, 1, 0, 0, 0, 0)]
def c23 : List (Nat × En) := [(0, (.iload_n 1), 1, 0, 0, 0, 0), (1, (.istore_n 2), 1, 0, 0, 0, 0), (2, (.iconst 0), 1, 0, 0, 0, 0), (3, (.istore_n 3), 1, 0, 0, 0, 0), (4, (.iload_n 3), 1, 0, 0, 0, 0), (5, (.iconst 5), 1, 0, 0, 0, 0), (6, (.if_icmp .ge 30), 3, 36, 0, 0, 0), (9, (.aload_n 0), 1, 0, 0, 0, 0), (10, (.iload_n 3), 1, 0, 0, 0, 0), (11, (.invokevirtual 114), 3, 24, 1, 1, 341), (14, (.aload_n 0), 1, 0, 0, 0, 0), (15, (.iload_n 3), 1, 0, 0, 0, 0), (16, (.iconst 5), 1, 0, 0, 0, 0), (17, .iadd, 1, 0, 0, 0, 0), (18, (.invokevirtual 114), 3, 24, 1, 1, 341), (21, (.if_icmp .eq 9), 3, 30, 0, 0, 0), (24, (.iload_n 2), 1, 0, 0, 0, 0), (25, (.iconst 1), 1, 0, 0, 0, 0), (26, (.iload_n 3), 1, 0, 0, 0, 0), (27, .ishl, 1, 0, 0, 0, 0), (28, .ixor, 1, 0, 0, 0, 0), (29, (.istore_n 2), 1, 0, 0, 0, 0), (30, (.iinc 3 1), 3, 0, 0, 0, 0), (33, (.goto (-29)), 3, 4, 0, 0, 0), (36, (.iload_n 2), 1, 0, 0, 0, 0), (37, .ireturn, 1, 0, 0, 0, 0)]
def c24 : List (Nat × En) := [(0, (.aload_n 0), 1, 0, 0, 0, 0), (1, (.getfield 26), 3, 2, 3, 2, 155), (4, (.iload_n 1), 1, 0, 0, 0, 0), (5, .aaload, 1, 0, 0, 0, 0), (6, (.astore_n 2), 1, 0, 0, 0, 0), (7, (.aload_n 0), 1, 0, 0, 0, 0), (8, (.getfield 49), 3, 2, 8, 2, 165), (11, (.getfield 105), 3, 6, 1, 2, 104), (14, (.iload_n 1), 1, 0, 0, 0, 0), (15, .iaload, 1, 0, 0, 0, 0), (16, (.istore_n 3), 1, 0, 0, 0, 0), (17, (.iload_n 3), 1, 0, 0, 0, 0), (18, (.aload_n 2), 1, 0, 0, 0, 0), (19, (.getfield 87), 3, 5, 1, 0, 144), (22, (.if_icmp .ge 16), 3, 38, 0, 0, 0), (25, (.aload_n 2), 1, 0, 0, 0, 0), (26, (.getfield 121), 3, 5, 0, 2, 142), (29, (.iload_n 3), 1, 0, 0, 0, 0), (30, .baload, 1, 0, 0, 0, 0), (31, (.ifCond .eq 7), 3, 38, 0, 0, 0), (34, (.iconst 1), 1, 0, 0, 0, 0), (35, (.goto 4), 3, 39, 0, 0, 0), (38, (.iconst 0), 1, 0, 0, 0, 0), (39, .ireturn, 1, 0, 0, 0, 0)]
def c25 : List (Nat × En) := [(0, (.iconst 0), 1, 0, 0, 0, 0), (1, (.istore_n 1), 1, 0, 0, 0, 0), (2, (.iconst 0), 1, 0, 0, 0, 0), (3, (.istore_n 2), 1, 0, 0, 0, 0), (4, (.iload_n 2), 1, 0, 0, 0, 0), (5, (.bipush 27), 2, 0, 0, 0, 0), (7, (.if_icmp .ge 46), 3, 53, 0, 0, 0), (10, (.aload_n 0), 1, 0, 0, 0, 0), (11, (.aload_n 0), 1, 0, 0, 0, 0), (12, (.getfield 30), 3, 2, 4, 2, 157), (15, (.iload_n 2), 1, 0, 0, 0, 0), (16, .iaload, 1, 0, 0, 0, 0), (17, (.invokevirtual 158), 3, 26, 1, 1, 349), (20, (.ifCond .ne 16), 3, 36, 0, 0, 0), (23, (.aload_n 0), 1, 0, 0, 0, 0), (24, (.aload_n 0), 1, 0, 0, 0, 0), (25, (.getfield 33), 3, 2, 5, 2, 159), (28, (.iload_n 2), 1, 0, 0, 0, 0), (29, .iaload, 1, 0, 0, 0, 0), (30, (.invokevirtual 158), 3, 26, 1, 1, 349), (33, (.ifCond .eq 14), 3, 47, 0, 0, 0), (36, (.iload_n 1), 1, 0, 0, 0, 0), (37, (.iconst 1), 1, 0, 0, 0, 0), (38, .iadd, 1, 0, 0, 0, 0), (39, (.aload_n 0), 1, 0, 0, 0, 0), (40, (.getfield 70), 3, 2, 9, 0, 168), (43, (.invokestatic 101), 3, 21, 2, 4, 353), (46, (.istore_n 1), 1, 0, 0, 0, 0), (47, (.iinc 2 1), 3, 0, 0, 0, 0), (50, (.goto (-46)), 3, 4, 0, 0, 0), (53, (.iload_n 1), 1, 0, 0, 0, 0), (54, .ireturn, 1, 0, 0, 0, 0)]
def c26 : List (Nat × En) := [(0, (.iload_n 1), 1, 0, 0, 0, 0), (1, (.iconst (-1)), 1, 0, 0, 0, 0), (2, (.if_icmp .eq 15), 3, 17, 0, 0, 0), (5, (.aload_n 0), 1, 0, 0, 0, 0), (6, (.iload_n 1), 1, 0, 0, 0, 0), (7, (.invokevirtual 114), 3, 24, 1, 1, 341), (10, (.ifCond .eq 7), 3, 17, 0, 0, 0), (13, (.iconst 1), 1, 0, 0, 0, 0), (14, (.goto 4), 3, 18, 0, 0, 0), (17, (.iconst 0), 1, 0, 0, 0, 0), (18, .ireturn, 1, 0, 0, 0, 0)]
def c27 : List (Nat × En) := [(0, (.aload_n 2), 1, 0, 0, 0, 0), (1, (.iconst 0), 1, 0, 0, 0, 0), (2, (.aload_n 0), 1, 0, 0, 0, 0), (3, (.iload_n 1), 1, 0, 0, 0, 0), (4, (.invokevirtual 7), 3, 28, 1, 1, 359), (7, .i2l, 1, 0, 0, 0, 0), (8, .lastore, 1, 0, 0, 0, 0), (9, (.goto 9), 3, 18, 0, 0, 0), (12, (.astore_n 3), 1, 0, 0, 0, 0), (13, (.iconst 1), 1, 0, 0, 0, 0), (14, .ireturn, 1, 0, 0, 0, 0), (15, (.astore_n 3), 1, 0, 0, 0, 0), (16, (.iconst 2), 1, 0, 0, 0, 0), (17, .ireturn, 1, 0, 0, 0, 0), (18, (.iconst 0), 1, 0, 0, 0, 0), (19, .ireturn, 1, 0, 0, 0, 0)]
def c28 : List (Nat × En) := [(0, (.iload_n 1), 1, 0, 0, 0, 0), (1, (.bipush 10), 2, 0, 0, 0, 0), (3, (.if_icmp .eq 25), 3, 28, 0, 0, 0), (6, (.iload_n 1), 1, 0, 0, 0, 0), (7, (.bipush 26), 2, 0, 0, 0, 0), (9, (.if_icmp .eq 19), 3, 28, 0, 0, 0), (12, (.iload_n 1), 1, 0, 0, 0, 0), (13, (.bipush 32), 2, 0, 0, 0, 0), (15, (.if_icmp .eq 13), 3, 28, 0, 0, 0), (18, (.new 41), 3, 900, 404, 405, 363), (21, .dup, 1, 0, 0, 0, 0), (22, (.ldc 43), 2, 0, 0, 0, 0), (24, (.invokespecial 45), 3, 9009, 1, 2, 405), (27, .athrow, 1, 0, 0, 0, 0), (28, (.aload_n 0), 1, 0, 0, 0, 0), (29, (.invokevirtual 48), 3, 29, 0, 1, 431), (32, (.aload_n 0), 1, 0, 0, 0, 0), (33, (.getfield 10), 3, 0, 0, 2, 297), (36, (.getfield 51), 3, 2, 9, 0, 167), (39, (.istore_n 2), 1, 0, 0, 0, 0), (40, (.aload_n 0), 1, 0, 0, 0, 0), (41, (.getfield 10), 3, 0, 0, 2, 297), (44, (.iload_n 1), 1, 0, 0, 0, 0), (45, (.invokevirtual 37), 3, 10, 1, 1, 273), (48, (.aload_n 0), 1, 0, 0, 0, 0), (49, (.getfield 19), 3, 0, 1, 2, 298), (52, (.invokevirtual 55), 3, 30, 0, 1, 451), (55, (.aload_n 0), 1, 0, 0, 0, 0), (56, (.getfield 26), 3, 0, 2, 2, 299), (59, (.invokevirtual 57), 3, 31, 0, 1, 455), (62, (.iload_n 2), 1, 0, 0, 0, 0), (63, .ireturn, 1, 0, 0, 0, 0)]
def c29 : List (Nat × En) := [(0, (.aload_n 0), 1, 0, 0, 0, 0), (1, (.getfield 26), 3, 0, 2, 2, 299), (4, (.getfield 214), 3, 1, 2, 1, 263), (7, (.ifCond .eq 14), 3, 21, 0, 0, 0), (10, (.new 90), 3, 901, 444, 445, 435), (13, .dup, 1, 0, 0, 0, 0), (14, (.ldc_w 273), 3, 0, 0, 0, 0), (17, (.invokespecial 94), 3, 9009, 1, 2, 445), (20, .athrow, 1, 0, 0, 0, 0), (21, .return_, 1, 0, 0, 0, 0)]
def c30 : List (Nat × En) := [(0, (.aload_n 0), 1, 0, 0, 0, 0), (1, (.iconst 0), 1, 0, 0, 0, 0), (2, (.putfield 15), 3, 7, 2, 0, 214), (5, .return_, 1, 0, 0, 0, 0)]
def c31 : List (Nat × En) := [(0, (.aload_n 0), 1, 0, 0, 0, 0), (1, (.iconst 0), 1, 0, 0, 0, 0), (2, (.putfield 18), 3, 1, 1, 0, 260), (5, .return_, 1, 0, 0, 0, 0)]
def c32 : List (Nat × En) := [(0, (.aload 4), 2, 0, 0, 0, 0), (2, (.iconst 0), 1, 0, 0, 0, 0), (3, (.aload_n 0), 1, 0, 0, 0, 0), (4, (.iload_n 1), 1, 0, 0, 0, 0), (5, (.iload_n 2), 1, 0, 0, 0, 0), (6, (.iload_n 3), 1, 0, 0, 0, 0), (7, (.invokevirtual 17), 3, 33, 3, 1, 463), (10, .i2l, 1, 0, 0, 0, 0), (11, .lastore, 1, 0, 0, 0, 0), (12, (.goto 11), 3, 23, 0, 0, 0), (15, (.astore 5), 2, 0, 0, 0, 0), (17, (.iconst 1), 1, 0, 0, 0, 0), (18, .ireturn, 1, 0, 0, 0, 0), (19, (.astore 5), 2, 0, 0, 0, 0), (21, (.iconst 2), 1, 0, 0, 0, 0), (22, .ireturn, 1, 0, 0, 0, 0), (23, (.iconst 0), 1, 0, 0, 0, 0), (24, .ireturn, 1, 0, 0, 0, 0)]
def c33 : List (Nat × En) := [(0, (.iload_n 1), 1, 0, 0, 0, 0), (1, (.bipush 8), 2, 0, 0, 0, 0), (3, (.invokestatic 58), 3, 34, 2, 0, 467), (6, (.iload_n 2), 1, 0, 0, 0, 0), (7, (.aload_n 0), 1, 0, 0, 0, 0), (8, (.getfield 10), 3, 0, 0, 2, 297), (11, (.getfield 51), 3, 2, 9, 0, 167), (14, (.invokestatic 58), 3, 34, 2, 0, 467), (17, (.iload_n 3), 1, 0, 0, 0, 0), (18, (.aload_n 0), 1, 0, 0, 0, 0), (19, (.getfield 10), 3, 0, 0, 2, 297), (22, (.getfield 51), 3, 2, 9, 0, 167), (25, (.invokestatic 58), 3, 34, 2, 0, 467), (28, (.aload_n 0), 1, 0, 0, 0, 0), (29, (.invokevirtual 48), 3, 29, 0, 1, 431), (32, (.aload_n 0), 1, 0, 0, 0, 0), (33, (.getfield 10), 3, 0, 0, 2, 297), (36, (.getfield 62), 3, 2, 0, 2, 152), (39, (.iload_n 1), 1, 0, 0, 0, 0), (40, .aaload, 1, 0, 0, 0, 0), (41, (.iload_n 2), 1, 0, 0, 0, 0), (42, (.iload_n 3), 1, 0, 0, 0, 0), (43, (.invokevirtual 66), 3, 35, 2, 1, 486), (46, .ireturn, 1, 0, 0, 0, 0)]
def c34 : List (Nat × En) := [(0, (.iload_n 0), 1, 0, 0, 0, 0), (1, (.ifCond .lt 8), 3, 9, 0, 0, 0), (4, (.iload_n 0), 1, 0, 0, 0, 0), (5, (.iload_n 1), 1, 0, 0, 0, 0), (6, (.if_icmp .lt 14), 3, 20, 0, 0, 0), (9, (.new 268), 3, 902, 479, 480, 470), (12, .dup, 1, 0, 0, 0, 0), (13, (.ldc_w 270), 3, 0, 0, 0, 0), (16, (.invokespecial 272), 3, 9009, 1, 2, 480), (19, .athrow, 1, 0, 0, 0, 0), (20, .return_, 1, 0, 0, 0, 0)]
def c35 : List (Nat × En) := [(0, (.aload_n 0), 1, 0, 0, 0, 0), (1, (.getfield 15), 3, 8, 1, 2, 118), (4, (.iload_n 2), 1, 0, 0, 0, 0), (5, .iaload, 1, 0, 0, 0, 0), (6, (.istore_n 3), 1, 0, 0, 0, 0), (7, (.aload_n 0), 1, 0, 0, 0, 0), (8, (.getfield 9), 3, 8, 0, 2, 116), (11, (.iload_n 1), 1, 0, 0, 0, 0), (12, .iaload, 1, 0, 0, 0, 0), (13, (.istore 4), 2, 0, 0, 0, 0), (15, (.aload_n 0), 1, 0, 0, 0, 0), (16, (.iload_n 3), 1, 0, 0, 0, 0), (17, (.iload 4), 2, 0, 0, 0, 0), (19, (.invokevirtual 26), 3, 36, 2, 1, 490), (22, (.aload_n 0), 1, 0, 0, 0, 0), (23, (.iload_n 1), 1, 0, 0, 0, 0), (24, (.iload_n 2), 1, 0, 0, 0, 0), (25, (.invokevirtual 26), 3, 36, 2, 1, 490), (28, (.iload_n 3), 1, 0, 0, 0, 0), (29, .ireturn, 1, 0, 0, 0, 0)]
def c36 : List (Nat × En) := [(0, (.aload_n 0), 1, 0, 0, 0, 0), (1, (.getfield 9), 3, 8, 0, 2, 116), (4, (.iload_n 1), 1, 0, 0, 0, 0), (5, (.iload_n 2), 1, 0, 0, 0, 0), (6, .iastore, 1, 0, 0, 0, 0), (7, (.aload_n 0), 1, 0, 0, 0, 0), (8, (.getfield 15), 3, 8, 1, 2, 118), (11, (.iload_n 2), 1, 0, 0, 0, 0), (12, (.iload_n 1), 1, 0, 0, 0, 0), (13, .iastore, 1, 0, 0, 0, 0), (14, .return_, 1, 0, 0, 0, 0)]
def c37 : List (Nat × En) := [(0, (.aload_n 3), 1, 0, 0, 0, 0), (1, (.iconst 0), 1, 0, 0, 0, 0), (2, (.aload_n 0), 1, 0, 0, 0, 0), (3, (.iload_n 1), 1, 0, 0, 0, 0), (4, (.iload_n 2), 1, 0, 0, 0, 0), (5, (.invokevirtual 23), 3, 38, 2, 1, 497), (8, .i2l, 1, 0, 0, 0, 0), (9, .lastore, 1, 0, 0, 0, 0), (10, (.goto 11), 3, 21, 0, 0, 0), (13, (.astore 4), 2, 0, 0, 0, 0), (15, (.iconst 1), 1, 0, 0, 0, 0), (16, .ireturn, 1, 0, 0, 0, 0), (17, (.astore 4), 2, 0, 0, 0, 0), (19, (.iconst 2), 1, 0, 0, 0, 0), (20, .ireturn, 1, 0, 0, 0, 0), (21, (.iconst 0), 1, 0, 0, 0, 0), (22, .ireturn, 1, 0, 0, 0, 0)]
def c38 : List (Nat × En) := [(0, (.iload_n 1), 1, 0, 0, 0, 0), (1, (.bipush 8), 2, 0, 0, 0, 0), (3, (.invokestatic 58), 3, 34, 2, 0, 467), (6, (.iload_n 2), 1, 0, 0, 0, 0), (7, (.aload_n 0), 1, 0, 0, 0, 0), (8, (.getfield 10), 3, 0, 0, 2, 297), (11, (.getfield 51), 3, 2, 9, 0, 167), (14, (.invokestatic 58), 3, 34, 2, 0, 467), (17, (.aload_n 0), 1, 0, 0, 0, 0), (18, (.invokevirtual 48), 3, 29, 0, 1, 431), (21, (.aload_n 0), 1, 0, 0, 0, 0), (22, (.getfield 10), 3, 0, 0, 2, 297), (25, (.getfield 62), 3, 2, 0, 2, 152), (28, (.iload_n 1), 1, 0, 0, 0, 0), (29, .aaload, 1, 0, 0, 0, 0), (30, (.getfield 72), 3, 8, 3, 0, 124), (33, (.istore_n 3), 1, 0, 0, 0, 0), (34, (.aload_n 0), 1, 0, 0, 0, 0), (35, (.getfield 10), 3, 0, 0, 2, 297), (38, (.getfield 62), 3, 2, 0, 2, 152), (41, (.iload_n 1), 1, 0, 0, 0, 0), (42, .aaload, 1, 0, 0, 0, 0), (43, (.iload_n 2), 1, 0, 0, 0, 0), (44, (.putfield 72), 3, 8, 3, 0, 124), (47, (.iload_n 3), 1, 0, 0, 0, 0), (48, .ireturn, 1, 0, 0, 0, 0)]
def c39 : List (Nat × En) := [(0, (.aload 4), 2, 0, 0, 0, 0), (2, (.iconst 0), 1, 0, 0, 0, 0), (3, (.aload_n 0), 1, 0, 0, 0, 0), (4, (.iload_n 1), 1, 0, 0, 0, 0), (5, (.iload_n 2), 1, 0, 0, 0, 0), (6, (.iload_n 3), 1, 0, 0, 0, 0), (7, (.invokevirtual 27), 3, 40, 3, 1, 504), (10, (.ifCond .eq 7), 3, 17, 0, 0, 0), (13, (.lconst 1), 1, 0, 0, 0, 0), (14, (.goto 4), 3, 18, 0, 0, 0), (17, (.lconst 0), 1, 0, 0, 0, 0), (18, .lastore, 1, 0, 0, 0, 0), (19, (.goto 11), 3, 30, 0, 0, 0), (22, (.astore 5), 2, 0, 0, 0, 0), (24, (.iconst 1), 1, 0, 0, 0, 0), (25, .ireturn, 1, 0, 0, 0, 0), (26, (.astore 5), 2, 0, 0, 0, 0), (28, (.iconst 2), 1, 0, 0, 0, 0), (29, .ireturn, 1, 0, 0, 0, 0), (30, (.iconst 0), 1, 0, 0, 0, 0), (31, .ireturn, 1, 0, 0, 0, 0)]
def c40 : List (Nat × En) := [(0, (.iload_n 1), 1, 0, 0, 0, 0), (1, (.bipush 8), 2, 0, 0, 0, 0), (3, (.invokestatic 58), 3, 34, 2, 0, 467), (6, (.iload_n 2), 1, 0, 0, 0, 0), (7, (.aload_n 0), 1, 0, 0, 0, 0), (8, (.getfield 10), 3, 0, 0, 2, 297), (11, (.getfield 51), 3, 2, 9, 0, 167), (14, (.invokestatic 58), 3, 34, 2, 0, 467), (17, (.aload_n 0), 1, 0, 0, 0, 0), (18, (.invokevirtual 48), 3, 29, 0, 1, 431), (21, (.aload_n 0), 1, 0, 0, 0, 0), (22, (.getfield 10), 3, 0, 0, 2, 297), (25, (.getfield 62), 3, 2, 0, 2, 152), (28, (.iload_n 1), 1, 0, 0, 0, 0), (29, .aaload, 1, 0, 0, 0, 0), (30, (.getfield 75), 3, 8, 2, 2, 121), (33, (.iload_n 2), 1, 0, 0, 0, 0), (34, (.iload_n 3), 1, 0, 0, 0, 0), (35, (.invokestatic 79), 3, 41, 3, 0, 508), (38, .ireturn, 1, 0, 0, 0, 0)]
def c41 : List (Nat × En) := [(0, (.aload_n 0), 1, 0, 0, 0, 0), (1, (.iload_n 1), 1, 0, 0, 0, 0), (2, .baload, 1, 0, 0, 0, 0), (3, (.iload_n 2), 1, 0, 0, 0, 0), (4, (.if_icmp .eq 7), 3, 11, 0, 0, 0), (7, (.iconst 1), 1, 0, 0, 0, 0), (8, (.goto 4), 3, 12, 0, 0, 0), (11, (.iconst 0), 1, 0, 0, 0, 0), (12, (.istore_n 3), 1, 0, 0, 0, 0), (13, (.aload_n 0), 1, 0, 0, 0, 0), (14, (.iload_n 1), 1, 0, 0, 0, 0), (15, (.iload_n 2), 1, 0, 0, 0, 0), (16, .bastore, 1, 0, 0, 0, 0), (17, (.iload_n 3), 1, 0, 0, 0, 0), (18, .ireturn, 1, 0, 0, 0, 0)]
def c42 : List (Nat × En) := [(0, (.aload_n 3), 1, 0, 0, 0, 0), (1, (.iconst 0), 1, 0, 0, 0, 0), (2, (.aload_n 0), 1, 0, 0, 0, 0), (3, (.iload_n 1), 1, 0, 0, 0, 0), (4, (.iload_n 2), 1, 0, 0, 0, 0), (5, (.invokevirtual 31), 3, 43, 2, 1, 514), (8, .i2l, 1, 0, 0, 0, 0), (9, .lastore, 1, 0, 0, 0, 0), (10, (.goto 11), 3, 21, 0, 0, 0), (13, (.astore 4), 2, 0, 0, 0, 0), (15, (.iconst 1), 1, 0, 0, 0, 0), (16, .ireturn, 1, 0, 0, 0, 0), (17, (.astore 4), 2, 0, 0, 0, 0), (19, (.iconst 2), 1, 0, 0, 0, 0), (20, .ireturn, 1, 0, 0, 0, 0), (21, (.iconst 0), 1, 0, 0, 0, 0), (22, .ireturn, 1, 0, 0, 0, 0)]
def c43 : List (Nat × En) := [(0, (.iload_n 1), 1, 0, 0, 0, 0), (1, (.bipush 6), 2, 0, 0, 0, 0), (3, (.invokestatic 58), 3, 34, 2, 0, 467), (6, (.iload_n 2), 1, 0, 0, 0, 0), (7, (.bipush 8), 2, 0, 0, 0, 0), (9, (.invokestatic 83), 3, 44, 2, 0, 518), (12, (.aload_n 0), 1, 0, 0, 0, 0), (13, (.invokevirtual 48), 3, 29, 0, 1, 431), (16, (.iload_n 2), 1, 0, 0, 0, 0), (17, (.iconst (-1)), 1, 0, 0, 0, 0), (18, (.if_icmp .eq 25), 3, 43, 0, 0, 0), (21, (.aload_n 0), 1, 0, 0, 0, 0), (22, (.getfield 10), 3, 0, 0, 2, 297), (25, (.iload_n 2), 1, 0, 0, 0, 0), (26, (.iload_n 1), 1, 0, 0, 0, 0), (27, (.invokevirtual 86), 3, 45, 2, 1, 521), (30, (.ifCond .eq 13), 3, 43, 0, 0, 0), (33, (.new 90), 3, 901, 525, 445, 435), (36, .dup, 1, 0, 0, 0, 0), (37, (.ldc 92), 2, 0, 0, 0, 0), (39, (.invokespecial 94), 3, 9009, 1, 2, 445), (42, .athrow, 1, 0, 0, 0, 0), (43, (.aload_n 0), 1, 0, 0, 0, 0), (44, (.getfield 10), 3, 0, 0, 2, 297), (47, (.iload_n 1), 1, 0, 0, 0, 0), (48, (.iload_n 2), 1, 0, 0, 0, 0), (49, (.invokevirtual 95), 3, 46, 2, 1, 526), (52, .ireturn, 1, 0, 0, 0, 0)]
def c44 : List (Nat × En) := [(0, (.iload_n 0), 1, 0, 0, 0, 0), (1, (.iconst (-1)), 1, 0, 0, 0, 0), (2, (.if_icmp .eq 8), 3, 10, 0, 0, 0), (5, (.iload_n 0), 1, 0, 0, 0, 0), (6, (.iload_n 1), 1, 0, 0, 0, 0), (7, (.invokestatic 58), 3, 34, 2, 0, 467), (10, .return_, 1, 0, 0, 0, 0)]
def c45 : List (Nat × En) := [(0, (.iconst 0), 1, 0, 0, 0, 0), (1, (.istore_n 3), 1, 0, 0, 0, 0), (2, (.iload_n 3), 1, 0, 0, 0, 0), (3, (.bipush 6), 2, 0, 0, 0, 0), (5, (.if_icmp .ge 26), 3, 31, 0, 0, 0), (8, (.iload_n 3), 1, 0, 0, 0, 0), (9, (.iload_n 2), 1, 0, 0, 0, 0), (10, (.if_icmp .eq 15), 3, 25, 0, 0, 0), (13, (.aload_n 0), 1, 0, 0, 0, 0), (14, (.getfield 17), 3, 2, 1, 2, 153), (17, (.iload_n 3), 1, 0, 0, 0, 0), (18, .iaload, 1, 0, 0, 0, 0), (19, (.iload_n 1), 1, 0, 0, 0, 0), (20, (.if_icmp .ne 5), 3, 25, 0, 0, 0), (23, (.iconst 1), 1, 0, 0, 0, 0), (24, .ireturn, 1, 0, 0, 0, 0), (25, (.iinc 3 1), 3, 0, 0, 0, 0), (28, (.goto (-26)), 3, 2, 0, 0, 0), (31, (.iconst 0), 1, 0, 0, 0, 0), (32, .ireturn, 1, 0, 0, 0, 0)]
def c46 : List (Nat × En) := [(0, (.aload_n 0), 1, 0, 0, 0, 0), (1, (.getfield 17), 3, 2, 1, 2, 153), (4, (.iload_n 1), 1, 0, 0, 0, 0), (5, .iaload, 1, 0, 0, 0, 0), (6, (.istore_n 3), 1, 0, 0, 0, 0), (7, (.aload_n 0), 1, 0, 0, 0, 0), (8, (.getfield 17), 3, 2, 1, 2, 153), (11, (.iload_n 1), 1, 0, 0, 0, 0), (12, (.iload_n 2), 1, 0, 0, 0, 0), (13, .iastore, 1, 0, 0, 0, 0), (14, (.aload_n 0), 1, 0, 0, 0, 0), (15, (.iconst 0), 1, 0, 0, 0, 0), (16, (.putfield 74), 3, 2, 10, 0, 169), (19, (.iconst 0), 1, 0, 0, 0, 0), (20, (.istore 4), 2, 0, 0, 0, 0), (22, (.iload 4), 2, 0, 0, 0, 0), (24, (.bipush 6), 2, 0, 0, 0, 0), (26, (.if_icmp .ge 41), 3, 67, 0, 0, 0), (29, (.aload_n 0), 1, 0, 0, 0, 0), (30, (.getfield 17), 3, 2, 1, 2, 153), (33, (.iload 4), 2, 0, 0, 0, 0), (35, .iaload, 1, 0, 0, 0, 0), (36, (.iconst (-1)), 1, 0, 0, 0, 0), (37, (.if_icmp .eq 24), 3, 61, 0, 0, 0), (40, (.aload_n 0), 1, 0, 0, 0, 0), (41, (.getfield 21), 3, 2, 2, 2, 154), (44, (.aload_n 0), 1, 0, 0, 0, 0), (45, (.getfield 74), 3, 2, 10, 0, 169), (48, (.iload 4), 2, 0, 0, 0, 0), (50, .iastore, 1, 0, 0, 0, 0), (51, (.aload_n 0), 1, 0, 0, 0, 0), (52, .dup, 1, 0, 0, 0, 0), (53, (.getfield 74), 3, 2, 10, 0, 169), (56, (.iconst 1), 1, 0, 0, 0, 0), (57, .iadd, 1, 0, 0, 0, 0), (58, (.putfield 74), 3, 2, 10, 0, 169), (61, (.iinc 4 1), 3, 0, 0, 0, 0), (64, (.goto (-42)), 3, 22, 0, 0, 0), (67, (.iload_n 3), 1, 0, 0, 0, 0), (68, .ireturn, 1, 0, 0, 0, 0)]
def c47 : List (Nat × En) := [(0, (.aload_n 0), 1, 0, 0, 0, 0), (1, (.iload_n 1), 1, 0, 0, 0, 0), (2, (.iload_n 2), 1, 0, 0, 0, 0), (3, (.iload_n 3), 1, 0, 0, 0, 0), (4, (.invokevirtual 34), 3, 48, 3, 1, 533), (7, (.goto 15), 3, 22, 0, 0, 0), (10, (.astore 4), 2, 0, 0, 0, 0), (12, (.iconst 1), 1, 0, 0, 0, 0), (13, .ireturn, 1, 0, 0, 0, 0), (14, (.astore 4), 2, 0, 0, 0, 0), (16, (.iconst 2), 1, 0, 0, 0, 0), (17, .ireturn, 1, 0, 0, 0, 0), (18, (.astore 4), 2, 0, 0, 0, 0), (20, (.iconst 3), 1, 0, 0, 0, 0), (21, .ireturn, 1, 0, 0, 0, 0), (22, (.iconst 0), 1, 0, 0, 0, 0), (23, .ireturn, 1, 0, 0, 0, 0)]
def c48 : List (Nat × En) := [(0, (.iload_n 1), 1, 0, 0, 0, 0), (1, (.iconst 2), 1, 0, 0, 0, 0), (2, (.invokestatic 58), 3, 34, 2, 0, 467), (5, (.iload_n 2), 1, 0, 0, 0, 0), (6, (.aload_n 0), 1, 0, 0, 0, 0), (7, (.getfield 10), 3, 0, 0, 2, 297), (10, (.getfield 51), 3, 2, 9, 0, 167), (13, (.invokestatic 58), 3, 34, 2, 0, 467), (16, (.iload_n 3), 1, 0, 0, 0, 0), (17, (.aload_n 0), 1, 0, 0, 0, 0), (18, (.getfield 10), 3, 0, 0, 2, 297), (21, (.getfield 51), 3, 2, 9, 0, 167), (24, (.invokestatic 58), 3, 34, 2, 0, 467), (27, (.iload_n 2), 1, 0, 0, 0, 0), (28, (.iload_n 3), 1, 0, 0, 0, 0), (29, (.if_icmp .ne 13), 3, 42, 0, 0, 0), (32, (.new 41), 3, 900, 537, 405, 363), (35, .dup, 1, 0, 0, 0, 0), (36, (.ldc 98), 2, 0, 0, 0, 0), (38, (.invokespecial 45), 3, 9009, 1, 2, 405), (41, .athrow, 1, 0, 0, 0, 0), (42, (.aload_n 0), 1, 0, 0, 0, 0), (43, (.invokevirtual 48), 3, 29, 0, 1, 431), (46, (.aload_n 0), 1, 0, 0, 0, 0), (47, (.getfield 10), 3, 0, 0, 2, 297), (50, (.iload_n 1), 1, 0, 0, 0, 0), (51, (.invokevirtual 100), 3, 49, 1, 1, 538), (54, (.astore 4), 2, 0, 0, 0, 0), (56, (.aload 4), 2, 0, 0, 0, 0), (58, (.iload_n 2), 1, 0, 0, 0, 0), (59, (.invokevirtual 104), 3, 50, 1, 1, 542), (62, (.ifCond .ne 12), 3, 74, 0, 0, 0), (65, (.aload 4), 2, 0, 0, 0, 0), (67, (.iload_n 3), 1, 0, 0, 0, 0), (68, (.invokevirtual 104), 3, 50, 1, 1, 542), (71, (.ifCond .eq 13), 3, 84, 0, 0, 0), (74, (.new 90), 3, 901, 546, 445, 435), (77, .dup, 1, 0, 0, 0, 0), (78, (.ldc 110), 2, 0, 0, 0, 0), (80, (.invokespecial 94), 3, 9009, 1, 2, 445), (83, .athrow, 1, 0, 0, 0, 0), (84, (.aload 4), 2, 0, 0, 0, 0), (86, (.iload_n 2), 1, 0, 0, 0, 0), (87, (.iload_n 3), 1, 0, 0, 0, 0), (88, (.invokevirtual 112), 3, 51, 2, 1, 547), (91, .return_, 1, 0, 0, 0, 0)]
def c49 : List (Nat × En) := [(0, (.iload_n 1), 1, 0, 0, 0, 0), (1, (.ifCond .ne 10), 3, 11, 0, 0, 0), (4, (.aload_n 0), 1, 0, 0, 0, 0), (5, (.getfield 39), 3, 2, 6, 2, 161), (8, (.goto 7), 3, 15, 0, 0, 0), (11, (.aload_n 0), 1, 0, 0, 0, 0), (12, (.getfield 43), 3, 2, 7, 2, 163), (15, .areturn, 1, 0, 0, 0, 0)]
def c50 : List (Nat × En) := [(0, (.aload_n 0), 1, 0, 0, 0, 0), (1, (.getfield 9), 3, 4, 0, 2, 84), (4, (.iload_n 1), 1, 0, 0, 0, 0), (5, .iaload, 1, 0, 0, 0, 0), (6, (.iload_n 1), 1, 0, 0, 0, 0), (7, (.if_icmp .eq 7), 3, 14, 0, 0, 0), (10, (.iconst 1), 1, 0, 0, 0, 0), (11, (.goto 4), 3, 15, 0, 0, 0), (14, (.iconst 0), 1, 0, 0, 0, 0), (15, .ireturn, 1, 0, 0, 0, 0)]
def c51 : List (Nat × En) := [(0, (.aload_n 0), 1, 0, 0, 0, 0), (1, (.getfield 9), 3, 4, 0, 2, 84), (4, (.iload_n 1), 1, 0, 0, 0, 0), (5, (.iload_n 2), 1, 0, 0, 0, 0), (6, .iastore, 1, 0, 0, 0, 0), (7, (.aload_n 0), 1, 0, 0, 0, 0), (8, (.getfield 9), 3, 4, 0, 2, 84), (11, (.iload_n 2), 1, 0, 0, 0, 0), (12, (.iload_n 1), 1, 0, 0, 0, 0), (13, .iastore, 1, 0, 0, 0, 0), (14, (.aload_n 0), 1, 0, 0, 0, 0), (15, .dup, 1, 0, 0, 0, 0), (16, (.getfield 15), 3, 4, 1, 0, 86), (19, (.iconst 1), 1, 0, 0, 0, 0), (20, .iadd, 1, 0, 0, 0, 0), (21, (.putfield 15), 3, 4, 1, 0, 86), (24, .return_, 1, 0, 0, 0, 0)]
def c52 : List (Nat × En) := [(0, (.aload_n 3), 1, 0, 0, 0, 0), (1, (.iconst 0), 1, 0, 0, 0, 0), (2, (.aload_n 0), 1, 0, 0, 0, 0), (3, (.iload_n 1), 1, 0, 0, 0, 0), (4, (.iload_n 2), 1, 0, 0, 0, 0), (5, (.invokevirtual 38), 3, 53, 2, 1, 554), (8, .i2l, 1, 0, 0, 0, 0), (9, .lastore, 1, 0, 0, 0, 0), (10, (.goto 11), 3, 21, 0, 0, 0), (13, (.astore 4), 2, 0, 0, 0, 0), (15, (.iconst 1), 1, 0, 0, 0, 0), (16, .ireturn, 1, 0, 0, 0, 0), (17, (.astore 4), 2, 0, 0, 0, 0), (19, (.iconst 2), 1, 0, 0, 0, 0), (20, .ireturn, 1, 0, 0, 0, 0), (21, (.iconst 0), 1, 0, 0, 0, 0), (22, .ireturn, 1, 0, 0, 0, 0)]
def c53 : List (Nat × En) := [(0, (.iload_n 1), 1, 0, 0, 0, 0), (1, (.iconst 2), 1, 0, 0, 0, 0), (2, (.invokestatic 58), 3, 34, 2, 0, 467), (5, (.iload_n 2), 1, 0, 0, 0, 0), (6, (.aload_n 0), 1, 0, 0, 0, 0), (7, (.getfield 10), 3, 0, 0, 2, 297), (10, (.getfield 51), 3, 2, 9, 0, 167), (13, (.invokestatic 58), 3, 34, 2, 0, 467), (16, (.aload_n 0), 1, 0, 0, 0, 0), (17, (.invokevirtual 48), 3, 29, 0, 1, 431), (20, (.aload_n 0), 1, 0, 0, 0, 0), (21, (.getfield 10), 3, 0, 0, 2, 297), (24, (.iload_n 1), 1, 0, 0, 0, 0), (25, (.invokevirtual 100), 3, 49, 1, 1, 538), (28, (.astore_n 3), 1, 0, 0, 0, 0), (29, (.aload_n 3), 1, 0, 0, 0, 0), (30, (.iload_n 2), 1, 0, 0, 0, 0), (31, (.invokevirtual 104), 3, 50, 1, 1, 542), (34, (.ifCond .eq 11), 3, 45, 0, 0, 0), (37, (.aload_n 3), 1, 0, 0, 0, 0), (38, (.iload_n 2), 1, 0, 0, 0, 0), (39, (.invokevirtual 115), 3, 54, 1, 1, 558), (42, (.goto 4), 3, 46, 0, 0, 0), (45, (.iconst (-1)), 1, 0, 0, 0, 0), (46, .ireturn, 1, 0, 0, 0, 0)]
def c54 : List (Nat × En) := [(0, (.aload_n 0), 1, 0, 0, 0, 0), (1, (.getfield 9), 3, 4, 0, 2, 84), (4, (.iload_n 1), 1, 0, 0, 0, 0), (5, .iaload, 1, 0, 0, 0, 0), (6, (.istore_n 2), 1, 0, 0, 0, 0), (7, (.aload_n 0), 1, 0, 0, 0, 0), (8, (.getfield 9), 3, 4, 0, 2, 84), (11, (.iload_n 1), 1, 0, 0, 0, 0), (12, (.iload_n 1), 1, 0, 0, 0, 0), (13, .iastore, 1, 0, 0, 0, 0), (14, (.aload_n 0), 1, 0, 0, 0, 0), (15, (.getfield 9), 3, 4, 0, 2, 84), (18, (.iload_n 2), 1, 0, 0, 0, 0), (19, (.iload_n 2), 1, 0, 0, 0, 0), (20, .iastore, 1, 0, 0, 0, 0), (21, (.aload_n 0), 1, 0, 0, 0, 0), (22, .dup, 1, 0, 0, 0, 0), (23, (.getfield 15), 3, 4, 1, 0, 86), (26, (.iconst 1), 1, 0, 0, 0, 0), (27, .isub, 1, 0, 0, 0, 0), (28, (.putfield 15), 3, 4, 1, 0, 86), (31, (.iload_n 2), 1, 0, 0, 0, 0), (32, .ireturn, 1, 0, 0, 0, 0)]
def c55 : List (Nat × En) := [(0, (.aload_n 2), 1, 0, 0, 0, 0), (1, (.iconst 0), 1, 0, 0, 0, 0), (2, (.aload_n 0), 1, 0, 0, 0, 0), (3, (.iload_n 1), 1, 0, 0, 0, 0), (4, (.invokevirtual 41), 3, 56, 1, 1, 565), (7, (.ifCond .eq 7), 3, 14, 0, 0, 0), (10, (.lconst 1), 1, 0, 0, 0, 0), (11, (.goto 4), 3, 15, 0, 0, 0), (14, (.lconst 0), 1, 0, 0, 0, 0), (15, .lastore, 1, 0, 0, 0, 0), (16, (.goto 6), 3, 22, 0, 0, 0), (19, (.astore_n 3), 1, 0, 0, 0, 0), (20, (.iconst 1), 1, 0, 0, 0, 0), (21, .ireturn, 1, 0, 0, 0, 0), (22, (.iconst 0), 1, 0, 0, 0, 0), (23, .ireturn, 1, 0, 0, 0, 0)]
def c56 : List (Nat × En) := [(0, (.aload_n 0), 1, 0, 0, 0, 0), (1, (.invokevirtual 48), 3, 29, 0, 1, 431), (4, (.aload_n 0), 1, 0, 0, 0, 0), (5, (.getfield 10), 3, 0, 0, 2, 297), (8, (.getfield 119), 3, 2, 13, 1, 176), (11, (.iload_n 1), 1, 0, 0, 0, 0), (12, (.if_icmp .eq 7), 3, 19, 0, 0, 0), (15, (.iconst 1), 1, 0, 0, 0, 0), (16, (.goto 4), 3, 20, 0, 0, 0), (19, (.iconst 0), 1, 0, 0, 0, 0), (20, (.istore_n 2), 1, 0, 0, 0, 0), (21, (.aload_n 0), 1, 0, 0, 0, 0), (22, (.getfield 10), 3, 0, 0, 2, 297), (25, (.iload_n 1), 1, 0, 0, 0, 0), (26, (.putfield 119), 3, 2, 13, 1, 176), (29, (.iload_n 2), 1, 0, 0, 0, 0), (30, .ireturn, 1, 0, 0, 0, 0)]
def c57 : List (Nat × En) := [(0, (.aload_n 3), 1, 0, 0, 0, 0), (1, (.iconst 0), 1, 0, 0, 0, 0), (2, (.aload_n 0), 1, 0, 0, 0, 0), (3, (.iload_n 1), 1, 0, 0, 0, 0), (4, (.iload_n 2), 1, 0, 0, 0, 0), (5, (.invokevirtual 45), 3, 58, 2, 1, 572), (8, .i2l, 1, 0, 0, 0, 0), (9, .lastore, 1, 0, 0, 0, 0), (10, (.goto 15), 3, 25, 0, 0, 0), (13, (.astore 4), 2, 0, 0, 0, 0), (15, (.iconst 1), 1, 0, 0, 0, 0), (16, .ireturn, 1, 0, 0, 0, 0), (17, (.astore 4), 2, 0, 0, 0, 0), (19, (.iconst 2), 1, 0, 0, 0, 0), (20, .ireturn, 1, 0, 0, 0, 0), (21, (.astore 4), 2, 0, 0, 0, 0), (23, (.iconst 3), 1, 0, 0, 0, 0), (24, .ireturn, 1, 0, 0, 0, 0), (25, (.iconst 0), 1, 0, 0, 0, 0), (26, .ireturn, 1, 0, 0, 0, 0)]
def c58 : List (Nat × En) := [(0, (.iload_n 1), 1, 0, 0, 0, 0), (1, (.bipush 12), 2, 0, 0, 0, 0), (3, (.invokestatic 58), 3, 34, 2, 0, 467), (6, (.iload_n 2), 1, 0, 0, 0, 0), (7, (.ifCond .lt 9), 3, 16, 0, 0, 0), (10, (.iload_n 2), 1, 0, 0, 0, 0), (11, (.bipush 61), 2, 0, 0, 0, 0), (13, (.if_icmp .le 13), 3, 26, 0, 0, 0), (16, (.new 41), 3, 900, 576, 405, 363), (19, .dup, 1, 0, 0, 0, 0), (20, (.ldc 123), 2, 0, 0, 0, 0), (22, (.invokespecial 45), 3, 9009, 1, 2, 405), (25, .athrow, 1, 0, 0, 0, 0), (26, (.aload_n 0), 1, 0, 0, 0, 0), (27, (.invokevirtual 48), 3, 29, 0, 1, 431), (30, (.aload_n 0), 1, 0, 0, 0, 0), (31, (.getfield 10), 3, 0, 0, 2, 297), (34, (.getfield 125), 3, 2, 3, 2, 156), (37, (.iload_n 1), 1, 0, 0, 0, 0), (38, .aaload, 1, 0, 0, 0, 0), (39, (.getfield 129), 3, 5, 1, 0, 145), (42, (.istore_n 3), 1, 0, 0, 0, 0), (43, (.aload_n 0), 1, 0, 0, 0, 0), (44, (.getfield 10), 3, 0, 0, 2, 297), (47, (.getfield 125), 3, 2, 3, 2, 156), (50, (.iload_n 1), 1, 0, 0, 0, 0), (51, .aaload, 1, 0, 0, 0, 0), (52, (.iload_n 2), 1, 0, 0, 0, 0), (53, (.invokevirtual 134), 3, 12, 1, 1, 577), (56, (.aload_n 0), 1, 0, 0, 0, 0), (57, (.getfield 10), 3, 0, 0, 2, 297), (60, (.getfield 137), 3, 2, 8, 2, 166), (63, (.getfield 140), 3, 6, 1, 2, 105), (66, (.iload_n 1), 1, 0, 0, 0, 0), (67, (.iconst 0), 1, 0, 0, 0, 0), (68, .iastore, 1, 0, 0, 0, 0), (69, (.aload_n 0), 1, 0, 0, 0, 0), (70, (.getfield 19), 3, 0, 1, 2, 298), (73, (.invokevirtual 55), 3, 30, 0, 1, 451), (76, (.iload_n 3), 1, 0, 0, 0, 0), (77, .ireturn, 1, 0, 0, 0, 0)]
def c59 : List (Nat × En) := [(0, (.aload 4), 2, 0, 0, 0, 0), (2, (.iconst 0), 1, 0, 0, 0, 0), (3, (.aload_n 0), 1, 0, 0, 0, 0), (4, (.iload_n 1), 1, 0, 0, 0, 0), (5, (.iload_n 2), 1, 0, 0, 0, 0), (6, (.iload_n 3), 1, 0, 0, 0, 0), (7, (.invokevirtual 48), 3, 60, 3, 1, 581), (10, (.ifCond .eq 7), 3, 17, 0, 0, 0), (13, (.lconst 1), 1, 0, 0, 0, 0), (14, (.goto 4), 3, 18, 0, 0, 0), (17, (.lconst 0), 1, 0, 0, 0, 0), (18, .lastore, 1, 0, 0, 0, 0), (19, (.goto 11), 3, 30, 0, 0, 0), (22, (.astore 5), 2, 0, 0, 0, 0), (24, (.iconst 1), 1, 0, 0, 0, 0), (25, .ireturn, 1, 0, 0, 0, 0), (26, (.astore 5), 2, 0, 0, 0, 0), (28, (.iconst 2), 1, 0, 0, 0, 0), (29, .ireturn, 1, 0, 0, 0, 0), (30, (.iconst 0), 1, 0, 0, 0, 0), (31, .ireturn, 1, 0, 0, 0, 0)]
def c60 : List (Nat × En) := [(0, (.iload_n 1), 1, 0, 0, 0, 0), (1, (.bipush 12), 2, 0, 0, 0, 0), (3, (.invokestatic 58), 3, 34, 2, 0, 467), (6, (.iload_n 2), 1, 0, 0, 0, 0), (7, (.aload_n 0), 1, 0, 0, 0, 0), (8, (.getfield 10), 3, 0, 0, 2, 297), (11, (.getfield 125), 3, 2, 3, 2, 156), (14, (.iload_n 1), 1, 0, 0, 0, 0), (15, .aaload, 1, 0, 0, 0, 0), (16, (.getfield 129), 3, 5, 1, 0, 145), (19, (.invokestatic 58), 3, 34, 2, 0, 467), (22, (.aload_n 0), 1, 0, 0, 0, 0), (23, (.invokevirtual 48), 3, 29, 0, 1, 431), (26, (.aload_n 0), 1, 0, 0, 0, 0), (27, (.getfield 10), 3, 0, 0, 2, 297), (30, (.getfield 125), 3, 2, 3, 2, 156), (33, (.iload_n 1), 1, 0, 0, 0, 0), (34, .aaload, 1, 0, 0, 0, 0), (35, (.getfield 144), 3, 5, 0, 2, 141), (38, (.iload_n 2), 1, 0, 0, 0, 0), (39, (.iload_n 3), 1, 0, 0, 0, 0), (40, (.invokestatic 79), 3, 41, 3, 0, 508), (43, .ireturn, 1, 0, 0, 0, 0)]
def c61 : List (Nat × En) := [(0, (.aload_n 0), 1, 0, 0, 0, 0), (1, (.iload_n 1), 1, 0, 0, 0, 0), (2, (.iload_n 2), 1, 0, 0, 0, 0), (3, (.iload_n 3), 1, 0, 0, 0, 0), (4, (.invokevirtual 51), 3, 62, 3, 1, 588), (7, (.goto 11), 3, 18, 0, 0, 0), (10, (.astore 4), 2, 0, 0, 0, 0), (12, (.iconst 1), 1, 0, 0, 0, 0), (13, .ireturn, 1, 0, 0, 0, 0), (14, (.astore 4), 2, 0, 0, 0, 0), (16, (.iconst 2), 1, 0, 0, 0, 0), (17, .ireturn, 1, 0, 0, 0, 0), (18, (.iconst 0), 1, 0, 0, 0, 0), (19, .ireturn, 1, 0, 0, 0, 0)]
def c62 : List (Nat × En) := [(0, (.iload_n 1), 1, 0, 0, 0, 0), (1, (.bipush 27), 2, 0, 0, 0, 0), (3, (.invokestatic 58), 3, 34, 2, 0, 467), (6, (.iload_n 2), 1, 0, 0, 0, 0), (7, (.bipush 12), 2, 0, 0, 0, 0), (9, (.invokestatic 83), 3, 44, 2, 0, 518), (12, (.iload_n 3), 1, 0, 0, 0, 0), (13, (.bipush 12), 2, 0, 0, 0, 0), (15, (.invokestatic 83), 3, 44, 2, 0, 518), (18, (.aload_n 0), 1, 0, 0, 0, 0), (19, (.invokevirtual 48), 3, 29, 0, 1, 431), (22, (.aload_n 0), 1, 0, 0, 0, 0), (23, (.getfield 10), 3, 0, 0, 2, 297), (26, (.getfield 147), 3, 2, 4, 2, 158), (29, (.iload_n 1), 1, 0, 0, 0, 0), (30, (.iload_n 2), 1, 0, 0, 0, 0), (31, .iastore, 1, 0, 0, 0, 0), (32, (.aload_n 0), 1, 0, 0, 0, 0), (33, (.getfield 10), 3, 0, 0, 2, 297), (36, (.getfield 150), 3, 2, 5, 2, 160), (39, (.iload_n 1), 1, 0, 0, 0, 0), (40, (.iload_n 3), 1, 0, 0, 0, 0), (41, .iastore, 1, 0, 0, 0, 0), (42, .return_, 1, 0, 0, 0, 0)]
def c63 : List (Nat × En) := [(0, (.aload_n 2), 1, 0, 0, 0, 0), (1, (.iconst 0), 1, 0, 0, 0, 0), (2, (.aload_n 0), 1, 0, 0, 0, 0), (3, (.iload_n 1), 1, 0, 0, 0, 0), (4, (.invokevirtual 54), 3, 64, 1, 1, 595), (7, .i2l, 1, 0, 0, 0, 0), (8, .lastore, 1, 0, 0, 0, 0), (9, (.goto 9), 3, 18, 0, 0, 0), (12, (.astore_n 3), 1, 0, 0, 0, 0), (13, (.iconst 1), 1, 0, 0, 0, 0), (14, .ireturn, 1, 0, 0, 0, 0), (15, (.astore_n 3), 1, 0, 0, 0, 0), (16, (.iconst 2), 1, 0, 0, 0, 0), (17, .ireturn, 1, 0, 0, 0, 0), (18, (.iconst 0), 1, 0, 0, 0, 0), (19, .ireturn, 1, 0, 0, 0, 0)]
def c64 : List (Nat × En) := [(0, (.iload_n 1), 1, 0, 0, 0, 0), (1, (.iconst 5), 1, 0, 0, 0, 0), (2, (.invokestatic 58), 3, 34, 2, 0, 467), (5, (.aload_n 0), 1, 0, 0, 0, 0), (6, (.invokevirtual 48), 3, 29, 0, 1, 431), (9, (.aload_n 0), 1, 0, 0, 0, 0), (10, (.getfield 10), 3, 0, 0, 2, 297), (13, (.getfield 153), 3, 2, 11, 0, 172), (16, (.istore_n 2), 1, 0, 0, 0, 0), (17, (.aload_n 0), 1, 0, 0, 0, 0), (18, (.getfield 10), 3, 0, 0, 2, 297), (21, (.iload_n 1), 1, 0, 0, 0, 0), (22, (.putfield 153), 3, 2, 11, 0, 172), (25, (.iload_n 2), 1, 0, 0, 0, 0), (26, .ireturn, 1, 0, 0, 0, 0)]
def c65 : List (Nat × En) := [(0, (.aload_n 2), 1, 0, 0, 0, 0), (1, (.iconst 0), 1, 0, 0, 0, 0), (2, (.aload_n 0), 1, 0, 0, 0, 0), (3, (.iload_n 1), 1, 0, 0, 0, 0), (4, (.invokevirtual 57), 3, 66, 1, 1, 602), (7, .i2l, 1, 0, 0, 0, 0), (8, .lastore, 1, 0, 0, 0, 0), (9, (.goto 9), 3, 18, 0, 0, 0), (12, (.astore_n 3), 1, 0, 0, 0, 0), (13, (.iconst 1), 1, 0, 0, 0, 0), (14, .ireturn, 1, 0, 0, 0, 0), (15, (.astore_n 3), 1, 0, 0, 0, 0), (16, (.iconst 2), 1, 0, 0, 0, 0), (17, .ireturn, 1, 0, 0, 0, 0), (18, (.iconst 0), 1, 0, 0, 0, 0), (19, .ireturn, 1, 0, 0, 0, 0)]
def c66 : List (Nat × En) := [(0, (.iload_n 1), 1, 0, 0, 0, 0), (1, (.iconst 3), 1, 0, 0, 0, 0), (2, (.invokestatic 58), 3, 34, 2, 0, 467), (5, (.aload_n 0), 1, 0, 0, 0, 0), (6, (.invokevirtual 48), 3, 29, 0, 1, 431), (9, (.aload_n 0), 1, 0, 0, 0, 0), (10, (.getfield 10), 3, 0, 0, 2, 297), (13, (.getfield 156), 3, 2, 12, 0, 174), (16, (.istore_n 2), 1, 0, 0, 0, 0), (17, (.aload_n 0), 1, 0, 0, 0, 0), (18, (.getfield 10), 3, 0, 0, 2, 297), (21, (.iload_n 1), 1, 0, 0, 0, 0), (22, (.putfield 156), 3, 2, 12, 0, 174), (25, (.iload_n 2), 1, 0, 0, 0, 0), (26, .ireturn, 1, 0, 0, 0, 0)]
def c67 : List (Nat × En) := [(0, (.aload 4), 2, 0, 0, 0, 0), (2, (.iconst 0), 1, 0, 0, 0, 0), (3, (.aload_n 0), 1, 0, 0, 0, 0), (4, (.iload_n 1), 1, 0, 0, 0, 0), (5, (.iload_n 2), 1, 0, 0, 0, 0), (6, (.iload_n 3), 1, 0, 0, 0, 0), (7, (.invokevirtual 60), 3, 68, 3, 1, 609), (10, .i2l, 1, 0, 0, 0, 0), (11, .lastore, 1, 0, 0, 0, 0), (12, (.goto 11), 3, 23, 0, 0, 0), (15, (.astore 5), 2, 0, 0, 0, 0), (17, (.iconst 1), 1, 0, 0, 0, 0), (18, .ireturn, 1, 0, 0, 0, 0), (19, (.astore 5), 2, 0, 0, 0, 0), (21, (.iconst 2), 1, 0, 0, 0, 0), (22, .ireturn, 1, 0, 0, 0, 0), (23, (.iconst 0), 1, 0, 0, 0, 0), (24, .ireturn, 1, 0, 0, 0, 0)]
def c68 : List (Nat × En) := [(0, (.iload_n 1), 1, 0, 0, 0, 0), (1, (.iload_n 2), 1, 0, 0, 0, 0), (2, (.invokestatic 159), 3, 69, 2, 0, 613), (5, (.iload_n 3), 1, 0, 0, 0, 0), (6, (.iload_n 1), 1, 0, 0, 0, 0), (7, (.ifCond .ne 13), 3, 20, 0, 0, 0), (10, (.aload_n 0), 1, 0, 0, 0, 0), (11, (.getfield 10), 3, 0, 0, 2, 297), (14, (.getfield 51), 3, 2, 9, 0, 167), (17, (.goto 15), 3, 32, 0, 0, 0), (20, (.aload_n 0), 1, 0, 0, 0, 0), (21, (.getfield 10), 3, 0, 0, 2, 297), (24, (.getfield 125), 3, 2, 3, 2, 156), (27, (.iload_n 2), 1, 0, 0, 0, 0), (28, .aaload, 1, 0, 0, 0, 0), (29, (.getfield 129), 3, 5, 1, 0, 145), (32, (.invokestatic 58), 3, 34, 2, 0, 467), (35, (.aload_n 0), 1, 0, 0, 0, 0), (36, (.invokevirtual 48), 3, 29, 0, 1, 431), (39, (.aload_n 0), 1, 0, 0, 0, 0), (40, (.iload_n 1), 1, 0, 0, 0, 0), (41, (.invokevirtual 162), 3, 70, 1, 1, 616), (44, (.astore 4), 2, 0, 0, 0, 0), (46, (.aload 4), 2, 0, 0, 0, 0), (48, (.iload_n 2), 1, 0, 0, 0, 0), (49, .iaload, 1, 0, 0, 0, 0), (50, (.istore 5), 2, 0, 0, 0, 0), (52, (.aload 4), 2, 0, 0, 0, 0), (54, (.iload_n 2), 1, 0, 0, 0, 0), (55, (.iload_n 3), 1, 0, 0, 0, 0), (56, .iastore, 1, 0, 0, 0, 0), (57, (.aload_n 0), 1, 0, 0, 0, 0), (58, (.getfield 19), 3, 0, 1, 2, 298), (61, (.invokevirtual 55), 3, 30, 0, 1, 451), (64, (.iload 5), 2, 0, 0, 0, 0), (66, .ireturn, 1, 0, 0, 0, 0)]
def c69 : List (Nat × En) := [(0, (.iload_n 0), 1, 0, 0, 0, 0), (1, (.iconst 2), 1, 0, 0, 0, 0), (2, (.invokestatic 58), 3, 34, 2, 0, 467), (5, (.iload_n 1), 1, 0, 0, 0, 0), (6, (.iload_n 0), 1, 0, 0, 0, 0), (7, (.ifCond .ne 8), 3, 15, 0, 0, 0), (10, (.bipush 6), 2, 0, 0, 0, 0), (12, (.goto 5), 3, 17, 0, 0, 0), (15, (.bipush 12), 2, 0, 0, 0, 0), (17, (.invokestatic 58), 3, 34, 2, 0, 467), (20, .return_, 1, 0, 0, 0, 0)]
def c70 : List (Nat × En) := [(0, (.iload_n 1), 1, 0, 0, 0, 0), (1, (.ifCond .ne 16), 3, 17, 0, 0, 0), (4, (.aload_n 0), 1, 0, 0, 0, 0), (5, (.getfield 10), 3, 0, 0, 2, 297), (8, (.getfield 137), 3, 2, 8, 2, 166), (11, (.getfield 275), 3, 6, 0, 2, 102), (14, (.goto 13), 3, 27, 0, 0, 0), (17, (.aload_n 0), 1, 0, 0, 0, 0), (18, (.getfield 10), 3, 0, 0, 2, 297), (21, (.getfield 137), 3, 2, 8, 2, 166), (24, (.getfield 140), 3, 6, 1, 2, 105), (27, .areturn, 1, 0, 0, 0, 0)]
def c71 : List (Nat × En) := [(0, (.aload_n 2), 1, 0, 0, 0, 0), (1, (.iconst 0), 1, 0, 0, 0, 0), (2, (.aload_n 0), 1, 0, 0, 0, 0), (3, (.iload_n 1), 1, 0, 0, 0, 0), (4, (.invokevirtual 63), 3, 72, 1, 1, 623), (7, .i2l, 1, 0, 0, 0, 0), (8, .lastore, 1, 0, 0, 0, 0), (9, (.goto 9), 3, 18, 0, 0, 0), (12, (.astore_n 3), 1, 0, 0, 0, 0), (13, (.iconst 1), 1, 0, 0, 0, 0), (14, .ireturn, 1, 0, 0, 0, 0), (15, (.astore_n 3), 1, 0, 0, 0, 0), (16, (.iconst 2), 1, 0, 0, 0, 0), (17, .ireturn, 1, 0, 0, 0, 0), (18, (.iconst 0), 1, 0, 0, 0, 0), (19, .ireturn, 1, 0, 0, 0, 0)]
def c72 : List (Nat × En) := [(0, (.iload_n 1), 1, 0, 0, 0, 0), (1, (.aload_n 0), 1, 0, 0, 0, 0), (2, (.getfield 10), 3, 0, 0, 2, 297), (5, (.getfield 51), 3, 2, 9, 0, 167), (8, (.invokestatic 58), 3, 34, 2, 0, 467), (11, (.aload_n 0), 1, 0, 0, 0, 0), (12, (.getfield 26), 3, 0, 2, 2, 299), (15, (.invokevirtual 166), 3, 73, 0, 1, 627), (18, (.ifCond .eq 13), 3, 31, 0, 0, 0), (21, (.new 90), 3, 901, 631, 445, 435), (24, .dup, 1, 0, 0, 0, 0), (25, (.ldc 170), 2, 0, 0, 0, 0), (27, (.invokespecial 94), 3, 9009, 1, 2, 445), (30, .athrow, 1, 0, 0, 0, 0), (31, (.aload_n 0), 1, 0, 0, 0, 0), (32, (.getfield 19), 3, 0, 1, 2, 298), (35, (.aload_n 0), 1, 0, 0, 0, 0), (36, (.getfield 10), 3, 0, 0, 2, 297), (39, (.invokevirtual 172), 3, 74, 0, 1, 632), (42, (.invokevirtual 176), 3, 79, 1, 1, 652), (45, (.aload_n 0), 1, 0, 0, 0, 0), (46, (.getfield 10), 3, 0, 0, 2, 297), (49, (.iload_n 1), 1, 0, 0, 0, 0), (50, (.invokevirtual 179), 3, 17, 1, 1, 314), (53, (.istore_n 2), 1, 0, 0, 0, 0), (54, (.aload_n 0), 1, 0, 0, 0, 0), (55, (.getfield 26), 3, 0, 2, 2, 299), (58, (.iload_n 1), 1, 0, 0, 0, 0), (59, (.iload_n 2), 1, 0, 0, 0, 0), (60, (.invokevirtual 182), 3, 80, 2, 1, 660), (63, (.iload_n 2), 1, 0, 0, 0, 0), (64, .ireturn, 1, 0, 0, 0, 0)]
def c73 : List (Nat × En) := [(0, (.aload_n 0), 1, 0, 0, 0, 0), (1, (.getfield 22), 3, 1, 2, 1, 262), (4, (.ifCond .eq 26), 3, 30, 0, 0, 0), (7, (.aload_n 0), 1, 0, 0, 0, 0), (8, (.getfield 11), 3, 1, 0, 2, 258), (11, (.aload_n 0), 1, 0, 0, 0, 0), (12, (.getfield 18), 3, 1, 1, 0, 260), (15, (.iconst 1), 1, 0, 0, 0, 0), (16, .isub, 1, 0, 0, 0, 0), (17, .aaload, 1, 0, 0, 0, 0), (18, (.getfield 26), 3, 3, 3, 0, 247), (21, (.bipush 60), 2, 0, 0, 0, 0), (23, (.if_icmp .ne 7), 3, 30, 0, 0, 0), (26, (.iconst 1), 1, 0, 0, 0, 0), (27, (.goto 4), 3, 31, 0, 0, 0), (30, (.iconst 0), 1, 0, 0, 0, 0), (31, .ireturn, 1, 0, 0, 0, 0)]
def c74 : List (Nat × En) := [(0, (.iconst 0), 1, 0, 0, 0, 0), (1, (.istore_n 1), 1, 0, 0, 0, 0), (2, (.iconst 0), 1, 0, 0, 0, 0), (3, (.istore_n 2), 1, 0, 0, 0, 0), (4, (.iload_n 2), 1, 0, 0, 0, 0), (5, (.aload_n 0), 1, 0, 0, 0, 0), (6, (.getfield 74), 3, 2, 10, 0, 169), (9, (.if_icmp .ge 28), 3, 37, 0, 0, 0), (12, (.aload_n 0), 1, 0, 0, 0, 0), (13, (.iload_n 2), 1, 0, 0, 0, 0), (14, (.invokevirtual 90), 3, 75, 1, 1, 636), (17, (.ifCond .eq 14), 3, 31, 0, 0, 0), (20, (.iload_n 1), 1, 0, 0, 0, 0), (21, (.iconst 1), 1, 0, 0, 0, 0), (22, (.aload_n 0), 1, 0, 0, 0, 0), (23, (.getfield 21), 3, 2, 2, 2, 154), (26, (.iload_n 2), 1, 0, 0, 0, 0), (27, .iaload, 1, 0, 0, 0, 0), (28, .ishl, 1, 0, 0, 0, 0), (29, .ior, 1, 0, 0, 0, 0), (30, (.istore_n 1), 1, 0, 0, 0, 0), (31, (.iinc 2 1), 3, 0, 0, 0, 0), (34, (.goto (-30)), 3, 4, 0, 0, 0), (37, (.aload_n 0), 1, 0, 0, 0, 0), (38, (.iload_n 1), 1, 0, 0, 0, 0), (39, (.iconst 1), 1, 0, 0, 0, 0), (40, (.invokevirtual 94), 3, 78, 2, 1, 648), (43, (.iload_n 1), 1, 0, 0, 0, 0), (44, .ireturn, 1, 0, 0, 0, 0)]
def c75_0 : List (Nat × En) := [(0, (.aload_n 0), 1, 0, 0, 0, 0), (1, (.getfield 74), 3, 2, 10, 0, 169), (4, (.iconst 1), 1, 0, 0, 0, 0), (5, .isub, 1, 0, 0, 0, 0), (6, (.istore_n 2), 1, 0, 0, 0, 0), (7, (.aload_n 0), 1, 0, 0, 0, 0), (8, (.getfield 77), 3, 2, 11, 0, 171), (11, (.tableswitch 129 0 3 #[29, 35, 68, 93]), 29, 0, 0, 0, 0), (40, (.aload_n 0), 1, 0, 0, 0, 0), (41, (.iload_n 1), 1, 0, 0, 0, 0), (42, (.invokevirtual 108), 3, 76, 1, 1, 640), (45, .ireturn, 1, 0, 0, 0, 0), (46, (.iload_n 1), 1, 0, 0, 0, 0), (47, (.ifCond .eq 26), 3, 73, 0, 0, 0), (50, (.aload_n 0), 1, 0, 0, 0, 0), (51, (.iload_n 1), 1, 0, 0, 0, 0), (52, (.iconst 1), 1, 0, 0, 0, 0), (53, .isub, 1, 0, 0, 0, 0), (54, (.invokevirtual 111), 3, 77, 1, 1, 644), (57, (.ifCond .ne 16), 3, 73, 0, 0, 0), (60, (.iload_n 1), 1, 0, 0, 0, 0), (61, (.iload_n 2), 1, 0, 0, 0, 0), (62, (.if_icmp .eq 15), 3, 77, 0, 0, 0), (65, (.aload_n 0), 1, 0, 0, 0, 0), (66, (.iload_n 1), 1, 0, 0, 0, 0), (67, (.invokevirtual 111), 3, 77, 1, 1, 644), (70, (.ifCond .eq 7), 3, 77, 0, 0, 0), (73, (.iconst 1), 1, 0, 0, 0, 0), (74, (.goto 4), 3, 78, 0, 0, 0), (77, (.iconst 0), 1, 0, 0, 0, 0), (78, .ireturn, 1, 0, 0, 0, 0), (79, (.aload_n 0), 1, 0, 0, 0, 0), (80, (.iload_n 1), 1, 0, 0, 0, 0), (81, (.iload_n 2), 1, 0, 0, 0, 0), (82, (.if_icmp .ne 7), 3, 89, 0, 0, 0), (85, (.iconst 0), 1, 0, 0, 0, 0), (86, (.goto 6), 3, 92, 0, 0, 0), (89, (.iload_n 1), 1, 0, 0, 0, 0), (90, (.iconst 1), 1, 0, 0, 0, 0), (91, .iadd, 1, 0, 0, 0, 0)]
def c75_1 : List (Nat × En) := [(92, (.invokevirtual 111), 3, 77, 1, 1, 644), (95, (.ifCond .ne 7), 3, 102, 0, 0, 0), (98, (.iconst 1), 1, 0, 0, 0, 0), (99, (.goto 4), 3, 103, 0, 0, 0), (102, (.iconst 0), 1, 0, 0, 0, 0), (103, .ireturn, 1, 0, 0, 0, 0), (104, (.aload_n 0), 1, 0, 0, 0, 0), (105, (.getfield 26), 3, 2, 3, 2, 155), (108, (.aload_n 0), 1, 0, 0, 0, 0), (109, (.getfield 21), 3, 2, 2, 2, 154), (112, (.iload_n 1), 1, 0, 0, 0, 0), (113, .iaload, 1, 0, 0, 0, 0), (114, .aaload, 1, 0, 0, 0, 0), (115, (.getfield 87), 3, 5, 1, 0, 144), (118, (.ifCond .eq 16), 3, 134, 0, 0, 0), (121, (.aload_n 0), 1, 0, 0, 0, 0), (122, (.aload_n 0), 1, 0, 0, 0, 0), (123, (.getfield 21), 3, 2, 2, 2, 154), (126, (.iload_n 1), 1, 0, 0, 0, 0), (127, .iaload, 1, 0, 0, 0, 0), (128, (.invokevirtual 114), 3, 24, 1, 1, 341), (131, (.ifCond .eq 7), 3, 138, 0, 0, 0), (134, (.iconst 1), 1, 0, 0, 0, 0), (135, (.goto 4), 3, 139, 0, 0, 0), (138, (.iconst 0), 1, 0, 0, 0, 0), (139, .ireturn, 1, 0, 0, 0, 0), (140, (.iload_n 1), 1, 0, 0, 0, 0), (141, (.iload_n 2), 1, 0, 0, 0, 0), (142, (.if_icmp .eq 11), 3, 153, 0, 0, 0), (145, (.aload_n 0), 1, 0, 0, 0, 0), (146, (.iload_n 2), 1, 0, 0, 0, 0), (147, (.invokevirtual 111), 3, 77, 1, 1, 644), (150, (.ifCond .ne 7), 3, 157, 0, 0, 0), (153, (.iconst 1), 1, 0, 0, 0, 0), (154, (.goto 4), 3, 158, 0, 0, 0), (157, (.iconst 0), 1, 0, 0, 0, 0), (158, .ireturn, 1, 0, 0, 0, 0)]
def c75 : List (Nat × En) := c75_0 ++ (c75_1)
def c76 : List (Nat × En) := [(0, (.iconst 0), 1, 0, 0, 0, 0), (1, (.istore_n 2), 1, 0, 0, 0, 0), (2, (.iload_n 2), 1, 0, 0, 0, 0), (3, (.iload_n 1), 1, 0, 0, 0, 0), (4, (.if_icmp .ge 19), 3, 23, 0, 0, 0), (7, (.aload_n 0), 1, 0, 0, 0, 0), (8, (.iload_n 2), 1, 0, 0, 0, 0), (9, (.invokevirtual 111), 3, 77, 1, 1, 644), (12, (.ifCond .ne 5), 3, 17, 0, 0, 0), (15, (.iconst 0), 1, 0, 0, 0, 0), (16, .ireturn, 1, 0, 0, 0, 0), (17, (.iinc 2 1), 3, 0, 0, 0, 0), (20, (.goto (-18)), 3, 2, 0, 0, 0), (23, (.iconst 1), 1, 0, 0, 0, 0), (24, .ireturn, 1, 0, 0, 0, 0)]
def c77 : List (Nat × En) := [(0, (.aload_n 0), 1, 0, 0, 0, 0), (1, (.getfield 21), 3, 2, 2, 2, 154), (4, (.iload_n 1), 1, 0, 0, 0, 0), (5, .iaload, 1, 0, 0, 0, 0), (6, (.istore_n 2), 1, 0, 0, 0, 0), (7, (.aload_n 0), 1, 0, 0, 0, 0), (8, (.getfield 11), 3, 2, 0, 2, 151), (11, (.aload_n 0), 1, 0, 0, 0, 0), (12, (.getfield 17), 3, 2, 1, 2, 153), (15, (.iload_n 2), 1, 0, 0, 0, 0), (16, .iaload, 1, 0, 0, 0, 0), (17, .aaload, 1, 0, 0, 0, 0), (18, (.getfield 117), 3, 8, 2, 2, 122), (21, (.aload_n 0), 1, 0, 0, 0, 0), (22, (.getfield 49), 3, 2, 8, 2, 165), (25, (.getfield 98), 3, 6, 0, 2, 101), (28, (.iload_n 2), 1, 0, 0, 0, 0), (29, .iaload, 1, 0, 0, 0, 0), (30, .baload, 1, 0, 0, 0, 0), (31, .ireturn, 1, 0, 0, 0, 0)]
def c78_0 : List (Nat × En) := [(0, (.iconst 0), 1, 0, 0, 0, 0), (1, (.istore_n 3), 1, 0, 0, 0, 0), (2, (.iload_n 3), 1, 0, 0, 0, 0), (3, (.bipush 6), 2, 0, 0, 0, 0), (5, (.if_icmp .ge 45), 3, 50, 0, 0, 0), (8, (.iload_n 1), 1, 0, 0, 0, 0), (9, (.iload_n 3), 1, 0, 0, 0, 0), (10, .ishr, 1, 0, 0, 0, 0), (11, (.iconst 1), 1, 0, 0, 0, 0), (12, .iand, 1, 0, 0, 0, 0), (13, (.iconst 1), 1, 0, 0, 0, 0), (14, (.if_icmp .ne 30), 3, 44, 0, 0, 0), (17, (.aload_n 0), 1, 0, 0, 0, 0), (18, (.getfield 49), 3, 2, 8, 2, 165), (21, (.getfield 98), 3, 6, 0, 2, 101), (24, (.iload_n 3), 1, 0, 0, 0, 0), (25, (.aload_n 0), 1, 0, 0, 0, 0), (26, (.getfield 49), 3, 2, 8, 2, 165), (29, (.getfield 98), 3, 6, 0, 2, 101), (32, (.iload_n 3), 1, 0, 0, 0, 0), (33, .iaload, 1, 0, 0, 0, 0), (34, (.iload_n 2), 1, 0, 0, 0, 0), (35, .iadd, 1, 0, 0, 0, 0), (36, (.aload_n 0), 1, 0, 0, 0, 0), (37, (.getfield 70), 3, 2, 9, 0, 168), (40, (.invokestatic 101), 3, 21, 2, 4, 353), (43, .iastore, 1, 0, 0, 0, 0), (44, (.iinc 3 1), 3, 0, 0, 0, 0), (47, (.goto (-45)), 3, 2, 0, 0, 0), (50, (.iconst 0), 1, 0, 0, 0, 0), (51, (.istore_n 3), 1, 0, 0, 0, 0), (52, (.iload_n 3), 1, 0, 0, 0, 0), (53, (.bipush 12), 2, 0, 0, 0, 0), (55, (.if_icmp .ge 53), 3, 108, 0, 0, 0), (58, (.aload_n 0), 1, 0, 0, 0, 0), (59, (.getfield 26), 3, 2, 3, 2, 155), (62, (.iload_n 3), 1, 0, 0, 0, 0), (63, .aaload, 1, 0, 0, 0, 0), (64, (.getfield 87), 3, 5, 1, 0, 144), (67, (.ifCond .le 35), 3, 102, 0, 0, 0)]
def c78_1 : List (Nat × En) := [(70, (.aload_n 0), 1, 0, 0, 0, 0), (71, (.getfield 49), 3, 2, 8, 2, 165), (74, (.getfield 105), 3, 6, 1, 2, 104), (77, (.iload_n 3), 1, 0, 0, 0, 0), (78, (.aload_n 0), 1, 0, 0, 0, 0), (79, (.getfield 49), 3, 2, 8, 2, 165), (82, (.getfield 105), 3, 6, 1, 2, 104), (85, (.iload_n 3), 1, 0, 0, 0, 0), (86, .iaload, 1, 0, 0, 0, 0), (87, (.iload_n 2), 1, 0, 0, 0, 0), (88, .iadd, 1, 0, 0, 0, 0), (89, (.aload_n 0), 1, 0, 0, 0, 0), (90, (.getfield 26), 3, 2, 3, 2, 155), (93, (.iload_n 3), 1, 0, 0, 0, 0), (94, .aaload, 1, 0, 0, 0, 0), (95, (.getfield 87), 3, 5, 1, 0, 144), (98, (.invokestatic 101), 3, 21, 2, 4, 353), (101, .iastore, 1, 0, 0, 0, 0), (102, (.iinc 3 1), 3, 0, 0, 0, 0), (105, (.goto (-53)), 3, 52, 0, 0, 0), (108, .return_, 1, 0, 0, 0, 0)]
def c78 : List (Nat × En) := c78_0 ++ (c78_1)
def c79 : List (Nat × En) := [(0, (.aload_n 0), 1, 0, 0, 0, 0), (1, (.getfield 9), 3, 7, 0, 2, 212), (4, (.aload_n 0), 1, 0, 0, 0, 0), (5, (.getfield 19), 3, 7, 1, 0, 213), (8, (.iload_n 1), 1, 0, 0, 0, 0), (9, .iastore, 1, 0, 0, 0, 0), (10, (.aload_n 0), 1, 0, 0, 0, 0), (11, (.aload_n 0), 1, 0, 0, 0, 0), (12, (.getfield 19), 3, 7, 1, 0, 213), (15, (.iconst 1), 1, 0, 0, 0, 0), (16, .iadd, 1, 0, 0, 0, 0), (17, (.bipush 40), 2, 0, 0, 0, 0), (19, (.invokestatic 22), 3, 21, 2, 4, 656), (22, (.putfield 19), 3, 7, 1, 0, 213), (25, (.aload_n 0), 1, 0, 0, 0, 0), (26, (.aload_n 0), 1, 0, 0, 0, 0), (27, (.getfield 15), 3, 7, 2, 0, 214), (30, (.iconst 1), 1, 0, 0, 0, 0), (31, .iadd, 1, 0, 0, 0, 0), (32, (.bipush 40), 2, 0, 0, 0, 0), (34, (.invokestatic 26), 3, 9002, 2, 0, 657), (37, (.putfield 15), 3, 7, 2, 0, 214), (40, .return_, 1, 0, 0, 0, 0)]
def c80 : List (Nat × En) := [(0, (.aload_n 0), 1, 0, 0, 0, 0), (1, (.getfield 22), 3, 1, 2, 1, 262), (4, (.ifCond .eq 45), 3, 49, 0, 0, 0), (7, (.aload_n 0), 1, 0, 0, 0, 0), (8, (.getfield 11), 3, 1, 0, 2, 258), (11, (.aload_n 0), 1, 0, 0, 0, 0), (12, (.getfield 18), 3, 1, 1, 0, 260), (15, (.iconst 1), 1, 0, 0, 0, 0), (16, .isub, 1, 0, 0, 0, 0), (17, .aaload, 1, 0, 0, 0, 0), (18, (.astore_n 3), 1, 0, 0, 0, 0), (19, (.aload_n 3), 1, 0, 0, 0, 0), (20, (.getfield 37), 3, 3, 1, 2, 242), (23, (.aload_n 3), 1, 0, 0, 0, 0), (24, (.getfield 26), 3, 3, 3, 0, 247), (27, (.iload_n 1), 1, 0, 0, 0, 0), (28, .iastore, 1, 0, 0, 0, 0), (29, (.aload_n 3), 1, 0, 0, 0, 0), (30, (.getfield 41), 3, 3, 2, 2, 245), (33, (.aload_n 3), 1, 0, 0, 0, 0), (34, (.getfield 26), 3, 3, 3, 0, 247), (37, (.iload_n 2), 1, 0, 0, 0, 0), (38, .iastore, 1, 0, 0, 0, 0), (39, (.aload_n 3), 1, 0, 0, 0, 0), (40, .dup, 1, 0, 0, 0, 0), (41, (.getfield 26), 3, 3, 3, 0, 247), (44, (.iconst 1), 1, 0, 0, 0, 0), (45, .iadd, 1, 0, 0, 0, 0), (46, (.putfield 26), 3, 3, 3, 0, 247), (49, .return_, 1, 0, 0, 0, 0)]
def c81 : List (Nat × En) := [(0, (.aload_n 2), 1, 0, 0, 0, 0), (1, (.iconst 0), 1, 0, 0, 0, 0), (2, (.aload_n 0), 1, 0, 0, 0, 0), (3, (.iload_n 1), 1, 0, 0, 0, 0), (4, (.invokevirtual 66), 3, 82, 1, 1, 667), (7, .i2l, 1, 0, 0, 0, 0), (8, .lastore, 1, 0, 0, 0, 0), (9, (.goto 9), 3, 18, 0, 0, 0), (12, (.astore_n 3), 1, 0, 0, 0, 0), (13, (.iconst 1), 1, 0, 0, 0, 0), (14, .ireturn, 1, 0, 0, 0, 0), (15, (.astore_n 3), 1, 0, 0, 0, 0), (16, (.iconst 2), 1, 0, 0, 0, 0), (17, .ireturn, 1, 0, 0, 0, 0), (18, (.iconst 0), 1, 0, 0, 0, 0), (19, .ireturn, 1, 0, 0, 0, 0)]
def c82 : List (Nat × En) := [(0, (.iload_n 1), 1, 0, 0, 0, 0), (1, (.aload_n 0), 1, 0, 0, 0, 0), (2, (.getfield 10), 3, 0, 0, 2, 297), (5, (.getfield 51), 3, 2, 9, 0, 167), (8, (.invokestatic 58), 3, 34, 2, 0, 467), (11, (.aload_n 0), 1, 0, 0, 0, 0), (12, (.invokevirtual 48), 3, 29, 0, 1, 431), (15, (.aload_n 0), 1, 0, 0, 0, 0), (16, (.getfield 19), 3, 0, 1, 2, 298), (19, (.aload_n 0), 1, 0, 0, 0, 0), (20, (.getfield 10), 3, 0, 0, 2, 297), (23, (.invokevirtual 172), 3, 74, 0, 1, 632), (26, (.invokevirtual 176), 3, 79, 1, 1, 652), (29, (.aload_n 0), 1, 0, 0, 0, 0), (30, (.getfield 10), 3, 0, 0, 2, 297), (33, (.iload_n 1), 1, 0, 0, 0, 0), (34, (.invokevirtual 184), 3, 83, 1, 1, 671), (37, .ireturn, 1, 0, 0, 0, 0)]
def c83 : List (Nat × En) := [(0, (.aload_n 0), 1, 0, 0, 0, 0), (1, (.getfield 39), 3, 2, 6, 2, 161), (4, (.getfield 128), 3, 4, 0, 2, 85), (7, (.iload_n 1), 1, 0, 0, 0, 0), (8, .iaload, 1, 0, 0, 0, 0), (9, (.istore_n 2), 1, 0, 0, 0, 0), (10, (.aload_n 0), 1, 0, 0, 0, 0), (11, (.getfield 80), 3, 2, 12, 0, 173), (14, (.ifCond .ne 14), 3, 28, 0, 0, 0), (17, (.aload_n 0), 1, 0, 0, 0, 0), (18, (.getfield 83), 3, 2, 13, 1, 175), (21, (.ifCond .ne 7), 3, 28, 0, 0, 0), (24, (.iconst 1), 1, 0, 0, 0, 0), (25, (.goto 4), 3, 29, 0, 0, 0), (28, (.iconst 0), 1, 0, 0, 0, 0), (29, (.istore_n 3), 1, 0, 0, 0, 0), (30, (.aload_n 0), 1, 0, 0, 0, 0), (31, (.getfield 39), 3, 2, 6, 2, 161), (34, (.getfield 128), 3, 4, 0, 2, 85), (37, (.iload_n 3), 1, 0, 0, 0, 0), (38, (.ifCond .eq 11), 3, 49, 0, 0, 0), (41, (.aload_n 0), 1, 0, 0, 0, 0), (42, (.iload_n 2), 1, 0, 0, 0, 0), (43, (.invokevirtual 135), 3, 22, 1, 1, 333), (46, (.goto 8), 3, 54, 0, 0, 0), (49, (.aload_n 0), 1, 0, 0, 0, 0), (50, (.iload_n 2), 1, 0, 0, 0, 0), (51, (.invokevirtual 131), 3, 18, 1, 1, 318), (54, .iaload, 1, 0, 0, 0, 0), (55, .ireturn, 1, 0, 0, 0, 0)]
def c84 : List (Nat × En) := [(0, (.aload_n 2), 1, 0, 0, 0, 0), (1, (.iconst 0), 1, 0, 0, 0, 0), (2, (.aload_n 0), 1, 0, 0, 0, 0), (3, (.iload_n 1), 1, 0, 0, 0, 0), (4, (.invokevirtual 69), 3, 85, 1, 1, 678), (7, .i2l, 1, 0, 0, 0, 0), (8, .lastore, 1, 0, 0, 0, 0), (9, (.goto 6), 3, 15, 0, 0, 0), (12, (.astore_n 3), 1, 0, 0, 0, 0), (13, (.iconst 1), 1, 0, 0, 0, 0), (14, .ireturn, 1, 0, 0, 0, 0), (15, (.iconst 0), 1, 0, 0, 0, 0), (16, .ireturn, 1, 0, 0, 0, 0)]
def c85 : List (Nat × En) := [(0, (.iload_n 1), 1, 0, 0, 0, 0), (1, (.aload_n 0), 1, 0, 0, 0, 0), (2, (.getfield 10), 3, 0, 0, 2, 297), (5, (.getfield 51), 3, 2, 9, 0, 167), (8, (.invokestatic 58), 3, 34, 2, 0, 467), (11, (.aload_n 0), 1, 0, 0, 0, 0), (12, (.getfield 10), 3, 0, 0, 2, 297), (15, (.iload_n 1), 1, 0, 0, 0, 0), (16, (.invokevirtual 179), 3, 17, 1, 1, 314), (19, .ireturn, 1, 0, 0, 0, 0)]
def c86 : List (Nat × En) := [(0, (.aload_n 3), 1, 0, 0, 0, 0), (1, (.iconst 0), 1, 0, 0, 0, 0), (2, (.aload_n 0), 1, 0, 0, 0, 0), (3, (.iload_n 1), 1, 0, 0, 0, 0), (4, (.iload_n 2), 1, 0, 0, 0, 0), (5, (.invokevirtual 72), 3, 87, 2, 1, 685), (8, .i2l, 1, 0, 0, 0, 0), (9, .lastore, 1, 0, 0, 0, 0), (10, (.goto 7), 3, 17, 0, 0, 0), (13, (.astore 4), 2, 0, 0, 0, 0), (15, (.iconst 1), 1, 0, 0, 0, 0), (16, .ireturn, 1, 0, 0, 0, 0), (17, (.iconst 0), 1, 0, 0, 0, 0), (18, .ireturn, 1, 0, 0, 0, 0)]
def c87 : List (Nat × En) := [(0, (.iload_n 1), 1, 0, 0, 0, 0), (1, (.iload_n 2), 1, 0, 0, 0, 0), (2, (.invokestatic 159), 3, 69, 2, 0, 613), (5, (.aload_n 0), 1, 0, 0, 0, 0), (6, (.iload_n 1), 1, 0, 0, 0, 0), (7, (.invokevirtual 162), 3, 70, 1, 1, 616), (10, (.iload_n 2), 1, 0, 0, 0, 0), (11, .iaload, 1, 0, 0, 0, 0), (12, .ireturn, 1, 0, 0, 0, 0)]
def c88 : List (Nat × En) := [(0, (.aload_n 1), 1, 0, 0, 0, 0), (1, (.iconst 0), 1, 0, 0, 0, 0), (2, (.aload_n 0), 1, 0, 0, 0, 0), (3, (.invokevirtual 75), 3, 89, 0, 1, 692), (6, .i2l, 1, 0, 0, 0, 0), (7, .lastore, 1, 0, 0, 0, 0), (8, (.goto 6), 3, 14, 0, 0, 0), (11, (.astore_n 2), 1, 0, 0, 0, 0), (12, (.iconst 1), 1, 0, 0, 0, 0), (13, .ireturn, 1, 0, 0, 0, 0), (14, (.iconst 0), 1, 0, 0, 0, 0), (15, .ireturn, 1, 0, 0, 0, 0)]
def c89 : List (Nat × En) := [(0, (.aload_n 0), 1, 0, 0, 0, 0), (1, (.invokevirtual 48), 3, 29, 0, 1, 431), (4, (.aload_n 0), 1, 0, 0, 0, 0), (5, (.getfield 19), 3, 0, 1, 2, 298), (8, (.getfield 187), 3, 7, 2, 0, 215), (11, (.ifCond .ne 13), 3, 24, 0, 0, 0), (14, (.new 90), 3, 901, 696, 445, 435), (17, .dup, 1, 0, 0, 0, 0), (18, (.ldc 190), 2, 0, 0, 0, 0), (20, (.invokespecial 94), 3, 9009, 1, 2, 445), (23, .athrow, 1, 0, 0, 0, 0), (24, (.aload_n 0), 1, 0, 0, 0, 0), (25, (.getfield 10), 3, 0, 0, 2, 297), (28, (.aload_n 0), 1, 0, 0, 0, 0), (29, (.getfield 19), 3, 0, 1, 2, 298), (32, (.invokevirtual 192), 3, 90, 0, 1, 697), (35, (.invokevirtual 195), 3, 91, 1, 1, 701), (38, (.aload_n 0), 1, 0, 0, 0, 0), (39, (.getfield 19), 3, 0, 1, 2, 298), (42, (.getfield 187), 3, 7, 2, 0, 215), (45, .ireturn, 1, 0, 0, 0, 0)]
def c90 : List (Nat × En) := [(0, (.aload_n 0), 1, 0, 0, 0, 0), (1, (.aload_n 0), 1, 0, 0, 0, 0), (2, (.getfield 19), 3, 7, 1, 0, 213), (5, (.iconst 1), 1, 0, 0, 0, 0), (6, .isub, 1, 0, 0, 0, 0), (7, (.bipush 40), 2, 0, 0, 0, 0), (9, (.invokestatic 22), 3, 21, 2, 4, 656), (12, (.putfield 19), 3, 7, 1, 0, 213), (15, (.aload_n 0), 1, 0, 0, 0, 0), (16, .dup, 1, 0, 0, 0, 0), (17, (.getfield 15), 3, 7, 2, 0, 214), (20, (.iconst 1), 1, 0, 0, 0, 0), (21, .isub, 1, 0, 0, 0, 0), (22, (.putfield 15), 3, 7, 2, 0, 214), (25, (.aload_n 0), 1, 0, 0, 0, 0), (26, (.getfield 9), 3, 7, 0, 2, 212), (29, (.aload_n 0), 1, 0, 0, 0, 0), (30, (.getfield 19), 3, 7, 1, 0, 213), (33, .iaload, 1, 0, 0, 0, 0), (34, .ireturn, 1, 0, 0, 0, 0)]
def c91 : List (Nat × En) := [(0, (.aload_n 0), 1, 0, 0, 0, 0), (1, (.iload_n 1), 1, 0, 0, 0, 0), (2, (.iconst (-1)), 1, 0, 0, 0, 0), (3, (.invokevirtual 94), 3, 78, 2, 1, 648), (6, .return_, 1, 0, 0, 0, 0)]
def c92 : List (Nat × En) := [(0, (.aload_n 2), 1, 0, 0, 0, 0), (1, (.iconst 0), 1, 0, 0, 0, 0), (2, (.aload_n 0), 1, 0, 0, 0, 0), (3, (.iload_n 1), 1, 0, 0, 0, 0), (4, (.invokevirtual 79), 3, 93, 1, 1, 708), (7, .i2l, 1, 0, 0, 0, 0), (8, .lastore, 1, 0, 0, 0, 0), (9, (.goto 9), 3, 18, 0, 0, 0), (12, (.astore_n 3), 1, 0, 0, 0, 0), (13, (.iconst 1), 1, 0, 0, 0, 0), (14, .ireturn, 1, 0, 0, 0, 0), (15, (.astore_n 3), 1, 0, 0, 0, 0), (16, (.iconst 2), 1, 0, 0, 0, 0), (17, .ireturn, 1, 0, 0, 0, 0), (18, (.iconst 0), 1, 0, 0, 0, 0), (19, .ireturn, 1, 0, 0, 0, 0)]
def c93 : List (Nat × En) := [(0, (.iload_n 1), 1, 0, 0, 0, 0), (1, (.iconst 1), 1, 0, 0, 0, 0), (2, (.if_icmp .lt 10), 3, 12, 0, 0, 0), (5, (.iload_n 1), 1, 0, 0, 0, 0), (6, (.sipush 5000), 3, 0, 0, 0, 0), (9, (.if_icmp .le 13), 3, 22, 0, 0, 0), (12, (.new 41), 3, 900, 712, 405, 363), (15, .dup, 1, 0, 0, 0, 0), (16, (.ldc 198), 2, 0, 0, 0, 0), (18, (.invokespecial 45), 3, 9009, 1, 2, 405), (21, .athrow, 1, 0, 0, 0, 0), (22, (.aload_n 0), 1, 0, 0, 0, 0), (23, (.invokevirtual 48), 3, 29, 0, 1, 431), (26, (.aload_n 0), 1, 0, 0, 0, 0), (27, (.getfield 33), 3, 0, 3, 2, 300), (30, (.aload_n 0), 1, 0, 0, 0, 0), (31, (.getfield 10), 3, 0, 0, 2, 297), (34, (.getfield 137), 3, 2, 8, 2, 166), (37, (.invokevirtual 200), 3, 94, 1, 1, 713), (40, (.aload_n 0), 1, 0, 0, 0, 0), (41, (.iload_n 1), 1, 0, 0, 0, 0), (42, (.invokevirtual 204), 3, 95, 1, 1, 720), (45, (.istore_n 2), 1, 0, 0, 0, 0), (46, (.aload_n 0), 1, 0, 0, 0, 0), (47, (.getfield 10), 3, 0, 0, 2, 297), (50, (.getfield 137), 3, 2, 8, 2, 166), (53, (.aload_n 0), 1, 0, 0, 0, 0), (54, (.getfield 33), 3, 0, 3, 2, 300), (57, (.invokevirtual 200), 3, 94, 1, 1, 713), (60, (.iload_n 2), 1, 0, 0, 0, 0), (61, .ireturn, 1, 0, 0, 0, 0)]
def c94 : List (Nat × En) := [(0, (.aload_n 1), 1, 0, 0, 0, 0), (1, (.getfield 9), 3, 6, 0, 2, 100), (4, (.iconst 0), 1, 0, 0, 0, 0), (5, (.aload_n 0), 1, 0, 0, 0, 0), (6, (.getfield 9), 3, 6, 0, 2, 100), (9, (.iconst 0), 1, 0, 0, 0, 0), (10, (.bipush 6), 2, 0, 0, 0, 0), (12, (.invokestatic 24), 3, 9003, 5, 0, 717), (15, (.aload_n 1), 1, 0, 0, 0, 0), (16, (.getfield 15), 3, 6, 1, 2, 103), (19, (.iconst 0), 1, 0, 0, 0, 0), (20, (.aload_n 0), 1, 0, 0, 0, 0), (21, (.getfield 15), 3, 6, 1, 2, 103), (24, (.iconst 0), 1, 0, 0, 0, 0), (25, (.bipush 12), 2, 0, 0, 0, 0), (27, (.invokestatic 24), 3, 9003, 5, 0, 717), (30, .return_, 1, 0, 0, 0, 0)]
def c95 : List (Nat × En) := [(0, (.iconst 1), 1, 0, 0, 0, 0), (1, (.istore_n 2), 1, 0, 0, 0, 0), (2, (.iload_n 2), 1, 0, 0, 0, 0), (3, (.iload_n 1), 1, 0, 0, 0, 0), (4, (.if_icmp .gt 36), 3, 40, 0, 0, 0), (7, (.aload_n 0), 1, 0, 0, 0, 0), (8, (.getfield 10), 3, 0, 0, 2, 297), (11, (.invokevirtual 172), 3, 74, 0, 1, 632), (14, .pop, 1, 0, 0, 0, 0), (15, (.aload_n 0), 1, 0, 0, 0, 0), (16, (.getfield 10), 3, 0, 0, 2, 297), (19, (.getfield 137), 3, 2, 8, 2, 166), (22, (.aload_n 0), 1, 0, 0, 0, 0), (23, (.getfield 33), 3, 0, 3, 2, 300), (26, (.invokevirtual 278), 3, 96, 1, 1, 724), (29, (.ifCond .eq 5), 3, 34, 0, 0, 0), (32, (.iload_n 2), 1, 0, 0, 0, 0), (33, .ireturn, 1, 0, 0, 0, 0), (34, (.iinc 2 1), 3, 0, 0, 0, 0), (37, (.goto (-35)), 3, 2, 0, 0, 0), (40, (.iconst 0), 1, 0, 0, 0, 0), (41, .ireturn, 1, 0, 0, 0, 0)]
def c96 : List (Nat × En) := [(0, (.iconst 0), 1, 0, 0, 0, 0), (1, (.istore_n 2), 1, 0, 0, 0, 0), (2, (.iload_n 2), 1, 0, 0, 0, 0), (3, (.bipush 6), 2, 0, 0, 0, 0), (5, (.if_icmp .ge 26), 3, 31, 0, 0, 0), (8, (.aload_n 0), 1, 0, 0, 0, 0), (9, (.getfield 9), 3, 6, 0, 2, 100), (12, (.iload_n 2), 1, 0, 0, 0, 0), (13, .iaload, 1, 0, 0, 0, 0), (14, (.aload_n 1), 1, 0, 0, 0, 0), (15, (.getfield 9), 3, 6, 0, 2, 100), (18, (.iload_n 2), 1, 0, 0, 0, 0), (19, .iaload, 1, 0, 0, 0, 0), (20, (.if_icmp .eq 5), 3, 25, 0, 0, 0), (23, (.iconst 0), 1, 0, 0, 0, 0), (24, .ireturn, 1, 0, 0, 0, 0), (25, (.iinc 2 1), 3, 0, 0, 0, 0), (28, (.goto (-26)), 3, 2, 0, 0, 0), (31, (.iconst 0), 1, 0, 0, 0, 0), (32, (.istore_n 2), 1, 0, 0, 0, 0), (33, (.iload_n 2), 1, 0, 0, 0, 0), (34, (.bipush 12), 2, 0, 0, 0, 0), (36, (.if_icmp .ge 26), 3, 62, 0, 0, 0), (39, (.aload_n 0), 1, 0, 0, 0, 0), (40, (.getfield 15), 3, 6, 1, 2, 103), (43, (.iload_n 2), 1, 0, 0, 0, 0), (44, .iaload, 1, 0, 0, 0, 0), (45, (.aload_n 1), 1, 0, 0, 0, 0), (46, (.getfield 15), 3, 6, 1, 2, 103), (49, (.iload_n 2), 1, 0, 0, 0, 0), (50, .iaload, 1, 0, 0, 0, 0), (51, (.if_icmp .eq 5), 3, 56, 0, 0, 0), (54, (.iconst 0), 1, 0, 0, 0, 0), (55, .ireturn, 1, 0, 0, 0, 0), (56, (.iinc 2 1), 3, 0, 0, 0, 0), (59, (.goto (-26)), 3, 33, 0, 0, 0), (62, (.iconst 1), 1, 0, 0, 0, 0), (63, .ireturn, 1, 0, 0, 0, 0)]
def c97 : List (Nat × En) := [(0, (.aload_n 1), 1, 0, 0, 0, 0), (1, (.iconst 0), 1, 0, 0, 0, 0), (2, (.aload_n 0), 1, 0, 0, 0, 0), (3, (.invokevirtual 82), 3, 98, 0, 1, 731), (6, .i2l, 1, 0, 0, 0, 0), (7, .lastore, 1, 0, 0, 0, 0), (8, (.goto 6), 3, 14, 0, 0, 0), (11, (.astore_n 2), 1, 0, 0, 0, 0), (12, (.iconst 1), 1, 0, 0, 0, 0), (13, .ireturn, 1, 0, 0, 0, 0), (14, (.iconst 0), 1, 0, 0, 0, 0), (15, .ireturn, 1, 0, 0, 0, 0)]
def c98 : List (Nat × En) := [(0, (.aload_n 0), 1, 0, 0, 0, 0), (1, (.invokevirtual 48), 3, 29, 0, 1, 431), (4, (.aload_n 0), 1, 0, 0, 0, 0), (5, (.getfield 26), 3, 0, 2, 2, 299), (8, (.getfield 207), 3, 1, 1, 0, 261), (11, (.bipush 20), 2, 0, 0, 0, 0), (13, (.if_icmp .ne 13), 3, 26, 0, 0, 0), (16, (.new 90), 3, 901, 735, 445, 435), (19, .dup, 1, 0, 0, 0, 0), (20, (.ldc 208), 2, 0, 0, 0, 0), (22, (.invokespecial 94), 3, 9009, 1, 2, 445), (25, .athrow, 1, 0, 0, 0, 0), (26, (.aload_n 0), 1, 0, 0, 0, 0), (27, (.getfield 26), 3, 0, 2, 2, 299), (30, (.aload_n 0), 1, 0, 0, 0, 0), (31, (.getfield 10), 3, 0, 0, 2, 297), (34, (.getfield 137), 3, 2, 8, 2, 166), (37, (.invokevirtual 210), 3, 99, 1, 1, 736), (40, .ireturn, 1, 0, 0, 0, 0)]
def c99 : List (Nat × En) := [(0, (.aload_n 0), 1, 0, 0, 0, 0), (1, (.getfield 11), 3, 1, 0, 2, 258), (4, (.aload_n 0), 1, 0, 0, 0, 0), (5, (.getfield 18), 3, 1, 1, 0, 260), (8, .aaload, 1, 0, 0, 0, 0), (9, (.getfield 27), 3, 3, 0, 2, 239), (12, (.aload_n 1), 1, 0, 0, 0, 0), (13, (.invokevirtual 31), 3, 94, 1, 1, 740), (16, (.aload_n 0), 1, 0, 0, 0, 0), (17, (.getfield 11), 3, 1, 0, 2, 258), (20, (.aload_n 0), 1, 0, 0, 0, 0), (21, (.getfield 18), 3, 1, 1, 0, 260), (24, .aaload, 1, 0, 0, 0, 0), (25, (.iconst 0), 1, 0, 0, 0, 0), (26, (.putfield 26), 3, 3, 3, 0, 247), (29, (.aload_n 0), 1, 0, 0, 0, 0), (30, (.iconst 1), 1, 0, 0, 0, 0), (31, (.putfield 22), 3, 1, 2, 1, 262), (34, (.aload_n 0), 1, 0, 0, 0, 0), (35, .dup, 1, 0, 0, 0, 0), (36, (.getfield 18), 3, 1, 1, 0, 260), (39, (.iconst 1), 1, 0, 0, 0, 0), (40, .iadd, 1, 0, 0, 0, 0), (41, (.putfield 18), 3, 1, 1, 0, 260), (44, (.aload_n 0), 1, 0, 0, 0, 0), (45, (.getfield 18), 3, 1, 1, 0, 260), (48, (.iconst 1), 1, 0, 0, 0, 0), (49, .isub, 1, 0, 0, 0, 0), (50, .ireturn, 1, 0, 0, 0, 0)]
def c100 : List (Nat × En) := [(0, (.aload_n 1), 1, 0, 0, 0, 0), (1, (.iconst 0), 1, 0, 0, 0, 0), (2, (.aload_n 0), 1, 0, 0, 0, 0), (3, (.invokevirtual 85), 3, 101, 0, 1, 744), (6, .i2l, 1, 0, 0, 0, 0), (7, .lastore, 1, 0, 0, 0, 0), (8, (.goto 6), 3, 14, 0, 0, 0), (11, (.astore_n 2), 1, 0, 0, 0, 0), (12, (.iconst 1), 1, 0, 0, 0, 0), (13, .ireturn, 1, 0, 0, 0, 0), (14, (.iconst 0), 1, 0, 0, 0, 0), (15, .ireturn, 1, 0, 0, 0, 0)]
def c101 : List (Nat × En) := [(0, (.aload_n 0), 1, 0, 0, 0, 0), (1, (.getfield 26), 3, 0, 2, 2, 299), (4, (.getfield 214), 3, 1, 2, 1, 263), (7, (.ifCond .ne 13), 3, 20, 0, 0, 0), (10, (.new 90), 3, 901, 748, 445, 435), (13, .dup, 1, 0, 0, 0, 0), (14, (.ldc 217), 2, 0, 0, 0, 0), (16, (.invokespecial 94), 3, 9009, 1, 2, 445), (19, .athrow, 1, 0, 0, 0, 0), (20, (.aload_n 0), 1, 0, 0, 0, 0), (21, (.getfield 26), 3, 0, 2, 2, 299), (24, (.invokevirtual 219), 3, 102, 0, 1, 749), (27, .ireturn, 1, 0, 0, 0, 0)]
def c102 : List (Nat × En) := [(0, (.aload_n 0), 1, 0, 0, 0, 0), (1, (.iconst 0), 1, 0, 0, 0, 0), (2, (.putfield 22), 3, 1, 2, 1, 262), (5, (.aload_n 0), 1, 0, 0, 0, 0), (6, (.getfield 11), 3, 1, 0, 2, 258), (9, (.aload_n 0), 1, 0, 0, 0, 0), (10, (.getfield 18), 3, 1, 1, 0, 260), (13, (.iconst 1), 1, 0, 0, 0, 0), (14, .isub, 1, 0, 0, 0, 0), (15, .aaload, 1, 0, 0, 0, 0), (16, (.getfield 26), 3, 3, 3, 0, 247), (19, .ireturn, 1, 0, 0, 0, 0)]
def c103 : List (Nat × En) := [(0, (.aload 4), 2, 0, 0, 0, 0), (2, (.iconst 0), 1, 0, 0, 0, 0), (3, (.aload_n 0), 1, 0, 0, 0, 0), (4, (.iload_n 1), 1, 0, 0, 0, 0), (5, (.iload_n 2), 1, 0, 0, 0, 0), (6, (.iload_n 3), 1, 0, 0, 0, 0), (7, (.invokevirtual 88), 3, 104, 3, 1, 756), (10, .i2l, 1, 0, 0, 0, 0), (11, .lastore, 1, 0, 0, 0, 0), (12, (.goto 11), 3, 23, 0, 0, 0), (15, (.astore 5), 2, 0, 0, 0, 0), (17, (.iconst 1), 1, 0, 0, 0, 0), (18, .ireturn, 1, 0, 0, 0, 0), (19, (.astore 5), 2, 0, 0, 0, 0), (21, (.iconst 2), 1, 0, 0, 0, 0), (22, .ireturn, 1, 0, 0, 0, 0), (23, (.iconst 0), 1, 0, 0, 0, 0), (24, .ireturn, 1, 0, 0, 0, 0)]
def c104 : List (Nat × En) := [(0, (.iload_n 1), 1, 0, 0, 0, 0), (1, (.aload_n 0), 1, 0, 0, 0, 0), (2, (.getfield 26), 3, 0, 2, 2, 299), (5, (.getfield 207), 3, 1, 1, 0, 261), (8, (.invokestatic 58), 3, 34, 2, 0, 467), (11, (.iload_n 2), 1, 0, 0, 0, 0), (12, (.aload_n 0), 1, 0, 0, 0, 0), (13, (.getfield 26), 3, 0, 2, 2, 299), (16, (.getfield 222), 3, 1, 0, 2, 259), (19, (.iload_n 1), 1, 0, 0, 0, 0), (20, .aaload, 1, 0, 0, 0, 0), (21, (.getfield 226), 3, 3, 3, 0, 248), (24, (.invokestatic 58), 3, 34, 2, 0, 467), (27, (.iload_n 3), 1, 0, 0, 0, 0), (28, (.ifCond .eq 18), 3, 46, 0, 0, 0), (31, (.iload_n 3), 1, 0, 0, 0, 0), (32, (.iconst 1), 1, 0, 0, 0, 0), (33, (.if_icmp .eq 13), 3, 46, 0, 0, 0), (36, (.new 41), 3, 900, 760, 405, 363), (39, .dup, 1, 0, 0, 0, 0), (40, (.ldc 229), 2, 0, 0, 0, 0), (42, (.invokespecial 45), 3, 9009, 1, 2, 405), (45, .athrow, 1, 0, 0, 0, 0), (46, (.iload_n 3), 1, 0, 0, 0, 0), (47, (.ifCond .ne 20), 3, 67, 0, 0, 0), (50, (.aload_n 0), 1, 0, 0, 0, 0), (51, (.getfield 26), 3, 0, 2, 2, 299), (54, (.getfield 222), 3, 1, 0, 2, 259), (57, (.iload_n 1), 1, 0, 0, 0, 0), (58, .aaload, 1, 0, 0, 0, 0), (59, (.getfield 231), 3, 3, 1, 2, 243), (62, (.iload_n 2), 1, 0, 0, 0, 0), (63, .iaload, 1, 0, 0, 0, 0), (64, (.goto 17), 3, 81, 0, 0, 0), (67, (.aload_n 0), 1, 0, 0, 0, 0), (68, (.getfield 26), 3, 0, 2, 2, 299), (71, (.getfield 222), 3, 1, 0, 2, 259), (74, (.iload_n 1), 1, 0, 0, 0, 0), (75, .aaload, 1, 0, 0, 0, 0), (76, (.getfield 234), 3, 3, 2, 2, 246), (79, (.iload_n 2), 1, 0, 0, 0, 0), (80, .iaload, 1, 0, 0, 0, 0), (81, .ireturn, 1, 0, 0, 0, 0)]
def c105 : List (Nat × En) := [(0, (.aload_n 2), 1, 0, 0, 0, 0), (1, (.iconst 0), 1, 0, 0, 0, 0), (2, (.aload_n 0), 1, 0, 0, 0, 0), (3, (.iload_n 1), 1, 0, 0, 0, 0), (4, (.invokevirtual 91), 3, 106, 1, 1, 764), (7, .i2l, 1, 0, 0, 0, 0), (8, .lastore, 1, 0, 0, 0, 0), (9, (.goto 9), 3, 18, 0, 0, 0), (12, (.astore_n 3), 1, 0, 0, 0, 0), (13, (.iconst 1), 1, 0, 0, 0, 0), (14, .ireturn, 1, 0, 0, 0, 0), (15, (.astore_n 3), 1, 0, 0, 0, 0), (16, (.iconst 2), 1, 0, 0, 0, 0), (17, .ireturn, 1, 0, 0, 0, 0), (18, (.iconst 0), 1, 0, 0, 0, 0), (19, .ireturn, 1, 0, 0, 0, 0)]
def c106 : List (Nat × En) := [(0, (.iload_n 1), 1, 0, 0, 0, 0), (1, (.aload_n 0), 1, 0, 0, 0, 0), (2, (.getfield 26), 3, 0, 2, 2, 299), (5, (.getfield 207), 3, 1, 1, 0, 261), (8, (.invokestatic 58), 3, 34, 2, 0, 467), (11, (.aload_n 0), 1, 0, 0, 0, 0), (12, (.getfield 26), 3, 0, 2, 2, 299), (15, (.iload_n 1), 1, 0, 0, 0, 0), (16, (.invokevirtual 237), 3, 107, 1, 1, 768), (19, (.ifCond .eq 13), 3, 32, 0, 0, 0), (22, (.new 90), 3, 901, 772, 445, 435), (25, .dup, 1, 0, 0, 0, 0), (26, (.ldc 240), 2, 0, 0, 0, 0), (28, (.invokespecial 94), 3, 9009, 1, 2, 445), (31, .athrow, 1, 0, 0, 0, 0), (32, (.aload_n 0), 1, 0, 0, 0, 0), (33, (.getfield 33), 3, 0, 3, 2, 300), (36, (.aload_n 0), 1, 0, 0, 0, 0), (37, (.getfield 10), 3, 0, 0, 2, 297), (40, (.getfield 137), 3, 2, 8, 2, 166), (43, (.invokevirtual 200), 3, 94, 1, 1, 713), (46, (.aload_n 0), 1, 0, 0, 0, 0), (47, (.getfield 10), 3, 0, 0, 2, 297), (50, (.aload_n 0), 1, 0, 0, 0, 0), (51, (.getfield 26), 3, 0, 2, 2, 299), (54, (.getfield 222), 3, 1, 0, 2, 259), (57, (.iload_n 1), 1, 0, 0, 0, 0), (58, .aaload, 1, 0, 0, 0, 0), (59, (.getfield 242), 3, 3, 0, 2, 240), (62, (.invokevirtual 245), 3, 108, 1, 1, 773), (65, (.aload_n 0), 1, 0, 0, 0, 0), (66, (.aload_n 0), 1, 0, 0, 0, 0), (67, (.getfield 26), 3, 0, 2, 2, 299), (70, (.getfield 222), 3, 1, 0, 2, 259), (73, (.iload_n 1), 1, 0, 0, 0, 0), (74, .aaload, 1, 0, 0, 0, 0), (75, (.invokevirtual 248), 3, 109, 1, 1, 778), (78, (.istore_n 2), 1, 0, 0, 0, 0), (79, (.aload_n 0), 1, 0, 0, 0, 0), (80, (.getfield 10), 3, 0, 0, 2, 297), (83, (.getfield 137), 3, 2, 8, 2, 166), (86, (.aload_n 0), 1, 0, 0, 0, 0), (87, (.getfield 33), 3, 0, 3, 2, 300), (90, (.invokevirtual 200), 3, 94, 1, 1, 713), (93, (.iload_n 2), 1, 0, 0, 0, 0), (94, .ireturn, 1, 0, 0, 0, 0)]
def c107 : List (Nat × En) := [(0, (.aload_n 0), 1, 0, 0, 0, 0), (1, (.getfield 22), 3, 1, 2, 1, 262), (4, (.ifCond .eq 17), 3, 21, 0, 0, 0), (7, (.iload_n 1), 1, 0, 0, 0, 0), (8, (.aload_n 0), 1, 0, 0, 0, 0), (9, (.getfield 18), 3, 1, 1, 0, 260), (12, (.iconst 1), 1, 0, 0, 0, 0), (13, .isub, 1, 0, 0, 0, 0), (14, (.if_icmp .ne 7), 3, 21, 0, 0, 0), (17, (.iconst 1), 1, 0, 0, 0, 0), (18, (.goto 4), 3, 22, 0, 0, 0), (21, (.iconst 0), 1, 0, 0, 0, 0), (22, .ireturn, 1, 0, 0, 0, 0)]
def c108 : List (Nat × En) := [(0, (.aload_n 0), 1, 0, 0, 0, 0), (1, (.getfield 49), 3, 2, 8, 2, 165), (4, (.aload_n 1), 1, 0, 0, 0, 0), (5, (.invokevirtual 124), 3, 94, 1, 1, 777), (8, (.iconst 0), 1, 0, 0, 0, 0), (9, (.istore_n 2), 1, 0, 0, 0, 0), (10, (.iload_n 2), 1, 0, 0, 0, 0), (11, (.bipush 12), 2, 0, 0, 0, 0), (13, (.if_icmp .ge 44), 3, 57, 0, 0, 0), (16, (.aload_n 0), 1, 0, 0, 0, 0), (17, (.getfield 26), 3, 2, 3, 2, 155), (20, (.iload_n 2), 1, 0, 0, 0, 0), (21, .aaload, 1, 0, 0, 0, 0), (22, (.getfield 87), 3, 5, 1, 0, 144), (25, (.istore_n 3), 1, 0, 0, 0, 0), (26, (.aload_n 0), 1, 0, 0, 0, 0), (27, (.getfield 49), 3, 2, 8, 2, 165), (30, (.getfield 105), 3, 6, 1, 2, 104), (33, (.iload_n 2), 1, 0, 0, 0, 0), (34, (.iload_n 3), 1, 0, 0, 0, 0), (35, (.ifCond .le 14), 3, 49, 0, 0, 0), (38, (.aload_n 1), 1, 0, 0, 0, 0), (39, (.getfield 105), 3, 6, 1, 2, 104), (42, (.iload_n 2), 1, 0, 0, 0, 0), (43, .iaload, 1, 0, 0, 0, 0), (44, (.iload_n 3), 1, 0, 0, 0, 0), (45, .irem, 1, 0, 0, 0, 0), (46, (.goto 4), 3, 50, 0, 0, 0), (49, (.iconst 0), 1, 0, 0, 0, 0), (50, .iastore, 1, 0, 0, 0, 0), (51, (.iinc 2 1), 3, 0, 0, 0, 0), (54, (.goto (-44)), 3, 10, 0, 0, 0), (57, .return_, 1, 0, 0, 0, 0)]
def c109 : List (Nat × En) := [(0, (.iconst 0), 1, 0, 0, 0, 0), (1, (.istore_n 2), 1, 0, 0, 0, 0), (2, (.iload_n 2), 1, 0, 0, 0, 0), (3, (.aload_n 1), 1, 0, 0, 0, 0), (4, (.getfield 226), 3, 3, 3, 0, 248), (7, (.if_icmp .ge 41), 3, 48, 0, 0, 0), (10, (.aload_n 0), 1, 0, 0, 0, 0), (11, (.getfield 10), 3, 0, 0, 2, 297), (14, (.invokevirtual 172), 3, 74, 0, 1, 632), (17, .pop, 1, 0, 0, 0, 0), (18, (.aload_n 0), 1, 0, 0, 0, 0), (19, (.getfield 10), 3, 0, 0, 2, 297), (22, (.aload_n 1), 1, 0, 0, 0, 0), (23, (.getfield 231), 3, 3, 1, 2, 243), (26, (.iload_n 2), 1, 0, 0, 0, 0), (27, .iaload, 1, 0, 0, 0, 0), (28, (.invokevirtual 179), 3, 17, 1, 1, 314), (31, (.aload_n 1), 1, 0, 0, 0, 0), (32, (.getfield 234), 3, 3, 2, 2, 246), (35, (.iload_n 2), 1, 0, 0, 0, 0), (36, .iaload, 1, 0, 0, 0, 0), (37, (.if_icmp .eq 5), 3, 42, 0, 0, 0), (40, (.iload_n 2), 1, 0, 0, 0, 0), (41, .ireturn, 1, 0, 0, 0, 0), (42, (.iinc 2 1), 3, 0, 0, 0, 0), (45, (.goto (-43)), 3, 2, 0, 0, 0), (48, (.iconst (-1)), 1, 0, 0, 0, 0), (49, .ireturn, 1, 0, 0, 0, 0)]
def c110 : List (Nat × En) := [(0, (.aload_n 2), 1, 0, 0, 0, 0), (1, (.iconst 0), 1, 0, 0, 0, 0), (2, (.aload_n 0), 1, 0, 0, 0, 0), (3, (.iload_n 1), 1, 0, 0, 0, 0), (4, (.invokevirtual 94), 3, 111, 1, 1, 785), (7, .i2l, 1, 0, 0, 0, 0), (8, .lastore, 1, 0, 0, 0, 0), (9, (.goto 6), 3, 15, 0, 0, 0), (12, (.astore_n 3), 1, 0, 0, 0, 0), (13, (.iconst 1), 1, 0, 0, 0, 0), (14, .ireturn, 1, 0, 0, 0, 0), (15, (.iconst 0), 1, 0, 0, 0, 0), (16, .ireturn, 1, 0, 0, 0, 0)]
def c111 : List (Nat × En) := [(0, (.iload_n 1), 1, 0, 0, 0, 0), (1, (.tableswitch 125 0 7 #[47, 55, 63, 74, 85, 93, 101, 117]), 47, 0, 0, 0, 0), (48, (.aload_n 0), 1, 0, 0, 0, 0), (49, (.getfield 10), 3, 0, 0, 2, 297), (52, (.getfield 51), 3, 2, 9, 0, 167), (55, .ireturn, 1, 0, 0, 0, 0), (56, (.aload_n 0), 1, 0, 0, 0, 0), (57, (.getfield 10), 3, 0, 0, 2, 297), (60, (.getfield 252), 3, 2, 10, 0, 170), (63, .ireturn, 1, 0, 0, 0, 0), (64, (.aload_n 0), 1, 0, 0, 0, 0), (65, (.getfield 10), 3, 0, 0, 2, 297), (68, (.getfield 255), 3, 2, 6, 2, 162), (71, (.getfield 259), 3, 4, 1, 0, 87), (74, .ireturn, 1, 0, 0, 0, 0), (75, (.aload_n 0), 1, 0, 0, 0, 0), (76, (.getfield 10), 3, 0, 0, 2, 297), (79, (.getfield 260), 3, 2, 7, 2, 164), (82, (.getfield 259), 3, 4, 1, 0, 87), (85, .ireturn, 1, 0, 0, 0, 0), (86, (.aload_n 0), 1, 0, 0, 0, 0), (87, (.getfield 10), 3, 0, 0, 2, 297), (90, (.invokevirtual 263), 3, 112, 0, 1, 789), (93, .ireturn, 1, 0, 0, 0, 0), (94, (.aload_n 0), 1, 0, 0, 0, 0), (95, (.getfield 26), 3, 0, 2, 2, 299), (98, (.getfield 207), 3, 1, 1, 0, 261), (101, .ireturn, 1, 0, 0, 0, 0), (102, (.aload_n 0), 1, 0, 0, 0, 0), (103, (.getfield 26), 3, 0, 2, 2, 299), (106, (.getfield 214), 3, 1, 2, 1, 263), (109, (.ifCond .eq 7), 3, 116, 0, 0, 0), (112, (.iconst 1), 1, 0, 0, 0, 0), (113, (.goto 4), 3, 117, 0, 0, 0), (116, (.iconst 0), 1, 0, 0, 0, 0), (117, .ireturn, 1, 0, 0, 0, 0), (118, (.aload_n 0), 1, 0, 0, 0, 0), (119, (.getfield 19), 3, 0, 1, 2, 298), (122, (.getfield 187), 3, 7, 2, 0, 215), (125, .ireturn, 1, 0, 0, 0, 0), (126, (.new 41), 3, 900, 793, 405, 363), (129, .dup, 1, 0, 0, 0, 0), (130, (.ldc_w 266), 3, 0, 0, 0, 0), (133, (.invokespecial 45), 3, 9009, 1, 2, 405), (136, .athrow, 1, 0, 0, 0, 0)]
def c112 : List (Nat × En) := [(0, (.iconst 0), 1, 0, 0, 0, 0), (1, (.istore_n 1), 1, 0, 0, 0, 0), (2, (.iconst 0), 1, 0, 0, 0, 0), (3, (.istore_n 2), 1, 0, 0, 0, 0), (4, (.iload_n 2), 1, 0, 0, 0, 0), (5, (.bipush 12), 2, 0, 0, 0, 0), (7, (.if_icmp .ge 24), 3, 31, 0, 0, 0), (10, (.aload_n 0), 1, 0, 0, 0, 0), (11, (.getfield 26), 3, 2, 3, 2, 155), (14, (.iload_n 2), 1, 0, 0, 0, 0), (15, .aaload, 1, 0, 0, 0, 0), (16, (.getfield 87), 3, 5, 1, 0, 144), (19, (.ifCond .le 6), 3, 25, 0, 0, 0), (22, (.iinc 1 1), 3, 0, 0, 0, 0), (25, (.iinc 2 1), 3, 0, 0, 0, 0), (28, (.goto (-24)), 3, 4, 0, 0, 0), (31, (.iload_n 1), 1, 0, 0, 0, 0), (32, .ireturn, 1, 0, 0, 0, 0)]
def c113_0 : List (Nat × En) := [(0, (.aload_n 0), 1, 0, 0, 0, 0), (1, (.invokespecial 1), 3, 9001, 0, 2, 799), (4, (.aload_n 0), 1, 0, 0, 0, 0), (5, (.bipush 26), 2, 0, 0, 0, 0), (7, (.putfield 7), 3, 9, 1, 0, 805), (10, (.aload_n 0), 1, 0, 0, 0, 0), (11, (.sipush 256), 3, 0, 0, 0, 0), (14, (.newarray .int), 2, 0, 0, 0, 0), (16, (.putfield 13), 3, 9, 2, 2, 806), (19, (.aload_n 0), 1, 0, 0, 0, 0), (20, (.bipush 8), 2, 0, 0, 0, 0), (22, (.newarray .int), 2, 0, 0, 0, 0), (24, (.putfield 17), 3, 9, 3, 2, 807), (27, (.aload_n 0), 1, 0, 0, 0, 0), (28, (.sipush 256), 3, 0, 0, 0, 0), (31, (.newarray .boolean), 2, 1, 0, 0, 0), (33, (.putfield 20), 3, 9, 4, 2, 808), (36, (.aload_n 0), 1, 0, 0, 0, 0), (37, (.bipush 6), 2, 0, 0, 0, 0), (39, (.newarray .int), 2, 0, 0, 0, 0), (41, (.putfield 24), 3, 9, 5, 2, 809), (44, (.aload_n 0), 1, 0, 0, 0, 0), (45, (.bipush 64), 2, 0, 0, 0, 0), (47, (.newarray .int), 2, 0, 0, 0, 0), (49, (.putfield 27), 3, 9, 6, 2, 810), (52, (.aload_n 0), 1, 0, 0, 0, 0), (53, (.bipush 12), 2, 0, 0, 0, 0), (55, (.newarray .int), 2, 0, 0, 0, 0), (57, (.putfield 30), 3, 9, 8, 2, 812), (60, (.aload_n 0), 1, 0, 0, 0, 0), (61, (.sipush 768), 3, 0, 0, 0, 0), (64, (.newarray .boolean), 2, 1, 0, 0, 0), (66, (.putfield 33), 3, 9, 9, 2, 813), (69, (.aload_n 0), 1, 0, 0, 0, 0), (70, (.bipush 54), 2, 0, 0, 0, 0), (72, (.newarray .int), 2, 0, 0, 0, 0), (74, (.putfield 36), 3, 9, 10, 2, 814), (77, (.aload_n 0), 1, 0, 0, 0, 0), (78, (.bipush 18), 2, 0, 0, 0, 0), (80, (.newarray .int), 2, 0, 0, 0, 0)]
def c113_1 : List (Nat × En) := [(82, (.putfield 39), 3, 9, 13, 2, 817), (85, (.aload_n 0), 1, 0, 0, 0, 0), (86, (.bipush 18), 2, 0, 0, 0, 0), (88, (.newarray .int), 2, 0, 0, 0, 0), (90, (.putfield 42), 3, 9, 14, 2, 818), (93, (.aload_n 0), 1, 0, 0, 0, 0), (94, (.bipush 6), 2, 0, 0, 0, 0), (96, (.newarray .boolean), 2, 1, 0, 0, 0), (98, (.putfield 45), 3, 9, 15, 2, 819), (101, (.aload_n 0), 1, 0, 0, 0, 0), (102, (.sipush 720), 3, 0, 0, 0, 0), (105, (.newarray .int), 2, 0, 0, 0, 0), (107, (.putfield 48), 3, 9, 17, 2, 821), (110, (.aload_n 0), 1, 0, 0, 0, 0), (111, (.bipush 20), 2, 0, 0, 0, 0), (113, (.newarray .int), 2, 0, 0, 0, 0), (115, (.putfield 51), 3, 9, 20, 2, 824), (118, (.aload_n 0), 1, 0, 0, 0, 0), (119, (.sipush 360), 3, 0, 0, 0, 0), (122, (.newarray .int), 2, 0, 0, 0, 0), (124, (.putfield 54), 3, 9, 21, 2, 825), (127, (.aload_n 0), 1, 0, 0, 0, 0), (128, (.sipush 1200), 3, 0, 0, 0, 0), (131, (.newarray .int), 2, 0, 0, 0, 0), (133, (.putfield 57), 3, 9, 22, 2, 826), (136, (.aload_n 0), 1, 0, 0, 0, 0), (137, (.sipush 1200), 3, 0, 0, 0, 0), (140, (.newarray .int), 2, 0, 0, 0, 0), (142, (.putfield 60), 3, 9, 23, 2, 827), (145, (.aload_n 0), 1, 0, 0, 0, 0), (146, (.invokevirtual 63), 3, 114, 0, 1, 800), (149, .return_, 1, 0, 0, 0, 0)]
def c113 : List (Nat × En) := c113_0 ++ (c113_1)
def c114_0 : List (Nat × En) := [(0, (.iconst 0), 1, 0, 0, 0, 0), (1, (.istore_n 1), 1, 0, 0, 0, 0), (2, (.iload_n 1), 1, 0, 0, 0, 0), (3, (.sipush 256), 3, 0, 0, 0, 0), (6, (.if_icmp .ge 26), 3, 32, 0, 0, 0), (9, (.aload_n 0), 1, 0, 0, 0, 0), (10, (.getfield 13), 3, 9, 2, 2, 806), (13, (.iload_n 1), 1, 0, 0, 0, 0), (14, (.iload_n 1), 1, 0, 0, 0, 0), (15, (.bipush 32), 2, 0, 0, 0, 0), (17, .irem, 1, 0, 0, 0, 0), (18, .iastore, 1, 0, 0, 0, 0), (19, (.aload_n 0), 1, 0, 0, 0, 0), (20, (.getfield 20), 3, 9, 4, 2, 808), (23, (.iload_n 1), 1, 0, 0, 0, 0), (24, (.iconst 0), 1, 0, 0, 0, 0), (25, .bastore, 1, 0, 0, 0, 0), (26, (.iinc 1 1), 3, 0, 0, 0, 0), (29, (.goto (-27)), 3, 2, 0, 0, 0), (32, (.iconst 0), 1, 0, 0, 0, 0), (33, (.istore_n 1), 1, 0, 0, 0, 0), (34, (.iload_n 1), 1, 0, 0, 0, 0), (35, (.bipush 64), 2, 0, 0, 0, 0), (37, (.if_icmp .ge 19), 3, 56, 0, 0, 0), (40, (.aload_n 0), 1, 0, 0, 0, 0), (41, (.getfield 27), 3, 9, 6, 2, 810), (44, (.iload_n 1), 1, 0, 0, 0, 0), (45, (.iload_n 1), 1, 0, 0, 0, 0), (46, (.bipush 32), 2, 0, 0, 0, 0), (48, .irem, 1, 0, 0, 0, 0), (49, .iastore, 1, 0, 0, 0, 0), (50, (.iinc 1 1), 3, 0, 0, 0, 0), (53, (.goto (-19)), 3, 34, 0, 0, 0), (56, (.iconst 0), 1, 0, 0, 0, 0), (57, (.istore_n 1), 1, 0, 0, 0, 0), (58, (.iload_n 1), 1, 0, 0, 0, 0), (59, (.bipush 8), 2, 0, 0, 0, 0), (61, (.if_icmp .ge 16), 3, 77, 0, 0, 0), (64, (.aload_n 0), 1, 0, 0, 0, 0), (65, (.getfield 17), 3, 9, 3, 2, 807)]
def c114_1 : List (Nat × En) := [(68, (.iload_n 1), 1, 0, 0, 0, 0), (69, (.iconst 0), 1, 0, 0, 0, 0), (70, .iastore, 1, 0, 0, 0, 0), (71, (.iinc 1 1), 3, 0, 0, 0, 0), (74, (.goto (-16)), 3, 58, 0, 0, 0), (77, (.iconst 0), 1, 0, 0, 0, 0), (78, (.istore_n 1), 1, 0, 0, 0, 0), (79, (.iload_n 1), 1, 0, 0, 0, 0), (80, (.bipush 6), 2, 0, 0, 0, 0), (82, (.if_icmp .ge 16), 3, 98, 0, 0, 0), (85, (.aload_n 0), 1, 0, 0, 0, 0), (86, (.getfield 24), 3, 9, 5, 2, 809), (89, (.iload_n 1), 1, 0, 0, 0, 0), (90, (.iconst (-1)), 1, 0, 0, 0, 0), (91, .iastore, 1, 0, 0, 0, 0), (92, (.iinc 1 1), 3, 0, 0, 0, 0), (95, (.goto (-16)), 3, 79, 0, 0, 0), (98, (.iconst 0), 1, 0, 0, 0, 0), (99, (.istore_n 1), 1, 0, 0, 0, 0), (100, (.iload_n 1), 1, 0, 0, 0, 0), (101, (.bipush 12), 2, 0, 0, 0, 0), (103, (.if_icmp .ge 16), 3, 119, 0, 0, 0), (106, (.aload_n 0), 1, 0, 0, 0, 0), (107, (.getfield 30), 3, 9, 8, 2, 812), (110, (.iload_n 1), 1, 0, 0, 0, 0), (111, (.iconst 0), 1, 0, 0, 0, 0), (112, .iastore, 1, 0, 0, 0, 0), (113, (.iinc 1 1), 3, 0, 0, 0, 0), (116, (.goto (-16)), 3, 100, 0, 0, 0), (119, (.iconst 0), 1, 0, 0, 0, 0), (120, (.istore_n 1), 1, 0, 0, 0, 0), (121, (.iload_n 1), 1, 0, 0, 0, 0), (122, (.bipush 54), 2, 0, 0, 0, 0), (124, (.if_icmp .ge 16), 3, 140, 0, 0, 0), (127, (.aload_n 0), 1, 0, 0, 0, 0), (128, (.getfield 36), 3, 9, 10, 2, 814), (131, (.iload_n 1), 1, 0, 0, 0, 0), (132, (.iconst (-1)), 1, 0, 0, 0, 0), (133, .iastore, 1, 0, 0, 0, 0), (134, (.iinc 1 1), 3, 0, 0, 0, 0)]
def c114_2 : List (Nat × En) := [(137, (.goto (-16)), 3, 121, 0, 0, 0), (140, (.iconst 0), 1, 0, 0, 0, 0), (141, (.istore_n 1), 1, 0, 0, 0, 0), (142, (.iload_n 1), 1, 0, 0, 0, 0), (143, (.bipush 18), 2, 0, 0, 0, 0), (145, (.if_icmp .ge 16), 3, 161, 0, 0, 0), (148, (.aload_n 0), 1, 0, 0, 0, 0), (149, (.getfield 39), 3, 9, 13, 2, 817), (152, (.iload_n 1), 1, 0, 0, 0, 0), (153, (.iconst 0), 1, 0, 0, 0, 0), (154, .iastore, 1, 0, 0, 0, 0), (155, (.iinc 1 1), 3, 0, 0, 0, 0), (158, (.goto (-16)), 3, 142, 0, 0, 0), (161, (.aload_n 0), 1, 0, 0, 0, 0), (162, (.iconst 0), 1, 0, 0, 0, 0), (163, (.putfield 66), 3, 9, 7, 1, 811), (166, (.aload_n 0), 1, 0, 0, 0, 0), (167, (.iconst 0), 1, 0, 0, 0, 0), (168, (.putfield 70), 3, 9, 11, 0, 815), (171, (.aload_n 0), 1, 0, 0, 0, 0), (172, (.iconst 0), 1, 0, 0, 0, 0), (173, (.putfield 73), 3, 9, 12, 0, 816), (176, (.aload_n 0), 1, 0, 0, 0, 0), (177, (.iconst 0), 1, 0, 0, 0, 0), (178, (.putfield 76), 3, 9, 16, 0, 820), (181, (.aload_n 0), 1, 0, 0, 0, 0), (182, (.iconst 0), 1, 0, 0, 0, 0), (183, (.putfield 79), 3, 9, 18, 0, 822), (186, (.aload_n 0), 1, 0, 0, 0, 0), (187, (.iconst 0), 1, 0, 0, 0, 0), (188, (.putfield 82), 3, 9, 19, 1, 823), (191, .return_, 1, 0, 0, 0, 0)]
def c114 : List (Nat × En) := c114_0 ++ (c114_1 ++ (c114_2))
def c115 : List (Nat × En) := [(0, (.aload_n 0), 1, 0, 0, 0, 0), (1, (.getfield 85), 3, 9, 0, 0, 804), (4, .ireturn, 1, 0, 0, 0, 0)]
def c116 : List (Nat × En) := [(0, (.aload_n 0), 1, 0, 0, 0, 0), (1, (.iload_n 1), 1, 0, 0, 0, 0), (2, (.bipush 10), 2, 0, 0, 0, 0), (4, (.if_icmp .eq 15), 3, 19, 0, 0, 0), (7, (.iload_n 1), 1, 0, 0, 0, 0), (8, (.bipush 26), 2, 0, 0, 0, 0), (10, (.if_icmp .eq 9), 3, 19, 0, 0, 0), (13, (.iload_n 1), 1, 0, 0, 0, 0), (14, (.bipush 32), 2, 0, 0, 0, 0), (16, (.if_icmp .ne 7), 3, 23, 0, 0, 0), (19, (.iconst 1), 1, 0, 0, 0, 0), (20, (.goto 4), 3, 24, 0, 0, 0), (23, (.iconst 0), 1, 0, 0, 0, 0), (24, (.aload_n 0), 1, 0, 0, 0, 0), (25, (.getfield 82), 3, 9, 19, 1, 823), (28, (.ifCond .ne 7), 3, 35, 0, 0, 0), (31, (.iconst 1), 1, 0, 0, 0, 0), (32, (.goto 4), 3, 36, 0, 0, 0), (35, (.iconst 0), 1, 0, 0, 0, 0), (36, (.iconst 1), 1, 0, 0, 0, 0), (37, (.invokevirtual 88), 3, 117, 3, 1, 885), (40, (.ifCond .ne 5), 3, 45, 0, 0, 0), (43, (.iconst 0), 1, 0, 0, 0, 0), (44, .ireturn, 1, 0, 0, 0, 0), (45, (.aload_n 0), 1, 0, 0, 0, 0), (46, (.getfield 7), 3, 9, 1, 0, 805), (49, (.istore_n 2), 1, 0, 0, 0, 0), (50, (.aload_n 0), 1, 0, 0, 0, 0), (51, (.iload_n 1), 1, 0, 0, 0, 0), (52, (.putfield 7), 3, 9, 1, 0, 805), (55, (.aload_n 0), 1, 0, 0, 0, 0), (56, (.invokevirtual 63), 3, 114, 0, 1, 800), (59, (.iload_n 2), 1, 0, 0, 0, 0), (60, .ireturn, 1, 0, 0, 0, 0)]
def c117 : List (Nat × En) := [(0, (.aload_n 0), 1, 0, 0, 0, 0), (1, (.iload_n 1), 1, 0, 0, 0, 0), (2, (.ifCond .ne 7), 3, 9, 0, 0, 0), (5, (.iconst 1), 1, 0, 0, 0, 0), (6, (.goto 20), 3, 26, 0, 0, 0), (9, (.iload_n 2), 1, 0, 0, 0, 0), (10, (.ifCond .ne 7), 3, 17, 0, 0, 0), (13, (.iconst 2), 1, 0, 0, 0, 0), (14, (.goto 12), 3, 26, 0, 0, 0), (17, (.iload_n 3), 1, 0, 0, 0, 0), (18, (.ifCond .ne 7), 3, 25, 0, 0, 0), (21, (.iconst 3), 1, 0, 0, 0, 0), (22, (.goto 4), 3, 26, 0, 0, 0), (25, (.iconst 0), 1, 0, 0, 0, 0), (26, (.putfield 85), 3, 9, 0, 0, 804), (29, (.aload_n 0), 1, 0, 0, 0, 0), (30, (.getfield 85), 3, 9, 0, 0, 804), (33, (.ifCond .ne 7), 3, 40, 0, 0, 0), (36, (.iconst 1), 1, 0, 0, 0, 0), (37, (.goto 4), 3, 41, 0, 0, 0), (40, (.iconst 0), 1, 0, 0, 0, 0), (41, .ireturn, 1, 0, 0, 0, 0)]
def c118_0 : List (Nat × En) := [(0, (.aload_n 0), 1, 0, 0, 0, 0), (1, (.iload_n 1), 1, 0, 0, 0, 0), (2, (.iconst 0), 1, 0, 0, 0, 0), (3, (.bipush 7), 2, 0, 0, 0, 0), (5, (.invokestatic 92), 3, 119, 3, 0, 893), (8, (.ifCond .eq 23), 3, 31, 0, 0, 0), (11, (.aload_n 0), 1, 0, 0, 0, 0), (12, (.iload_n 2), 1, 0, 0, 0, 0), (13, (.invokevirtual 96), 3, 120, 1, 1, 896), (16, (.ifCond .eq 15), 3, 31, 0, 0, 0), (19, (.aload_n 0), 1, 0, 0, 0, 0), (20, (.iload_n 3), 1, 0, 0, 0, 0), (21, (.invokevirtual 96), 3, 120, 1, 1, 896), (24, (.ifCond .eq 7), 3, 31, 0, 0, 0), (27, (.iconst 1), 1, 0, 0, 0, 0), (28, (.goto 4), 3, 32, 0, 0, 0), (31, (.iconst 0), 1, 0, 0, 0, 0), (32, (.aload_n 0), 1, 0, 0, 0, 0), (33, (.getfield 82), 3, 9, 19, 1, 823), (36, (.ifCond .ne 7), 3, 43, 0, 0, 0), (39, (.iconst 1), 1, 0, 0, 0, 0), (40, (.goto 4), 3, 44, 0, 0, 0), (43, (.iconst 0), 1, 0, 0, 0, 0), (44, (.iconst 1), 1, 0, 0, 0, 0), (45, (.invokevirtual 88), 3, 117, 3, 1, 885), (48, (.ifCond .ne 5), 3, 53, 0, 0, 0), (51, (.iconst 0), 1, 0, 0, 0, 0), (52, .ireturn, 1, 0, 0, 0, 0), (53, (.iconst 0), 1, 0, 0, 0, 0), (54, (.istore 4), 2, 0, 0, 0, 0), (56, (.aload_n 0), 1, 0, 0, 0, 0), (57, (.getfield 13), 3, 9, 2, 2, 806), (60, (.bipush 32), 2, 0, 0, 0, 0), (62, (.iload_n 1), 1, 0, 0, 0, 0), (63, .imul, 1, 0, 0, 0, 0), (64, (.iload 4), 2, 0, 0, 0, 0), (66, .iadd, 1, 0, 0, 0, 0), (67, .iaload, 1, 0, 0, 0, 0), (68, (.iload_n 3), 1, 0, 0, 0, 0), (69, (.if_icmp .eq 9), 3, 78, 0, 0, 0)]
def c118_1 : List (Nat × En) := [(72, (.iinc 4 1), 3, 0, 0, 0, 0), (75, (.goto (-19)), 3, 56, 0, 0, 0), (78, (.aload_n 0), 1, 0, 0, 0, 0), (79, (.getfield 13), 3, 9, 2, 2, 806), (82, (.bipush 32), 2, 0, 0, 0, 0), (84, (.iload_n 1), 1, 0, 0, 0, 0), (85, .imul, 1, 0, 0, 0, 0), (86, (.iload 4), 2, 0, 0, 0, 0), (88, .iadd, 1, 0, 0, 0, 0), (89, (.aload_n 0), 1, 0, 0, 0, 0), (90, (.getfield 13), 3, 9, 2, 2, 806), (93, (.bipush 32), 2, 0, 0, 0, 0), (95, (.iload_n 1), 1, 0, 0, 0, 0), (96, .imul, 1, 0, 0, 0, 0), (97, (.iload_n 2), 1, 0, 0, 0, 0), (98, .iadd, 1, 0, 0, 0, 0), (99, .iaload, 1, 0, 0, 0, 0), (100, .iastore, 1, 0, 0, 0, 0), (101, (.aload_n 0), 1, 0, 0, 0, 0), (102, (.getfield 13), 3, 9, 2, 2, 806), (105, (.bipush 32), 2, 0, 0, 0, 0), (107, (.iload_n 1), 1, 0, 0, 0, 0), (108, .imul, 1, 0, 0, 0, 0), (109, (.iload_n 2), 1, 0, 0, 0, 0), (110, .iadd, 1, 0, 0, 0, 0), (111, (.iload_n 3), 1, 0, 0, 0, 0), (112, .iastore, 1, 0, 0, 0, 0), (113, (.iload 4), 2, 0, 0, 0, 0), (115, .ireturn, 1, 0, 0, 0, 0)]
def c118 : List (Nat × En) := c118_0 ++ (c118_1)
def c119 : List (Nat × En) := [(0, (.iload_n 0), 1, 0, 0, 0, 0), (1, (.iload_n 1), 1, 0, 0, 0, 0), (2, (.if_icmp .lt 12), 3, 14, 0, 0, 0), (5, (.iload_n 0), 1, 0, 0, 0, 0), (6, (.iload_n 2), 1, 0, 0, 0, 0), (7, (.if_icmp .gt 7), 3, 14, 0, 0, 0), (10, (.iconst 1), 1, 0, 0, 0, 0), (11, (.goto 4), 3, 15, 0, 0, 0), (14, (.iconst 0), 1, 0, 0, 0, 0), (15, .ireturn, 1, 0, 0, 0, 0)]
def c120 : List (Nat × En) := [(0, (.iload_n 1), 1, 0, 0, 0, 0), (1, (.ifCond .lt 15), 3, 16, 0, 0, 0), (4, (.iload_n 1), 1, 0, 0, 0, 0), (5, (.aload_n 0), 1, 0, 0, 0, 0), (6, (.getfield 7), 3, 9, 1, 0, 805), (9, (.if_icmp .ge 7), 3, 16, 0, 0, 0), (12, (.iconst 1), 1, 0, 0, 0, 0), (13, (.goto 4), 3, 17, 0, 0, 0), (16, (.iconst 0), 1, 0, 0, 0, 0), (17, .ireturn, 1, 0, 0, 0, 0)]
def c121 : List (Nat × En) := [(0, (.aload_n 0), 1, 0, 0, 0, 0), (1, (.iload_n 1), 1, 0, 0, 0, 0), (2, (.iconst 0), 1, 0, 0, 0, 0), (3, (.bipush 7), 2, 0, 0, 0, 0), (5, (.invokestatic 92), 3, 119, 3, 0, 893), (8, (.ifCond .eq 15), 3, 23, 0, 0, 0), (11, (.aload_n 0), 1, 0, 0, 0, 0), (12, (.iload_n 2), 1, 0, 0, 0, 0), (13, (.invokevirtual 96), 3, 120, 1, 1, 896), (16, (.ifCond .eq 7), 3, 23, 0, 0, 0), (19, (.iconst 1), 1, 0, 0, 0, 0), (20, (.goto 4), 3, 24, 0, 0, 0), (23, (.iconst 0), 1, 0, 0, 0, 0), (24, (.aload_n 0), 1, 0, 0, 0, 0), (25, (.getfield 82), 3, 9, 19, 1, 823), (28, (.ifCond .ne 7), 3, 35, 0, 0, 0), (31, (.iconst 1), 1, 0, 0, 0, 0), (32, (.goto 4), 3, 36, 0, 0, 0), (35, (.iconst 0), 1, 0, 0, 0, 0), (36, (.iconst 1), 1, 0, 0, 0, 0), (37, (.invokevirtual 88), 3, 117, 3, 1, 885), (40, (.ifCond .ne 5), 3, 45, 0, 0, 0), (43, (.iconst 0), 1, 0, 0, 0, 0), (44, .ireturn, 1, 0, 0, 0, 0), (45, (.aload_n 0), 1, 0, 0, 0, 0), (46, (.getfield 17), 3, 9, 3, 2, 807), (49, (.iload_n 1), 1, 0, 0, 0, 0), (50, .iaload, 1, 0, 0, 0, 0), (51, (.istore_n 3), 1, 0, 0, 0, 0), (52, (.aload_n 0), 1, 0, 0, 0, 0), (53, (.getfield 17), 3, 9, 3, 2, 807), (56, (.iload_n 1), 1, 0, 0, 0, 0), (57, (.iload_n 2), 1, 0, 0, 0, 0), (58, .iastore, 1, 0, 0, 0, 0), (59, (.iload_n 3), 1, 0, 0, 0, 0), (60, .ireturn, 1, 0, 0, 0, 0)]
def c122 : List (Nat × En) := [(0, (.aload_n 0), 1, 0, 0, 0, 0), (1, (.iload_n 1), 1, 0, 0, 0, 0), (2, (.iconst 0), 1, 0, 0, 0, 0), (3, (.bipush 7), 2, 0, 0, 0, 0), (5, (.invokestatic 92), 3, 119, 3, 0, 893), (8, (.ifCond .eq 15), 3, 23, 0, 0, 0), (11, (.aload_n 0), 1, 0, 0, 0, 0), (12, (.iload_n 2), 1, 0, 0, 0, 0), (13, (.invokevirtual 96), 3, 120, 1, 1, 896), (16, (.ifCond .eq 7), 3, 23, 0, 0, 0), (19, (.iconst 1), 1, 0, 0, 0, 0), (20, (.goto 4), 3, 24, 0, 0, 0), (23, (.iconst 0), 1, 0, 0, 0, 0), (24, (.aload_n 0), 1, 0, 0, 0, 0), (25, (.getfield 82), 3, 9, 19, 1, 823), (28, (.ifCond .ne 7), 3, 35, 0, 0, 0), (31, (.iconst 1), 1, 0, 0, 0, 0), (32, (.goto 4), 3, 36, 0, 0, 0), (35, (.iconst 0), 1, 0, 0, 0, 0), (36, (.iconst 1), 1, 0, 0, 0, 0), (37, (.invokevirtual 88), 3, 117, 3, 1, 885), (40, (.ifCond .ne 5), 3, 45, 0, 0, 0), (43, (.iconst 0), 1, 0, 0, 0, 0), (44, .ireturn, 1, 0, 0, 0, 0), (45, (.aload_n 0), 1, 0, 0, 0, 0), (46, (.getfield 20), 3, 9, 4, 2, 808), (49, (.bipush 32), 2, 0, 0, 0, 0), (51, (.iload_n 1), 1, 0, 0, 0, 0), (52, .imul, 1, 0, 0, 0, 0), (53, (.iload_n 2), 1, 0, 0, 0, 0), (54, .iadd, 1, 0, 0, 0, 0), (55, .baload, 1, 0, 0, 0, 0), (56, (.istore 4), 2, 0, 0, 0, 0), (58, (.aload_n 0), 1, 0, 0, 0, 0), (59, (.getfield 20), 3, 9, 4, 2, 808), (62, (.bipush 32), 2, 0, 0, 0, 0), (64, (.iload_n 1), 1, 0, 0, 0, 0), (65, .imul, 1, 0, 0, 0, 0), (66, (.iload_n 2), 1, 0, 0, 0, 0), (67, .iadd, 1, 0, 0, 0, 0), (68, (.iload_n 3), 1, 0, 0, 0, 0), (69, .bastore, 1, 0, 0, 0, 0), (70, (.iload 4), 2, 0, 0, 0, 0), (72, (.iload_n 3), 1, 0, 0, 0, 0), (73, (.if_icmp .eq 7), 3, 80, 0, 0, 0), (76, (.iconst 1), 1, 0, 0, 0, 0), (77, (.goto 4), 3, 81, 0, 0, 0), (80, (.iconst 0), 1, 0, 0, 0, 0), (81, .ireturn, 1, 0, 0, 0, 0)]
def c123_0 : List (Nat × En) := [(0, (.iconst 0), 1, 0, 0, 0, 0), (1, (.istore_n 3), 1, 0, 0, 0, 0), (2, (.iconst 0), 1, 0, 0, 0, 0), (3, (.istore 4), 2, 0, 0, 0, 0), (5, (.iload 4), 2, 0, 0, 0, 0), (7, (.bipush 6), 2, 0, 0, 0, 0), (9, (.if_icmp .ge 41), 3, 50, 0, 0, 0), (12, (.iload_n 3), 1, 0, 0, 0, 0), (13, (.ifCond .ne 25), 3, 38, 0, 0, 0), (16, (.iload 4), 2, 0, 0, 0, 0), (18, (.iload_n 1), 1, 0, 0, 0, 0), (19, (.if_icmp .eq 23), 3, 42, 0, 0, 0), (22, (.iload_n 2), 1, 0, 0, 0, 0), (23, (.iconst (-1)), 1, 0, 0, 0, 0), (24, (.if_icmp .eq 18), 3, 42, 0, 0, 0), (27, (.aload_n 0), 1, 0, 0, 0, 0), (28, (.getfield 24), 3, 9, 5, 2, 809), (31, (.iload 4), 2, 0, 0, 0, 0), (33, .iaload, 1, 0, 0, 0, 0), (34, (.iload_n 2), 1, 0, 0, 0, 0), (35, (.if_icmp .ne 7), 3, 42, 0, 0, 0), (38, (.iconst 1), 1, 0, 0, 0, 0), (39, (.goto 4), 3, 43, 0, 0, 0), (42, (.iconst 0), 1, 0, 0, 0, 0), (43, (.istore_n 3), 1, 0, 0, 0, 0), (44, (.iinc 4 1), 3, 0, 0, 0, 0), (47, (.goto (-42)), 3, 5, 0, 0, 0), (50, (.aload_n 0), 1, 0, 0, 0, 0), (51, (.iload_n 1), 1, 0, 0, 0, 0), (52, (.iconst 0), 1, 0, 0, 0, 0), (53, (.iconst 5), 1, 0, 0, 0, 0), (54, (.invokestatic 92), 3, 119, 3, 0, 893), (57, (.ifCond .eq 17), 3, 74, 0, 0, 0), (60, (.iload_n 2), 1, 0, 0, 0, 0), (61, (.iconst (-1)), 1, 0, 0, 0, 0), (62, (.bipush 7), 2, 0, 0, 0, 0), (64, (.invokestatic 92), 3, 119, 3, 0, 893), (67, (.ifCond .eq 7), 3, 74, 0, 0, 0), (70, (.iconst 1), 1, 0, 0, 0, 0), (71, (.goto 4), 3, 75, 0, 0, 0)]
def c123_1 : List (Nat × En) := [(74, (.iconst 0), 1, 0, 0, 0, 0), (75, (.aload_n 0), 1, 0, 0, 0, 0), (76, (.getfield 82), 3, 9, 19, 1, 823), (79, (.ifCond .ne 11), 3, 90, 0, 0, 0), (82, (.iload_n 3), 1, 0, 0, 0, 0), (83, (.ifCond .ne 7), 3, 90, 0, 0, 0), (86, (.iconst 1), 1, 0, 0, 0, 0), (87, (.goto 4), 3, 91, 0, 0, 0), (90, (.iconst 0), 1, 0, 0, 0, 0), (91, (.iconst 1), 1, 0, 0, 0, 0), (92, (.invokevirtual 88), 3, 117, 3, 1, 885), (95, (.ifCond .ne 5), 3, 100, 0, 0, 0), (98, (.iconst 0), 1, 0, 0, 0, 0), (99, .ireturn, 1, 0, 0, 0, 0), (100, (.aload_n 0), 1, 0, 0, 0, 0), (101, (.getfield 24), 3, 9, 5, 2, 809), (104, (.iload_n 1), 1, 0, 0, 0, 0), (105, .iaload, 1, 0, 0, 0, 0), (106, (.istore 4), 2, 0, 0, 0, 0), (108, (.aload_n 0), 1, 0, 0, 0, 0), (109, (.getfield 24), 3, 9, 5, 2, 809), (112, (.iload_n 1), 1, 0, 0, 0, 0), (113, (.iload_n 2), 1, 0, 0, 0, 0), (114, .iastore, 1, 0, 0, 0, 0), (115, (.iload 4), 2, 0, 0, 0, 0), (117, .ireturn, 1, 0, 0, 0, 0)]
def c123 : List (Nat × En) := c123_0 ++ (c123_1)
def c124_0 : List (Nat × En) := [(0, (.iload_n 1), 1, 0, 0, 0, 0), (1, (.iconst 0), 1, 0, 0, 0, 0), (2, (.iconst 1), 1, 0, 0, 0, 0), (3, (.invokestatic 92), 3, 119, 3, 0, 893), (6, (.ifCond .eq 23), 3, 29, 0, 0, 0), (9, (.aload_n 0), 1, 0, 0, 0, 0), (10, (.iload_n 2), 1, 0, 0, 0, 0), (11, (.invokevirtual 96), 3, 120, 1, 1, 896), (14, (.ifCond .eq 15), 3, 29, 0, 0, 0), (17, (.aload_n 0), 1, 0, 0, 0, 0), (18, (.iload_n 3), 1, 0, 0, 0, 0), (19, (.invokevirtual 96), 3, 120, 1, 1, 896), (22, (.ifCond .eq 7), 3, 29, 0, 0, 0), (25, (.iconst 1), 1, 0, 0, 0, 0), (26, (.goto 4), 3, 30, 0, 0, 0), (29, (.iconst 0), 1, 0, 0, 0, 0), (30, (.istore 4), 2, 0, 0, 0, 0), (32, (.aload_n 0), 1, 0, 0, 0, 0), (33, (.iload 4), 2, 0, 0, 0, 0), (35, (.iload_n 2), 1, 0, 0, 0, 0), (36, (.iload_n 3), 1, 0, 0, 0, 0), (37, (.if_icmp .eq 7), 3, 44, 0, 0, 0), (40, (.iconst 1), 1, 0, 0, 0, 0), (41, (.goto 4), 3, 45, 0, 0, 0), (44, (.iconst 0), 1, 0, 0, 0, 0), (45, (.aload_n 0), 1, 0, 0, 0, 0), (46, (.getfield 82), 3, 9, 19, 1, 823), (49, (.ifCond .ne 30), 3, 79, 0, 0, 0), (52, (.iload 4), 2, 0, 0, 0, 0), (54, (.ifCond .eq 25), 3, 79, 0, 0, 0), (57, (.aload_n 0), 1, 0, 0, 0, 0), (58, (.iload_n 1), 1, 0, 0, 0, 0), (59, (.iload_n 2), 1, 0, 0, 0, 0), (60, (.invokevirtual 100), 3, 125, 2, 1, 916), (63, (.ifCond .ne 16), 3, 79, 0, 0, 0), (66, (.aload_n 0), 1, 0, 0, 0, 0), (67, (.iload_n 1), 1, 0, 0, 0, 0), (68, (.iload_n 3), 1, 0, 0, 0, 0), (69, (.invokevirtual 100), 3, 125, 2, 1, 916), (72, (.ifCond .ne 7), 3, 79, 0, 0, 0)]
def c124_1 : List (Nat × En) := [(75, (.iconst 1), 1, 0, 0, 0, 0), (76, (.goto 4), 3, 80, 0, 0, 0), (79, (.iconst 0), 1, 0, 0, 0, 0), (80, (.invokevirtual 88), 3, 117, 3, 1, 885), (83, (.ifCond .eq 27), 3, 110, 0, 0, 0), (86, (.aload_n 0), 1, 0, 0, 0, 0), (87, (.getfield 27), 3, 9, 6, 2, 810), (90, (.bipush 32), 2, 0, 0, 0, 0), (92, (.iload_n 1), 1, 0, 0, 0, 0), (93, .imul, 1, 0, 0, 0, 0), (94, (.iload_n 2), 1, 0, 0, 0, 0), (95, .iadd, 1, 0, 0, 0, 0), (96, (.iload_n 3), 1, 0, 0, 0, 0), (97, .iastore, 1, 0, 0, 0, 0), (98, (.aload_n 0), 1, 0, 0, 0, 0), (99, (.getfield 27), 3, 9, 6, 2, 810), (102, (.bipush 32), 2, 0, 0, 0, 0), (104, (.iload_n 1), 1, 0, 0, 0, 0), (105, .imul, 1, 0, 0, 0, 0), (106, (.iload_n 3), 1, 0, 0, 0, 0), (107, .iadd, 1, 0, 0, 0, 0), (108, (.iload_n 2), 1, 0, 0, 0, 0), (109, .iastore, 1, 0, 0, 0, 0), (110, .return_, 1, 0, 0, 0, 0)]
def c124 : List (Nat × En) := c124_0 ++ (c124_1)
def c125 : List (Nat × En) := [(0, (.aload_n 0), 1, 0, 0, 0, 0), (1, (.getfield 27), 3, 9, 6, 2, 810), (4, (.bipush 32), 2, 0, 0, 0, 0), (6, (.iload_n 1), 1, 0, 0, 0, 0), (7, .imul, 1, 0, 0, 0, 0), (8, (.iload_n 2), 1, 0, 0, 0, 0), (9, .iadd, 1, 0, 0, 0, 0), (10, .iaload, 1, 0, 0, 0, 0), (11, (.iload_n 2), 1, 0, 0, 0, 0), (12, (.if_icmp .eq 7), 3, 19, 0, 0, 0), (15, (.iconst 1), 1, 0, 0, 0, 0), (16, (.goto 4), 3, 20, 0, 0, 0), (19, (.iconst 0), 1, 0, 0, 0, 0), (20, .ireturn, 1, 0, 0, 0, 0)]
def c126 : List (Nat × En) := [(0, (.aload_n 0), 1, 0, 0, 0, 0), (1, (.iload_n 1), 1, 0, 0, 0, 0), (2, (.iconst 0), 1, 0, 0, 0, 0), (3, (.iconst 1), 1, 0, 0, 0, 0), (4, (.invokestatic 92), 3, 119, 3, 0, 893), (7, (.ifCond .eq 15), 3, 22, 0, 0, 0), (10, (.aload_n 0), 1, 0, 0, 0, 0), (11, (.iload_n 2), 1, 0, 0, 0, 0), (12, (.invokevirtual 96), 3, 120, 1, 1, 896), (15, (.ifCond .eq 7), 3, 22, 0, 0, 0), (18, (.iconst 1), 1, 0, 0, 0, 0), (19, (.goto 4), 3, 23, 0, 0, 0), (22, (.iconst 0), 1, 0, 0, 0, 0), (23, (.aload_n 0), 1, 0, 0, 0, 0), (24, (.getfield 82), 3, 9, 19, 1, 823), (27, (.ifCond .ne 7), 3, 34, 0, 0, 0), (30, (.iconst 1), 1, 0, 0, 0, 0), (31, (.goto 4), 3, 35, 0, 0, 0), (34, (.iconst 0), 1, 0, 0, 0, 0), (35, (.iconst 1), 1, 0, 0, 0, 0), (36, (.invokevirtual 88), 3, 117, 3, 1, 885), (39, (.ifCond .ne 5), 3, 44, 0, 0, 0), (42, (.iconst 0), 1, 0, 0, 0, 0), (43, .ireturn, 1, 0, 0, 0, 0), (44, (.aload_n 0), 1, 0, 0, 0, 0), (45, (.getfield 27), 3, 9, 6, 2, 810), (48, (.bipush 32), 2, 0, 0, 0, 0), (50, (.iload_n 1), 1, 0, 0, 0, 0), (51, .imul, 1, 0, 0, 0, 0), (52, (.iload_n 2), 1, 0, 0, 0, 0), (53, .iadd, 1, 0, 0, 0, 0), (54, .iaload, 1, 0, 0, 0, 0), (55, (.istore_n 3), 1, 0, 0, 0, 0), (56, (.aload_n 0), 1, 0, 0, 0, 0), (57, (.getfield 27), 3, 9, 6, 2, 810), (60, (.bipush 32), 2, 0, 0, 0, 0), (62, (.iload_n 1), 1, 0, 0, 0, 0), (63, .imul, 1, 0, 0, 0, 0), (64, (.iload_n 2), 1, 0, 0, 0, 0), (65, .iadd, 1, 0, 0, 0, 0), (66, (.iload_n 2), 1, 0, 0, 0, 0), (67, .iastore, 1, 0, 0, 0, 0), (68, (.aload_n 0), 1, 0, 0, 0, 0), (69, (.getfield 27), 3, 9, 6, 2, 810), (72, (.bipush 32), 2, 0, 0, 0, 0), (74, (.iload_n 1), 1, 0, 0, 0, 0), (75, .imul, 1, 0, 0, 0, 0), (76, (.iload_n 3), 1, 0, 0, 0, 0), (77, .iadd, 1, 0, 0, 0, 0), (78, (.iload_n 3), 1, 0, 0, 0, 0), (79, .iastore, 1, 0, 0, 0, 0), (80, (.iload_n 3), 1, 0, 0, 0, 0), (81, (.iload_n 2), 1, 0, 0, 0, 0), (82, (.if_icmp .ne 7), 3, 89, 0, 0, 0), (85, (.iconst (-1)), 1, 0, 0, 0, 0), (86, (.goto 4), 3, 90, 0, 0, 0), (89, (.iload_n 3), 1, 0, 0, 0, 0), (90, .ireturn, 1, 0, 0, 0, 0)]
def c127 : List (Nat × En) := [(0, (.aload_n 0), 1, 0, 0, 0, 0), (1, (.aload_n 0), 1, 0, 0, 0, 0), (2, (.getfield 82), 3, 9, 19, 1, 823), (5, (.ifCond .ne 7), 3, 12, 0, 0, 0), (8, (.iconst 1), 1, 0, 0, 0, 0), (9, (.goto 4), 3, 13, 0, 0, 0), (12, (.iconst 0), 1, 0, 0, 0, 0), (13, (.iconst 1), 1, 0, 0, 0, 0), (14, (.iconst 1), 1, 0, 0, 0, 0), (15, (.invokevirtual 88), 3, 117, 3, 1, 885), (18, (.ifCond .ne 5), 3, 23, 0, 0, 0), (21, (.iconst 0), 1, 0, 0, 0, 0), (22, .ireturn, 1, 0, 0, 0, 0), (23, (.aload_n 0), 1, 0, 0, 0, 0), (24, (.getfield 66), 3, 9, 7, 1, 811), (27, (.istore_n 2), 1, 0, 0, 0, 0), (28, (.aload_n 0), 1, 0, 0, 0, 0), (29, (.iload_n 1), 1, 0, 0, 0, 0), (30, (.putfield 66), 3, 9, 7, 1, 811), (33, (.iload_n 2), 1, 0, 0, 0, 0), (34, (.iload_n 1), 1, 0, 0, 0, 0), (35, (.if_icmp .eq 7), 3, 42, 0, 0, 0), (38, (.iconst 1), 1, 0, 0, 0, 0), (39, (.goto 4), 3, 43, 0, 0, 0), (42, (.iconst 0), 1, 0, 0, 0, 0), (43, .ireturn, 1, 0, 0, 0, 0)]
def c128 : List (Nat × En) := [(0, (.aload_n 0), 1, 0, 0, 0, 0), (1, (.iload_n 1), 1, 0, 0, 0, 0), (2, (.invokestatic 104), 3, 129, 1, 0, 932), (5, (.iload_n 2), 1, 0, 0, 0, 0), (6, (.iconst 0), 1, 0, 0, 0, 0), (7, (.bipush 61), 2, 0, 0, 0, 0), (9, (.invokestatic 92), 3, 119, 3, 0, 893), (12, (.aload_n 0), 1, 0, 0, 0, 0), (13, (.getfield 82), 3, 9, 19, 1, 823), (16, (.ifCond .ne 7), 3, 23, 0, 0, 0), (19, (.iconst 1), 1, 0, 0, 0, 0), (20, (.goto 4), 3, 24, 0, 0, 0), (23, (.iconst 0), 1, 0, 0, 0, 0), (24, (.invokevirtual 88), 3, 117, 3, 1, 885), (27, (.ifCond .ne 5), 3, 32, 0, 0, 0), (30, (.iconst 0), 1, 0, 0, 0, 0), (31, .ireturn, 1, 0, 0, 0, 0), (32, (.aload_n 0), 1, 0, 0, 0, 0), (33, (.getfield 30), 3, 9, 8, 2, 812), (36, (.iload_n 1), 1, 0, 0, 0, 0), (37, .iaload, 1, 0, 0, 0, 0), (38, (.istore_n 3), 1, 0, 0, 0, 0), (39, (.aload_n 0), 1, 0, 0, 0, 0), (40, (.getfield 30), 3, 9, 8, 2, 812), (43, (.iload_n 1), 1, 0, 0, 0, 0), (44, (.iload_n 2), 1, 0, 0, 0, 0), (45, .iastore, 1, 0, 0, 0, 0), (46, (.iconst 0), 1, 0, 0, 0, 0), (47, (.istore 4), 2, 0, 0, 0, 0), (49, (.iload 4), 2, 0, 0, 0, 0), (51, (.bipush 64), 2, 0, 0, 0, 0), (53, (.if_icmp .ge 22), 3, 75, 0, 0, 0), (56, (.aload_n 0), 1, 0, 0, 0, 0), (57, (.getfield 33), 3, 9, 9, 2, 813), (60, (.bipush 64), 2, 0, 0, 0, 0), (62, (.iload_n 1), 1, 0, 0, 0, 0), (63, .imul, 1, 0, 0, 0, 0), (64, (.iload 4), 2, 0, 0, 0, 0), (66, .iadd, 1, 0, 0, 0, 0), (67, (.iconst 0), 1, 0, 0, 0, 0), (68, .bastore, 1, 0, 0, 0, 0), (69, (.iinc 4 1), 3, 0, 0, 0, 0), (72, (.goto (-23)), 3, 49, 0, 0, 0), (75, (.aload_n 0), 1, 0, 0, 0, 0), (76, (.getfield 39), 3, 9, 13, 2, 817), (79, (.bipush 6), 2, 0, 0, 0, 0), (81, (.iload_n 1), 1, 0, 0, 0, 0), (82, .iadd, 1, 0, 0, 0, 0), (83, (.iconst 0), 1, 0, 0, 0, 0), (84, .iastore, 1, 0, 0, 0, 0), (85, (.aload_n 0), 1, 0, 0, 0, 0), (86, (.iconst 0), 1, 0, 0, 0, 0), (87, (.putfield 76), 3, 9, 16, 0, 820), (90, (.iload_n 3), 1, 0, 0, 0, 0), (91, .ireturn, 1, 0, 0, 0, 0)]
def c129 : List (Nat × En) := [(0, (.iload_n 0), 1, 0, 0, 0, 0), (1, (.iconst 0), 1, 0, 0, 0, 0), (2, (.bipush 11), 2, 0, 0, 0, 0), (4, (.invokestatic 92), 3, 119, 3, 0, 893), (7, .ireturn, 1, 0, 0, 0, 0)]
def c130 : List (Nat × En) := [(0, (.aload_n 0), 1, 0, 0, 0, 0), (1, (.iload_n 1), 1, 0, 0, 0, 0), (2, (.invokestatic 104), 3, 129, 1, 0, 932), (5, (.ifCond .eq 21), 3, 26, 0, 0, 0), (8, (.iload_n 2), 1, 0, 0, 0, 0), (9, (.ifCond .lt 17), 3, 26, 0, 0, 0), (12, (.iload_n 2), 1, 0, 0, 0, 0), (13, (.aload_n 0), 1, 0, 0, 0, 0), (14, (.getfield 30), 3, 9, 8, 2, 812), (17, (.iload_n 1), 1, 0, 0, 0, 0), (18, .iaload, 1, 0, 0, 0, 0), (19, (.if_icmp .ge 7), 3, 26, 0, 0, 0), (22, (.iconst 1), 1, 0, 0, 0, 0), (23, (.goto 4), 3, 27, 0, 0, 0), (26, (.iconst 0), 1, 0, 0, 0, 0), (27, (.aload_n 0), 1, 0, 0, 0, 0), (28, (.getfield 82), 3, 9, 19, 1, 823), (31, (.ifCond .ne 7), 3, 38, 0, 0, 0), (34, (.iconst 1), 1, 0, 0, 0, 0), (35, (.goto 4), 3, 39, 0, 0, 0), (38, (.iconst 0), 1, 0, 0, 0, 0), (39, (.iconst 1), 1, 0, 0, 0, 0), (40, (.invokevirtual 88), 3, 117, 3, 1, 885), (43, (.ifCond .ne 5), 3, 48, 0, 0, 0), (46, (.iconst 0), 1, 0, 0, 0, 0), (47, .ireturn, 1, 0, 0, 0, 0), (48, (.aload_n 0), 1, 0, 0, 0, 0), (49, (.getfield 33), 3, 9, 9, 2, 813), (52, (.bipush 64), 2, 0, 0, 0, 0), (54, (.iload_n 1), 1, 0, 0, 0, 0), (55, .imul, 1, 0, 0, 0, 0), (56, (.iload_n 2), 1, 0, 0, 0, 0), (57, .iadd, 1, 0, 0, 0, 0), (58, .baload, 1, 0, 0, 0, 0), (59, (.istore 4), 2, 0, 0, 0, 0), (61, (.aload_n 0), 1, 0, 0, 0, 0), (62, (.getfield 33), 3, 9, 9, 2, 813), (65, (.bipush 64), 2, 0, 0, 0, 0), (67, (.iload_n 1), 1, 0, 0, 0, 0), (68, .imul, 1, 0, 0, 0, 0), (69, (.iload_n 2), 1, 0, 0, 0, 0), (70, .iadd, 1, 0, 0, 0, 0), (71, (.iload_n 3), 1, 0, 0, 0, 0), (72, .bastore, 1, 0, 0, 0, 0), (73, (.iload 4), 2, 0, 0, 0, 0), (75, (.iload_n 3), 1, 0, 0, 0, 0), (76, (.if_icmp .eq 7), 3, 83, 0, 0, 0), (79, (.iconst 1), 1, 0, 0, 0, 0), (80, (.goto 4), 3, 84, 0, 0, 0), (83, (.iconst 0), 1, 0, 0, 0, 0), (84, .ireturn, 1, 0, 0, 0, 0)]
def c131 : List (Nat × En) := [(0, (.aload_n 0), 1, 0, 0, 0, 0), (1, (.iload_n 1), 1, 0, 0, 0, 0), (2, (.iconst 0), 1, 0, 0, 0, 0), (3, (.bipush 26), 2, 0, 0, 0, 0), (5, (.invokestatic 92), 3, 119, 3, 0, 893), (8, (.ifCond .eq 27), 3, 35, 0, 0, 0), (11, (.iload_n 2), 1, 0, 0, 0, 0), (12, (.iconst (-1)), 1, 0, 0, 0, 0), (13, (.bipush 11), 2, 0, 0, 0, 0), (15, (.invokestatic 92), 3, 119, 3, 0, 893), (18, (.ifCond .eq 17), 3, 35, 0, 0, 0), (21, (.iload_n 3), 1, 0, 0, 0, 0), (22, (.iconst (-1)), 1, 0, 0, 0, 0), (23, (.bipush 11), 2, 0, 0, 0, 0), (25, (.invokestatic 92), 3, 119, 3, 0, 893), (28, (.ifCond .eq 7), 3, 35, 0, 0, 0), (31, (.iconst 1), 1, 0, 0, 0, 0), (32, (.goto 4), 3, 36, 0, 0, 0), (35, (.iconst 0), 1, 0, 0, 0, 0), (36, (.aload_n 0), 1, 0, 0, 0, 0), (37, (.getfield 82), 3, 9, 19, 1, 823), (40, (.ifCond .ne 7), 3, 47, 0, 0, 0), (43, (.iconst 1), 1, 0, 0, 0, 0), (44, (.goto 4), 3, 48, 0, 0, 0), (47, (.iconst 0), 1, 0, 0, 0, 0), (48, (.iconst 1), 1, 0, 0, 0, 0), (49, (.invokevirtual 88), 3, 117, 3, 1, 885), (52, (.ifCond .eq 23), 3, 75, 0, 0, 0), (55, (.aload_n 0), 1, 0, 0, 0, 0), (56, (.getfield 36), 3, 9, 10, 2, 814), (59, (.iconst 2), 1, 0, 0, 0, 0), (60, (.iload_n 1), 1, 0, 0, 0, 0), (61, .imul, 1, 0, 0, 0, 0), (62, (.iload_n 2), 1, 0, 0, 0, 0), (63, .iastore, 1, 0, 0, 0, 0), (64, (.aload_n 0), 1, 0, 0, 0, 0), (65, (.getfield 36), 3, 9, 10, 2, 814), (68, (.iconst 2), 1, 0, 0, 0, 0), (69, (.iload_n 1), 1, 0, 0, 0, 0), (70, .imul, 1, 0, 0, 0, 0), (71, (.iconst 1), 1, 0, 0, 0, 0), (72, .iadd, 1, 0, 0, 0, 0), (73, (.iload_n 3), 1, 0, 0, 0, 0), (74, .iastore, 1, 0, 0, 0, 0), (75, .return_, 1, 0, 0, 0, 0)]
def c132 : List (Nat × En) := [(0, (.aload_n 0), 1, 0, 0, 0, 0), (1, (.iload_n 1), 1, 0, 0, 0, 0), (2, (.iconst 0), 1, 0, 0, 0, 0), (3, (.iconst 4), 1, 0, 0, 0, 0), (4, (.invokestatic 92), 3, 119, 3, 0, 893), (7, (.aload_n 0), 1, 0, 0, 0, 0), (8, (.getfield 82), 3, 9, 19, 1, 823), (11, (.ifCond .ne 7), 3, 18, 0, 0, 0), (14, (.iconst 1), 1, 0, 0, 0, 0), (15, (.goto 4), 3, 19, 0, 0, 0), (18, (.iconst 0), 1, 0, 0, 0, 0), (19, (.iconst 1), 1, 0, 0, 0, 0), (20, (.invokevirtual 88), 3, 117, 3, 1, 885), (23, (.ifCond .ne 5), 3, 28, 0, 0, 0), (26, (.iconst 0), 1, 0, 0, 0, 0), (27, .ireturn, 1, 0, 0, 0, 0), (28, (.aload_n 0), 1, 0, 0, 0, 0), (29, (.getfield 70), 3, 9, 11, 0, 815), (32, (.istore_n 2), 1, 0, 0, 0, 0), (33, (.aload_n 0), 1, 0, 0, 0, 0), (34, (.iload_n 1), 1, 0, 0, 0, 0), (35, (.putfield 70), 3, 9, 11, 0, 815), (38, (.iload_n 2), 1, 0, 0, 0, 0), (39, .ireturn, 1, 0, 0, 0, 0)]
def c133 : List (Nat × En) := [(0, (.aload_n 0), 1, 0, 0, 0, 0), (1, (.iload_n 1), 1, 0, 0, 0, 0), (2, (.iconst 0), 1, 0, 0, 0, 0), (3, (.iconst 2), 1, 0, 0, 0, 0), (4, (.invokestatic 92), 3, 119, 3, 0, 893), (7, (.aload_n 0), 1, 0, 0, 0, 0), (8, (.getfield 82), 3, 9, 19, 1, 823), (11, (.ifCond .ne 7), 3, 18, 0, 0, 0), (14, (.iconst 1), 1, 0, 0, 0, 0), (15, (.goto 4), 3, 19, 0, 0, 0), (18, (.iconst 0), 1, 0, 0, 0, 0), (19, (.iconst 1), 1, 0, 0, 0, 0), (20, (.invokevirtual 88), 3, 117, 3, 1, 885), (23, (.ifCond .ne 5), 3, 28, 0, 0, 0), (26, (.iconst 0), 1, 0, 0, 0, 0), (27, .ireturn, 1, 0, 0, 0, 0), (28, (.aload_n 0), 1, 0, 0, 0, 0), (29, (.getfield 73), 3, 9, 12, 0, 816), (32, (.istore_n 2), 1, 0, 0, 0, 0), (33, (.aload_n 0), 1, 0, 0, 0, 0), (34, (.iload_n 1), 1, 0, 0, 0, 0), (35, (.putfield 73), 3, 9, 12, 0, 816), (38, (.iload_n 2), 1, 0, 0, 0, 0), (39, .ireturn, 1, 0, 0, 0, 0)]
def c134 : List (Nat × En) := [(0, (.aload_n 0), 1, 0, 0, 0, 0), (1, (.iload_n 1), 1, 0, 0, 0, 0), (2, (.iload_n 2), 1, 0, 0, 0, 0), (3, (.invokevirtual 107), 3, 135, 2, 1, 955), (6, (.ifCond .eq 32), 3, 38, 0, 0, 0), (9, (.iload_n 3), 1, 0, 0, 0, 0), (10, (.ifCond .lt 28), 3, 38, 0, 0, 0), (13, (.iload_n 3), 1, 0, 0, 0, 0), (14, (.iload_n 1), 1, 0, 0, 0, 0), (15, (.ifCond .ne 10), 3, 25, 0, 0, 0), (18, (.aload_n 0), 1, 0, 0, 0, 0), (19, (.getfield 7), 3, 9, 1, 0, 805), (22, (.goto 9), 3, 31, 0, 0, 0), (25, (.aload_n 0), 1, 0, 0, 0, 0), (26, (.getfield 30), 3, 9, 8, 2, 812), (29, (.iload_n 2), 1, 0, 0, 0, 0), (30, .iaload, 1, 0, 0, 0, 0), (31, (.if_icmp .ge 7), 3, 38, 0, 0, 0), (34, (.iconst 1), 1, 0, 0, 0, 0), (35, (.goto 4), 3, 39, 0, 0, 0), (38, (.iconst 0), 1, 0, 0, 0, 0), (39, (.istore 4), 2, 0, 0, 0, 0), (41, (.aload_n 0), 1, 0, 0, 0, 0), (42, (.iload 4), 2, 0, 0, 0, 0), (44, (.aload_n 0), 1, 0, 0, 0, 0), (45, (.getfield 82), 3, 9, 19, 1, 823), (48, (.ifCond .ne 7), 3, 55, 0, 0, 0), (51, (.iconst 1), 1, 0, 0, 0, 0), (52, (.goto 4), 3, 56, 0, 0, 0), (55, (.iconst 0), 1, 0, 0, 0, 0), (56, (.iconst 1), 1, 0, 0, 0, 0), (57, (.invokevirtual 88), 3, 117, 3, 1, 885), (60, (.ifCond .ne 5), 3, 65, 0, 0, 0), (63, (.iconst 0), 1, 0, 0, 0, 0), (64, .ireturn, 1, 0, 0, 0, 0), (65, (.bipush 6), 2, 0, 0, 0, 0), (67, (.iload_n 1), 1, 0, 0, 0, 0), (68, .imul, 1, 0, 0, 0, 0), (69, (.iload_n 2), 1, 0, 0, 0, 0), (70, .iadd, 1, 0, 0, 0, 0), (71, (.istore 5), 2, 0, 0, 0, 0), (73, (.aload_n 0), 1, 0, 0, 0, 0), (74, (.getfield 39), 3, 9, 13, 2, 817), (77, (.iload 5), 2, 0, 0, 0, 0), (79, .iaload, 1, 0, 0, 0, 0), (80, (.istore 6), 2, 0, 0, 0, 0), (82, (.aload_n 0), 1, 0, 0, 0, 0), (83, (.getfield 39), 3, 9, 13, 2, 817), (86, (.iload 5), 2, 0, 0, 0, 0), (88, (.iload_n 3), 1, 0, 0, 0, 0), (89, .iastore, 1, 0, 0, 0, 0), (90, (.aload_n 0), 1, 0, 0, 0, 0), (91, (.iconst 0), 1, 0, 0, 0, 0), (92, (.putfield 76), 3, 9, 16, 0, 820), (95, (.iload 6), 2, 0, 0, 0, 0), (97, .ireturn, 1, 0, 0, 0, 0)]
def c135 : List (Nat × En) := [(0, (.iload_n 1), 1, 0, 0, 0, 0), (1, (.ifCond .ne 12), 3, 13, 0, 0, 0), (4, (.iload_n 2), 1, 0, 0, 0, 0), (5, (.iconst 0), 1, 0, 0, 0, 0), (6, (.iconst 5), 1, 0, 0, 0, 0), (7, (.invokestatic 92), 3, 119, 3, 0, 893), (10, (.ifCond .ne 15), 3, 25, 0, 0, 0), (13, (.iload_n 1), 1, 0, 0, 0, 0), (14, (.iconst 1), 1, 0, 0, 0, 0), (15, (.if_icmp .ne 14), 3, 29, 0, 0, 0), (18, (.iload_n 2), 1, 0, 0, 0, 0), (19, (.invokestatic 104), 3, 129, 1, 0, 932), (22, (.ifCond .eq 7), 3, 29, 0, 0, 0), (25, (.iconst 1), 1, 0, 0, 0, 0), (26, (.goto 4), 3, 30, 0, 0, 0), (29, (.iconst 0), 1, 0, 0, 0, 0), (30, .ireturn, 1, 0, 0, 0, 0)]
def c136_0 : List (Nat × En) := [(0, (.aload_n 0), 1, 0, 0, 0, 0), (1, (.aload_n 0), 1, 0, 0, 0, 0), (2, (.iload_n 1), 1, 0, 0, 0, 0), (3, (.invokevirtual 96), 3, 120, 1, 1, 896), (6, (.aload_n 0), 1, 0, 0, 0, 0), (7, (.getfield 82), 3, 9, 19, 1, 823), (10, (.ifCond .eq 19), 3, 29, 0, 0, 0), (13, (.aload_n 0), 1, 0, 0, 0, 0), (14, (.getfield 51), 3, 9, 20, 2, 824), (17, (.aload_n 0), 1, 0, 0, 0, 0), (18, (.getfield 79), 3, 9, 18, 0, 822), (21, (.iconst 1), 1, 0, 0, 0, 0), (22, .isub, 1, 0, 0, 0, 0), (23, .iaload, 1, 0, 0, 0, 0), (24, (.bipush 60), 2, 0, 0, 0, 0), (26, (.if_icmp .ge 7), 3, 33, 0, 0, 0), (29, (.iconst 1), 1, 0, 0, 0, 0), (30, (.goto 4), 3, 34, 0, 0, 0), (33, (.iconst 0), 1, 0, 0, 0, 0), (34, (.iconst 1), 1, 0, 0, 0, 0), (35, (.invokevirtual 88), 3, 117, 3, 1, 885), (38, (.ifCond .ne 5), 3, 43, 0, 0, 0), (41, (.iconst 0), 1, 0, 0, 0, 0), (42, .ireturn, 1, 0, 0, 0, 0), (43, (.aload_n 0), 1, 0, 0, 0, 0), (44, (.invokevirtual 146), 3, 137, 0, 1, 963), (47, (.aload_n 0), 1, 0, 0, 0, 0), (48, (.iload_n 1), 1, 0, 0, 0, 0), (49, (.invokevirtual 149), 3, 144, 1, 1, 991), (52, (.istore_n 2), 1, 0, 0, 0, 0), (53, (.aload_n 0), 1, 0, 0, 0, 0), (54, (.getfield 82), 3, 9, 19, 1, 823), (57, (.ifCond .eq 54), 3, 111, 0, 0, 0), (60, (.bipush 60), 2, 0, 0, 0, 0), (62, (.aload_n 0), 1, 0, 0, 0, 0), (63, (.getfield 79), 3, 9, 18, 0, 822), (66, (.iconst 1), 1, 0, 0, 0, 0), (67, .isub, 1, 0, 0, 0, 0), (68, .imul, 1, 0, 0, 0, 0), (69, (.aload_n 0), 1, 0, 0, 0, 0)]
def c136_1 : List (Nat × En) := [(70, (.getfield 51), 3, 9, 20, 2, 824), (73, (.aload_n 0), 1, 0, 0, 0, 0), (74, (.getfield 79), 3, 9, 18, 0, 822), (77, (.iconst 1), 1, 0, 0, 0, 0), (78, .isub, 1, 0, 0, 0, 0), (79, .iaload, 1, 0, 0, 0, 0), (80, .iadd, 1, 0, 0, 0, 0), (81, (.istore_n 3), 1, 0, 0, 0, 0), (82, (.aload_n 0), 1, 0, 0, 0, 0), (83, (.getfield 57), 3, 9, 22, 2, 826), (86, (.iload_n 3), 1, 0, 0, 0, 0), (87, (.iload_n 1), 1, 0, 0, 0, 0), (88, .iastore, 1, 0, 0, 0, 0), (89, (.aload_n 0), 1, 0, 0, 0, 0), (90, (.getfield 60), 3, 9, 23, 2, 827), (93, (.iload_n 3), 1, 0, 0, 0, 0), (94, (.iload_n 2), 1, 0, 0, 0, 0), (95, .iastore, 1, 0, 0, 0, 0), (96, (.aload_n 0), 1, 0, 0, 0, 0), (97, (.getfield 51), 3, 9, 20, 2, 824), (100, (.aload_n 0), 1, 0, 0, 0, 0), (101, (.getfield 79), 3, 9, 18, 0, 822), (104, (.iconst 1), 1, 0, 0, 0, 0), (105, .isub, 1, 0, 0, 0, 0), (106, .dup2, 1, 0, 0, 0, 0), (107, .iaload, 1, 0, 0, 0, 0), (108, (.iconst 1), 1, 0, 0, 0, 0), (109, .iadd, 1, 0, 0, 0, 0), (110, .iastore, 1, 0, 0, 0, 0), (111, (.iload_n 2), 1, 0, 0, 0, 0), (112, .ireturn, 1, 0, 0, 0, 0)]
def c136 : List (Nat × En) := c136_0 ++ (c136_1)
def c137 : List (Nat × En) := [(0, (.aload_n 0), 1, 0, 0, 0, 0), (1, (.getfield 76), 3, 9, 16, 0, 820), (4, (.bipush 40), 2, 0, 0, 0, 0), (6, (.if_icmp .ne 39), 3, 45, 0, 0, 0), (9, (.iconst 0), 1, 0, 0, 0, 0), (10, (.istore_n 1), 1, 0, 0, 0, 0), (11, (.iload_n 1), 1, 0, 0, 0, 0), (12, (.sipush 702), 3, 0, 0, 0, 0), (15, (.if_icmp .ge 24), 3, 39, 0, 0, 0), (18, (.aload_n 0), 1, 0, 0, 0, 0), (19, (.getfield 48), 3, 9, 17, 2, 821), (22, (.iload_n 1), 1, 0, 0, 0, 0), (23, (.aload_n 0), 1, 0, 0, 0, 0), (24, (.getfield 48), 3, 9, 17, 2, 821), (27, (.iload_n 1), 1, 0, 0, 0, 0), (28, (.bipush 18), 2, 0, 0, 0, 0), (30, .iadd, 1, 0, 0, 0, 0), (31, .iaload, 1, 0, 0, 0, 0), (32, .iastore, 1, 0, 0, 0, 0), (33, (.iinc 1 1), 3, 0, 0, 0, 0), (36, (.goto (-25)), 3, 11, 0, 0, 0), (39, (.aload_n 0), 1, 0, 0, 0, 0), (40, (.bipush 39), 2, 0, 0, 0, 0), (42, (.putfield 76), 3, 9, 16, 0, 820), (45, (.iconst 0), 1, 0, 0, 0, 0), (46, (.istore_n 1), 1, 0, 0, 0, 0), (47, (.iload_n 1), 1, 0, 0, 0, 0), (48, (.bipush 18), 2, 0, 0, 0, 0), (50, (.if_icmp .ge 29), 3, 79, 0, 0, 0), (53, (.aload_n 0), 1, 0, 0, 0, 0), (54, (.getfield 48), 3, 9, 17, 2, 821), (57, (.bipush 18), 2, 0, 0, 0, 0), (59, (.aload_n 0), 1, 0, 0, 0, 0), (60, (.getfield 76), 3, 9, 16, 0, 820), (63, .imul, 1, 0, 0, 0, 0), (64, (.iload_n 1), 1, 0, 0, 0, 0), (65, .iadd, 1, 0, 0, 0, 0), (66, (.aload_n 0), 1, 0, 0, 0, 0), (67, (.getfield 39), 3, 9, 13, 2, 817), (70, (.iload_n 1), 1, 0, 0, 0, 0), (71, .iaload, 1, 0, 0, 0, 0), (72, .iastore, 1, 0, 0, 0, 0), (73, (.iinc 1 1), 3, 0, 0, 0, 0), (76, (.goto (-29)), 3, 47, 0, 0, 0), (79, (.aload_n 0), 1, 0, 0, 0, 0), (80, .dup, 1, 0, 0, 0, 0), (81, (.getfield 76), 3, 9, 16, 0, 820), (84, (.iconst 1), 1, 0, 0, 0, 0), (85, .iadd, 1, 0, 0, 0, 0), (86, (.putfield 76), 3, 9, 16, 0, 820), (89, (.aload_n 0), 1, 0, 0, 0, 0), (90, (.invokevirtual 126), 3, 138, 0, 1, 967), (93, .return_, 1, 0, 0, 0, 0)]
def c138_0 : List (Nat × En) := [(0, (.iconst 0), 1, 0, 0, 0, 0), (1, (.istore_n 1), 1, 0, 0, 0, 0), (2, (.iload_n 1), 1, 0, 0, 0, 0), (3, (.bipush 6), 2, 0, 0, 0, 0), (5, (.if_icmp .ge 38), 3, 43, 0, 0, 0), (8, (.aload_n 0), 1, 0, 0, 0, 0), (9, (.getfield 45), 3, 9, 15, 2, 819), (12, (.iload_n 1), 1, 0, 0, 0, 0), (13, (.aload_n 0), 1, 0, 0, 0, 0), (14, (.getfield 24), 3, 9, 5, 2, 809), (17, (.iload_n 1), 1, 0, 0, 0, 0), (18, .iaload, 1, 0, 0, 0, 0), (19, (.iconst (-1)), 1, 0, 0, 0, 0), (20, (.if_icmp .eq 15), 3, 35, 0, 0, 0), (23, (.aload_n 0), 1, 0, 0, 0, 0), (24, (.iload_n 1), 1, 0, 0, 0, 0), (25, (.invokevirtual 123), 3, 139, 1, 1, 971), (28, (.ifCond .eq 7), 3, 35, 0, 0, 0), (31, (.iconst 1), 1, 0, 0, 0, 0), (32, (.goto 4), 3, 36, 0, 0, 0), (35, (.iconst 0), 1, 0, 0, 0, 0), (36, .bastore, 1, 0, 0, 0, 0), (37, (.iinc 1 1), 3, 0, 0, 0, 0), (40, (.goto (-38)), 3, 2, 0, 0, 0), (43, (.iconst 0), 1, 0, 0, 0, 0), (44, (.istore_n 1), 1, 0, 0, 0, 0), (45, (.iload_n 1), 1, 0, 0, 0, 0), (46, (.bipush 6), 2, 0, 0, 0, 0), (48, (.if_icmp .ge 46), 3, 94, 0, 0, 0), (51, (.aload_n 0), 1, 0, 0, 0, 0), (52, (.getfield 39), 3, 9, 13, 2, 817), (55, (.iload_n 1), 1, 0, 0, 0, 0), (56, (.aload_n 0), 1, 0, 0, 0, 0), (57, (.getfield 45), 3, 9, 15, 2, 819), (60, (.iload_n 1), 1, 0, 0, 0, 0), (61, .baload, 1, 0, 0, 0, 0), (62, (.ifCond .eq 19), 3, 81, 0, 0, 0), (65, (.aload_n 0), 1, 0, 0, 0, 0), (66, (.getfield 39), 3, 9, 13, 2, 817), (69, (.iload_n 1), 1, 0, 0, 0, 0)]
def c138_1 : List (Nat × En) := [(70, .iaload, 1, 0, 0, 0, 0), (71, (.iconst 1), 1, 0, 0, 0, 0), (72, .iadd, 1, 0, 0, 0, 0), (73, (.aload_n 0), 1, 0, 0, 0, 0), (74, (.getfield 7), 3, 9, 1, 0, 805), (77, .irem, 1, 0, 0, 0, 0), (78, (.goto 9), 3, 87, 0, 0, 0), (81, (.aload_n 0), 1, 0, 0, 0, 0), (82, (.getfield 39), 3, 9, 13, 2, 817), (85, (.iload_n 1), 1, 0, 0, 0, 0), (86, .iaload, 1, 0, 0, 0, 0), (87, .iastore, 1, 0, 0, 0, 0), (88, (.iinc 1 1), 3, 0, 0, 0, 0), (91, (.goto (-46)), 3, 45, 0, 0, 0), (94, (.iconst 0), 1, 0, 0, 0, 0), (95, (.istore_n 1), 1, 0, 0, 0, 0), (96, (.iload_n 1), 1, 0, 0, 0, 0), (97, (.bipush 12), 2, 0, 0, 0, 0), (99, (.if_icmp .ge 49), 3, 148, 0, 0, 0), (102, (.aload_n 0), 1, 0, 0, 0, 0), (103, (.getfield 39), 3, 9, 13, 2, 817), (106, (.bipush 6), 2, 0, 0, 0, 0), (108, (.iload_n 1), 1, 0, 0, 0, 0), (109, .iadd, 1, 0, 0, 0, 0), (110, (.aload_n 0), 1, 0, 0, 0, 0), (111, (.getfield 30), 3, 9, 8, 2, 812), (114, (.iload_n 1), 1, 0, 0, 0, 0), (115, .iaload, 1, 0, 0, 0, 0), (116, (.ifCond .le 24), 3, 140, 0, 0, 0), (119, (.aload_n 0), 1, 0, 0, 0, 0), (120, (.getfield 39), 3, 9, 13, 2, 817), (123, (.bipush 6), 2, 0, 0, 0, 0), (125, (.iload_n 1), 1, 0, 0, 0, 0), (126, .iadd, 1, 0, 0, 0, 0), (127, .iaload, 1, 0, 0, 0, 0), (128, (.iconst 1), 1, 0, 0, 0, 0), (129, .iadd, 1, 0, 0, 0, 0), (130, (.aload_n 0), 1, 0, 0, 0, 0), (131, (.getfield 30), 3, 9, 8, 2, 812), (134, (.iload_n 1), 1, 0, 0, 0, 0)]
def c138_2 : List (Nat × En) := [(135, .iaload, 1, 0, 0, 0, 0), (136, .irem, 1, 0, 0, 0, 0), (137, (.goto 4), 3, 141, 0, 0, 0), (140, (.iconst 0), 1, 0, 0, 0, 0), (141, .iastore, 1, 0, 0, 0, 0), (142, (.iinc 1 1), 3, 0, 0, 0, 0), (145, (.goto (-49)), 3, 96, 0, 0, 0), (148, .return_, 1, 0, 0, 0, 0)]
def c138 : List (Nat × En) := c138_0 ++ (c138_1 ++ (c138_2))
def c139_0 : List (Nat × En) := [(0, (.aload_n 0), 1, 0, 0, 0, 0), (1, (.iload_n 1), 1, 0, 0, 0, 0), (2, (.iconst (-1)), 1, 0, 0, 0, 0), (3, (.iconst 0), 1, 0, 0, 0, 0), (4, (.invokevirtual 113), 3, 140, 3, 1, 975), (7, (.istore_n 2), 1, 0, 0, 0, 0), (8, (.aload_n 0), 1, 0, 0, 0, 0), (9, (.iload_n 1), 1, 0, 0, 0, 0), (10, (.iconst 1), 1, 0, 0, 0, 0), (11, (.iconst 0), 1, 0, 0, 0, 0), (12, (.invokevirtual 113), 3, 140, 3, 1, 975), (15, (.istore_n 3), 1, 0, 0, 0, 0), (16, (.aload_n 0), 1, 0, 0, 0, 0), (17, (.bipush 6), 2, 0, 0, 0, 0), (19, (.iconst (-1)), 1, 0, 0, 0, 0), (20, (.iconst 0), 1, 0, 0, 0, 0), (21, (.invokevirtual 113), 3, 140, 3, 1, 975), (24, (.istore 4), 2, 0, 0, 0, 0), (26, (.aload_n 0), 1, 0, 0, 0, 0), (27, (.getfield 70), 3, 9, 11, 0, 815), (30, (.tableswitch 111 0 3 #[30, 36, 68, 88]), 30, 0, 0, 0, 0), (60, (.aload_n 0), 1, 0, 0, 0, 0), (61, (.iload_n 1), 1, 0, 0, 0, 0), (62, (.invokevirtual 117), 3, 141, 1, 1, 979), (65, .ireturn, 1, 0, 0, 0, 0), (66, (.iload_n 2), 1, 0, 0, 0, 0), (67, (.iconst (-1)), 1, 0, 0, 0, 0), (68, (.if_icmp .eq 24), 3, 92, 0, 0, 0), (71, (.aload_n 0), 1, 0, 0, 0, 0), (72, (.iload_n 2), 1, 0, 0, 0, 0), (73, (.invokevirtual 110), 3, 142, 1, 1, 983), (76, (.ifCond .ne 16), 3, 92, 0, 0, 0), (79, (.aload_n 0), 1, 0, 0, 0, 0), (80, (.iload_n 1), 1, 0, 0, 0, 0), (81, (.invokevirtual 110), 3, 142, 1, 1, 983), (84, (.ifCond .eq 12), 3, 96, 0, 0, 0), (87, (.iload_n 3), 1, 0, 0, 0, 0), (88, (.iconst (-1)), 1, 0, 0, 0, 0), (89, (.if_icmp .eq 7), 3, 96, 0, 0, 0), (92, (.iconst 1), 1, 0, 0, 0, 0)]
def c139_1 : List (Nat × En) := [(93, (.goto 4), 3, 97, 0, 0, 0), (96, (.iconst 0), 1, 0, 0, 0, 0), (97, .ireturn, 1, 0, 0, 0, 0), (98, (.aload_n 0), 1, 0, 0, 0, 0), (99, (.aload_n 0), 1, 0, 0, 0, 0), (100, (.iload_n 1), 1, 0, 0, 0, 0), (101, (.iconst 1), 1, 0, 0, 0, 0), (102, (.iconst 1), 1, 0, 0, 0, 0), (103, (.invokevirtual 113), 3, 140, 3, 1, 975), (106, (.invokevirtual 110), 3, 142, 1, 1, 983), (109, (.ifCond .ne 7), 3, 116, 0, 0, 0), (112, (.iconst 1), 1, 0, 0, 0, 0), (113, (.goto 4), 3, 117, 0, 0, 0), (116, (.iconst 0), 1, 0, 0, 0, 0), (117, .ireturn, 1, 0, 0, 0, 0), (118, (.aload_n 0), 1, 0, 0, 0, 0), (119, (.getfield 30), 3, 9, 8, 2, 812), (122, (.iload_n 1), 1, 0, 0, 0, 0), (123, .iaload, 1, 0, 0, 0, 0), (124, (.ifCond .eq 11), 3, 135, 0, 0, 0), (127, (.aload_n 0), 1, 0, 0, 0, 0), (128, (.iload_n 1), 1, 0, 0, 0, 0), (129, (.invokevirtual 120), 3, 143, 1, 1, 987), (132, (.ifCond .eq 7), 3, 139, 0, 0, 0), (135, (.iconst 1), 1, 0, 0, 0, 0), (136, (.goto 4), 3, 140, 0, 0, 0), (139, (.iconst 0), 1, 0, 0, 0, 0), (140, .ireturn, 1, 0, 0, 0, 0), (141, (.iload_n 1), 1, 0, 0, 0, 0), (142, (.iload 4), 2, 0, 0, 0, 0), (144, (.if_icmp .eq 12), 3, 156, 0, 0, 0), (147, (.aload_n 0), 1, 0, 0, 0, 0), (148, (.iload 4), 2, 0, 0, 0, 0), (150, (.invokevirtual 110), 3, 142, 1, 1, 983), (153, (.ifCond .ne 7), 3, 160, 0, 0, 0), (156, (.iconst 1), 1, 0, 0, 0, 0), (157, (.goto 4), 3, 161, 0, 0, 0), (160, (.iconst 0), 1, 0, 0, 0, 0), (161, .ireturn, 1, 0, 0, 0, 0)]
def c139 : List (Nat × En) := c139_0 ++ (c139_1)
def c140 : List (Nat × En) := [(0, (.iload_n 1), 1, 0, 0, 0, 0), (1, (.iload_n 2), 1, 0, 0, 0, 0), (2, .iadd, 1, 0, 0, 0, 0), (3, (.istore 4), 2, 0, 0, 0, 0), (5, (.iconst 0), 1, 0, 0, 0, 0), (6, (.istore 5), 2, 0, 0, 0, 0), (8, (.iload 5), 2, 0, 0, 0, 0), (10, (.bipush 6), 2, 0, 0, 0, 0), (12, (.if_icmp .ge 61), 3, 73, 0, 0, 0), (15, (.iload_n 3), 1, 0, 0, 0, 0), (16, (.ifCond .eq 14), 3, 30, 0, 0, 0), (19, (.iload 4), 2, 0, 0, 0, 0), (21, (.bipush 6), 2, 0, 0, 0, 0), (23, .iadd, 1, 0, 0, 0, 0), (24, (.bipush 6), 2, 0, 0, 0, 0), (26, .irem, 1, 0, 0, 0, 0), (27, (.goto 5), 3, 32, 0, 0, 0), (30, (.iload 4), 2, 0, 0, 0, 0), (32, (.istore 4), 2, 0, 0, 0, 0), (34, (.iload 4), 2, 0, 0, 0, 0), (36, (.ifCond .lt 9), 3, 45, 0, 0, 0), (39, (.iload 4), 2, 0, 0, 0, 0), (41, (.iconst 5), 1, 0, 0, 0, 0), (42, (.if_icmp .le 5), 3, 47, 0, 0, 0), (45, (.iconst (-1)), 1, 0, 0, 0, 0), (46, .ireturn, 1, 0, 0, 0, 0), (47, (.aload_n 0), 1, 0, 0, 0, 0), (48, (.getfield 24), 3, 9, 5, 2, 809), (51, (.iload 4), 2, 0, 0, 0, 0), (53, .iaload, 1, 0, 0, 0, 0), (54, (.iconst (-1)), 1, 0, 0, 0, 0), (55, (.if_icmp .eq 6), 3, 61, 0, 0, 0), (58, (.iload 4), 2, 0, 0, 0, 0), (60, .ireturn, 1, 0, 0, 0, 0), (61, (.iload 4), 2, 0, 0, 0, 0), (63, (.iload_n 2), 1, 0, 0, 0, 0), (64, .iadd, 1, 0, 0, 0, 0), (65, (.istore 4), 2, 0, 0, 0, 0), (67, (.iinc 5 1), 3, 0, 0, 0, 0), (70, (.goto (-62)), 3, 8, 0, 0, 0), (73, (.iconst (-1)), 1, 0, 0, 0, 0), (74, .ireturn, 1, 0, 0, 0, 0)]
def c141 : List (Nat × En) := [(0, (.iconst 1), 1, 0, 0, 0, 0), (1, (.istore_n 2), 1, 0, 0, 0, 0), (2, (.iconst 0), 1, 0, 0, 0, 0), (3, (.istore_n 3), 1, 0, 0, 0, 0), (4, (.iload_n 3), 1, 0, 0, 0, 0), (5, (.iload_n 1), 1, 0, 0, 0, 0), (6, (.if_icmp .ge 37), 3, 43, 0, 0, 0), (9, (.iload_n 2), 1, 0, 0, 0, 0), (10, (.ifCond .eq 25), 3, 35, 0, 0, 0), (13, (.aload_n 0), 1, 0, 0, 0, 0), (14, (.getfield 24), 3, 9, 5, 2, 809), (17, (.iload_n 3), 1, 0, 0, 0, 0), (18, .iaload, 1, 0, 0, 0, 0), (19, (.iconst (-1)), 1, 0, 0, 0, 0), (20, (.if_icmp .eq 11), 3, 31, 0, 0, 0), (23, (.aload_n 0), 1, 0, 0, 0, 0), (24, (.iload_n 3), 1, 0, 0, 0, 0), (25, (.invokevirtual 110), 3, 142, 1, 1, 983), (28, (.ifCond .eq 7), 3, 35, 0, 0, 0), (31, (.iconst 1), 1, 0, 0, 0, 0), (32, (.goto 4), 3, 36, 0, 0, 0), (35, (.iconst 0), 1, 0, 0, 0, 0), (36, (.istore_n 2), 1, 0, 0, 0, 0), (37, (.iinc 3 1), 3, 0, 0, 0, 0), (40, (.goto (-36)), 3, 4, 0, 0, 0), (43, (.iload_n 2), 1, 0, 0, 0, 0), (44, .ireturn, 1, 0, 0, 0, 0)]
def c142 : List (Nat × En) := [(0, (.aload_n 0), 1, 0, 0, 0, 0), (1, (.getfield 20), 3, 9, 4, 2, 808), (4, (.bipush 32), 2, 0, 0, 0, 0), (6, (.aload_n 0), 1, 0, 0, 0, 0), (7, (.getfield 24), 3, 9, 5, 2, 809), (10, (.iload_n 1), 1, 0, 0, 0, 0), (11, .iaload, 1, 0, 0, 0, 0), (12, .imul, 1, 0, 0, 0, 0), (13, (.aload_n 0), 1, 0, 0, 0, 0), (14, (.getfield 39), 3, 9, 13, 2, 817), (17, (.iload_n 1), 1, 0, 0, 0, 0), (18, .iaload, 1, 0, 0, 0, 0), (19, .iadd, 1, 0, 0, 0, 0), (20, .baload, 1, 0, 0, 0, 0), (21, .ireturn, 1, 0, 0, 0, 0)]
def c143 : List (Nat × En) := [(0, (.aload_n 0), 1, 0, 0, 0, 0), (1, (.getfield 30), 3, 9, 8, 2, 812), (4, (.iload_n 1), 1, 0, 0, 0, 0), (5, .iaload, 1, 0, 0, 0, 0), (6, (.ifCond .le 29), 3, 35, 0, 0, 0), (9, (.aload_n 0), 1, 0, 0, 0, 0), (10, (.getfield 33), 3, 9, 9, 2, 813), (13, (.bipush 64), 2, 0, 0, 0, 0), (15, (.iload_n 1), 1, 0, 0, 0, 0), (16, .imul, 1, 0, 0, 0, 0), (17, (.aload_n 0), 1, 0, 0, 0, 0), (18, (.getfield 39), 3, 9, 13, 2, 817), (21, (.bipush 6), 2, 0, 0, 0, 0), (23, (.iload_n 1), 1, 0, 0, 0, 0), (24, .iadd, 1, 0, 0, 0, 0), (25, .iaload, 1, 0, 0, 0, 0), (26, .iadd, 1, 0, 0, 0, 0), (27, .baload, 1, 0, 0, 0, 0), (28, (.ifCond .eq 7), 3, 35, 0, 0, 0), (31, (.iconst 1), 1, 0, 0, 0, 0), (32, (.goto 4), 3, 36, 0, 0, 0), (35, (.iconst 0), 1, 0, 0, 0, 0), (36, .ireturn, 1, 0, 0, 0, 0)]
def c144 : List (Nat × En) := [(0, (.aload_n 0), 1, 0, 0, 0, 0), (1, (.getfield 27), 3, 9, 6, 2, 810), (4, (.iload_n 1), 1, 0, 0, 0, 0), (5, .iaload, 1, 0, 0, 0, 0), (6, (.istore_n 2), 1, 0, 0, 0, 0), (7, (.aload_n 0), 1, 0, 0, 0, 0), (8, (.getfield 73), 3, 9, 12, 0, 816), (11, (.ifCond .ne 11), 3, 22, 0, 0, 0), (14, (.aload_n 0), 1, 0, 0, 0, 0), (15, (.iload_n 2), 1, 0, 0, 0, 0), (16, (.invokevirtual 136), 3, 145, 1, 1, 995), (19, (.goto 24), 3, 43, 0, 0, 0), (22, (.aload_n 0), 1, 0, 0, 0, 0), (23, (.getfield 73), 3, 9, 12, 0, 816), (26, (.iconst 1), 1, 0, 0, 0, 0), (27, (.if_icmp .ne 11), 3, 38, 0, 0, 0), (30, (.aload_n 0), 1, 0, 0, 0, 0), (31, (.iload_n 2), 1, 0, 0, 0, 0), (32, (.invokevirtual 140), 3, 148, 1, 1, 1007), (35, (.goto 8), 3, 43, 0, 0, 0), (38, (.aload_n 0), 1, 0, 0, 0, 0), (39, (.iload_n 2), 1, 0, 0, 0, 0), (40, (.invokevirtual 143), 3, 149, 1, 1, 1011), (43, (.istore_n 2), 1, 0, 0, 0, 0), (44, (.aload_n 0), 1, 0, 0, 0, 0), (45, (.getfield 27), 3, 9, 6, 2, 810), (48, (.iload_n 2), 1, 0, 0, 0, 0), (49, .iaload, 1, 0, 0, 0, 0), (50, .ireturn, 1, 0, 0, 0, 0)]
def c145 : List (Nat × En) := [(0, (.iload_n 1), 1, 0, 0, 0, 0), (1, (.istore_n 2), 1, 0, 0, 0, 0), (2, (.iconst 0), 1, 0, 0, 0, 0), (3, (.istore_n 3), 1, 0, 0, 0, 0), (4, (.iload_n 3), 1, 0, 0, 0, 0), (5, (.bipush 6), 2, 0, 0, 0, 0), (7, (.if_icmp .ge 30), 3, 37, 0, 0, 0), (10, (.aload_n 0), 1, 0, 0, 0, 0), (11, (.getfield 24), 3, 9, 5, 2, 809), (14, (.iload_n 3), 1, 0, 0, 0, 0), (15, .iaload, 1, 0, 0, 0, 0), (16, (.iconst (-1)), 1, 0, 0, 0, 0), (17, (.if_icmp .ne 7), 3, 24, 0, 0, 0), (20, (.iload_n 2), 1, 0, 0, 0, 0), (21, (.goto 9), 3, 30, 0, 0, 0), (24, (.aload_n 0), 1, 0, 0, 0, 0), (25, (.iload_n 3), 1, 0, 0, 0, 0), (26, (.iload_n 2), 1, 0, 0, 0, 0), (27, (.invokevirtual 129), 3, 146, 2, 1, 999), (30, (.istore_n 2), 1, 0, 0, 0, 0), (31, (.iinc 3 1), 3, 0, 0, 0, 0), (34, (.goto (-30)), 3, 4, 0, 0, 0), (37, (.aload_n 0), 1, 0, 0, 0, 0), (38, (.getfield 66), 3, 9, 7, 1, 811), (41, (.ifCond .ne 5), 3, 46, 0, 0, 0), (44, (.iload_n 2), 1, 0, 0, 0, 0), (45, .ireturn, 1, 0, 0, 0, 0), (46, (.aload_n 0), 1, 0, 0, 0, 0), (47, (.getfield 27), 3, 9, 6, 2, 810), (50, (.bipush 32), 2, 0, 0, 0, 0), (52, (.iload_n 2), 1, 0, 0, 0, 0), (53, .iadd, 1, 0, 0, 0, 0), (54, .iaload, 1, 0, 0, 0, 0), (55, (.istore_n 2), 1, 0, 0, 0, 0), (56, (.iconst 5), 1, 0, 0, 0, 0), (57, (.istore_n 3), 1, 0, 0, 0, 0), (58, (.iload_n 3), 1, 0, 0, 0, 0), (59, (.ifCond .lt 30), 3, 89, 0, 0, 0), (62, (.aload_n 0), 1, 0, 0, 0, 0), (63, (.getfield 24), 3, 9, 5, 2, 809), (66, (.iload_n 3), 1, 0, 0, 0, 0), (67, .iaload, 1, 0, 0, 0, 0), (68, (.iconst (-1)), 1, 0, 0, 0, 0), (69, (.if_icmp .ne 7), 3, 76, 0, 0, 0), (72, (.iload_n 2), 1, 0, 0, 0, 0), (73, (.goto 9), 3, 82, 0, 0, 0), (76, (.aload_n 0), 1, 0, 0, 0, 0), (77, (.iload_n 3), 1, 0, 0, 0, 0), (78, (.iload_n 2), 1, 0, 0, 0, 0), (79, (.invokevirtual 133), 3, 147, 2, 1, 1003), (82, (.istore_n 2), 1, 0, 0, 0, 0), (83, (.iinc 3 (-1)), 3, 0, 0, 0, 0), (86, (.goto (-28)), 3, 58, 0, 0, 0), (89, (.iload_n 2), 1, 0, 0, 0, 0), (90, .ireturn, 1, 0, 0, 0, 0)]
def c146 : List (Nat × En) := [(0, (.aload_n 0), 1, 0, 0, 0, 0), (1, (.getfield 39), 3, 9, 13, 2, 817), (4, (.iload_n 1), 1, 0, 0, 0, 0), (5, .iaload, 1, 0, 0, 0, 0), (6, (.aload_n 0), 1, 0, 0, 0, 0), (7, (.getfield 17), 3, 9, 3, 2, 807), (10, (.aload_n 0), 1, 0, 0, 0, 0), (11, (.getfield 24), 3, 9, 5, 2, 809), (14, (.iload_n 1), 1, 0, 0, 0, 0), (15, .iaload, 1, 0, 0, 0, 0), (16, .iaload, 1, 0, 0, 0, 0), (17, .isub, 1, 0, 0, 0, 0), (18, (.aload_n 0), 1, 0, 0, 0, 0), (19, (.getfield 7), 3, 9, 1, 0, 805), (22, .iadd, 1, 0, 0, 0, 0), (23, (.istore_n 3), 1, 0, 0, 0, 0), (24, (.aload_n 0), 1, 0, 0, 0, 0), (25, (.getfield 13), 3, 9, 2, 2, 806), (28, (.bipush 32), 2, 0, 0, 0, 0), (30, (.aload_n 0), 1, 0, 0, 0, 0), (31, (.getfield 24), 3, 9, 5, 2, 809), (34, (.iload_n 1), 1, 0, 0, 0, 0), (35, .iaload, 1, 0, 0, 0, 0), (36, .imul, 1, 0, 0, 0, 0), (37, (.iload_n 2), 1, 0, 0, 0, 0), (38, (.iload_n 3), 1, 0, 0, 0, 0), (39, .iadd, 1, 0, 0, 0, 0), (40, (.aload_n 0), 1, 0, 0, 0, 0), (41, (.getfield 7), 3, 9, 1, 0, 805), (44, .irem, 1, 0, 0, 0, 0), (45, .iadd, 1, 0, 0, 0, 0), (46, .iaload, 1, 0, 0, 0, 0), (47, (.iload_n 3), 1, 0, 0, 0, 0), (48, .isub, 1, 0, 0, 0, 0), (49, (.iconst 2), 1, 0, 0, 0, 0), (50, (.aload_n 0), 1, 0, 0, 0, 0), (51, (.getfield 7), 3, 9, 1, 0, 805), (54, .imul, 1, 0, 0, 0, 0), (55, .iadd, 1, 0, 0, 0, 0), (56, (.aload_n 0), 1, 0, 0, 0, 0), (57, (.getfield 7), 3, 9, 1, 0, 805), (60, .irem, 1, 0, 0, 0, 0), (61, .ireturn, 1, 0, 0, 0, 0)]
def c147 : List (Nat × En) := [(0, (.iconst 0), 1, 0, 0, 0, 0), (1, (.istore_n 3), 1, 0, 0, 0, 0), (2, (.aload_n 0), 1, 0, 0, 0, 0), (3, (.iload_n 1), 1, 0, 0, 0, 0), (4, (.iload_n 3), 1, 0, 0, 0, 0), (5, (.invokevirtual 129), 3, 146, 2, 1, 999), (8, (.iload_n 2), 1, 0, 0, 0, 0), (9, (.if_icmp .eq 9), 3, 18, 0, 0, 0), (12, (.iinc 3 1), 3, 0, 0, 0, 0), (15, (.goto (-13)), 3, 2, 0, 0, 0), (18, (.iload_n 3), 1, 0, 0, 0, 0), (19, .ireturn, 1, 0, 0, 0, 0)]
def c148 : List (Nat × En) := [(0, (.iload_n 1), 1, 0, 0, 0, 0), (1, (.istore_n 2), 1, 0, 0, 0, 0), (2, (.iconst 0), 1, 0, 0, 0, 0), (3, (.istore_n 3), 1, 0, 0, 0, 0), (4, (.iload_n 3), 1, 0, 0, 0, 0), (5, (.iconst 5), 1, 0, 0, 0, 0), (6, (.if_icmp .ge 43), 3, 49, 0, 0, 0), (9, (.aload_n 0), 1, 0, 0, 0, 0), (10, (.getfield 7), 3, 9, 1, 0, 805), (13, (.bipush 32), 2, 0, 0, 0, 0), (15, (.if_icmp .ne 34), 3, 49, 0, 0, 0), (18, (.aload_n 0), 1, 0, 0, 0, 0), (19, (.iload_n 3), 1, 0, 0, 0, 0), (20, (.invokevirtual 120), 3, 143, 1, 1, 987), (23, (.aload_n 0), 1, 0, 0, 0, 0), (24, (.iload_n 3), 1, 0, 0, 0, 0), (25, (.iconst 5), 1, 0, 0, 0, 0), (26, .iadd, 1, 0, 0, 0, 0), (27, (.invokevirtual 120), 3, 143, 1, 1, 987), (30, (.if_icmp .eq 11), 3, 41, 0, 0, 0), (33, (.iload_n 2), 1, 0, 0, 0, 0), (34, (.iconst 1), 1, 0, 0, 0, 0), (35, (.iload_n 3), 1, 0, 0, 0, 0), (36, .ishl, 1, 0, 0, 0, 0), (37, .ixor, 1, 0, 0, 0, 0), (38, (.goto 4), 3, 42, 0, 0, 0), (41, (.iload_n 2), 1, 0, 0, 0, 0), (42, (.istore_n 2), 1, 0, 0, 0, 0), (43, (.iinc 3 1), 3, 0, 0, 0, 0), (46, (.goto (-42)), 3, 4, 0, 0, 0), (49, (.iload_n 2), 1, 0, 0, 0, 0), (50, .ireturn, 1, 0, 0, 0, 0)]
def c149_0 : List (Nat × En) := [(0, (.iconst 0), 1, 0, 0, 0, 0), (1, (.istore_n 2), 1, 0, 0, 0, 0), (2, (.iconst 0), 1, 0, 0, 0, 0), (3, (.istore_n 3), 1, 0, 0, 0, 0), (4, (.iload_n 3), 1, 0, 0, 0, 0), (5, (.bipush 27), 2, 0, 0, 0, 0), (7, (.if_icmp .ge 99), 3, 106, 0, 0, 0), (10, (.aload_n 0), 1, 0, 0, 0, 0), (11, (.getfield 36), 3, 9, 10, 2, 814), (14, (.iconst 2), 1, 0, 0, 0, 0), (15, (.iload_n 3), 1, 0, 0, 0, 0), (16, .imul, 1, 0, 0, 0, 0), (17, .iaload, 1, 0, 0, 0, 0), (18, (.iconst (-1)), 1, 0, 0, 0, 0), (19, (.if_icmp .eq 22), 3, 41, 0, 0, 0), (22, (.aload_n 0), 1, 0, 0, 0, 0), (23, (.aload_n 0), 1, 0, 0, 0, 0), (24, (.getfield 36), 3, 9, 10, 2, 814), (27, (.iconst 2), 1, 0, 0, 0, 0), (28, (.iload_n 3), 1, 0, 0, 0, 0), (29, .imul, 1, 0, 0, 0, 0), (30, .iaload, 1, 0, 0, 0, 0), (31, (.invokevirtual 120), 3, 143, 1, 1, 987), (34, (.ifCond .eq 7), 3, 41, 0, 0, 0), (37, (.iconst 1), 1, 0, 0, 0, 0), (38, (.goto 4), 3, 42, 0, 0, 0), (41, (.iconst 0), 1, 0, 0, 0, 0), (42, (.istore 4), 2, 0, 0, 0, 0), (44, (.aload_n 0), 1, 0, 0, 0, 0), (45, (.getfield 36), 3, 9, 10, 2, 814), (48, (.iconst 2), 1, 0, 0, 0, 0), (49, (.iload_n 3), 1, 0, 0, 0, 0), (50, .imul, 1, 0, 0, 0, 0), (51, (.iconst 1), 1, 0, 0, 0, 0), (52, .iadd, 1, 0, 0, 0, 0), (53, .iaload, 1, 0, 0, 0, 0), (54, (.iconst (-1)), 1, 0, 0, 0, 0), (55, (.if_icmp .eq 24), 3, 79, 0, 0, 0), (58, (.aload_n 0), 1, 0, 0, 0, 0), (59, (.aload_n 0), 1, 0, 0, 0, 0)]
def c149_1 : List (Nat × En) := [(60, (.getfield 36), 3, 9, 10, 2, 814), (63, (.iconst 2), 1, 0, 0, 0, 0), (64, (.iload_n 3), 1, 0, 0, 0, 0), (65, .imul, 1, 0, 0, 0, 0), (66, (.iconst 1), 1, 0, 0, 0, 0), (67, .iadd, 1, 0, 0, 0, 0), (68, .iaload, 1, 0, 0, 0, 0), (69, (.invokevirtual 120), 3, 143, 1, 1, 987), (72, (.ifCond .eq 7), 3, 79, 0, 0, 0), (75, (.iconst 1), 1, 0, 0, 0, 0), (76, (.goto 4), 3, 80, 0, 0, 0), (79, (.iconst 0), 1, 0, 0, 0, 0), (80, (.istore 5), 2, 0, 0, 0, 0), (82, (.iload 4), 2, 0, 0, 0, 0), (84, (.ifCond .ne 8), 3, 92, 0, 0, 0), (87, (.iload 5), 2, 0, 0, 0, 0), (89, (.ifCond .eq 9), 3, 98, 0, 0, 0), (92, (.iload_n 2), 1, 0, 0, 0, 0), (93, (.iconst 1), 1, 0, 0, 0, 0), (94, .iadd, 1, 0, 0, 0, 0), (95, (.goto 4), 3, 99, 0, 0, 0), (98, (.iload_n 2), 1, 0, 0, 0, 0), (99, (.istore_n 2), 1, 0, 0, 0, 0), (100, (.iinc 3 1), 3, 0, 0, 0, 0), (103, (.goto (-99)), 3, 4, 0, 0, 0), (106, (.iload_n 2), 1, 0, 0, 0, 0), (107, (.iload_n 1), 1, 0, 0, 0, 0), (108, .isub, 1, 0, 0, 0, 0), (109, (.iconst 2), 1, 0, 0, 0, 0), (110, (.aload_n 0), 1, 0, 0, 0, 0), (111, (.getfield 7), 3, 9, 1, 0, 805), (114, .imul, 1, 0, 0, 0, 0), (115, .iadd, 1, 0, 0, 0, 0), (116, (.aload_n 0), 1, 0, 0, 0, 0), (117, (.getfield 7), 3, 9, 1, 0, 805), (120, .irem, 1, 0, 0, 0, 0), (121, .ireturn, 1, 0, 0, 0, 0)]
def c149 : List (Nat × En) := c149_0 ++ (c149_1)
def c150 : List (Nat × En) := [(0, (.aload_n 0), 1, 0, 0, 0, 0), (1, (.aload_n 0), 1, 0, 0, 0, 0), (2, (.iload_n 1), 1, 0, 0, 0, 0), (3, (.invokevirtual 96), 3, 120, 1, 1, 896), (6, (.aload_n 0), 1, 0, 0, 0, 0), (7, (.getfield 82), 3, 9, 19, 1, 823), (10, (.ifCond .ne 7), 3, 17, 0, 0, 0), (13, (.iconst 1), 1, 0, 0, 0, 0), (14, (.goto 4), 3, 18, 0, 0, 0), (17, (.iconst 0), 1, 0, 0, 0, 0), (18, (.iconst 1), 1, 0, 0, 0, 0), (19, (.invokevirtual 88), 3, 117, 3, 1, 885), (22, (.ifCond .ne 5), 3, 27, 0, 0, 0), (25, (.iconst 0), 1, 0, 0, 0, 0), (26, .ireturn, 1, 0, 0, 0, 0), (27, (.aload_n 0), 1, 0, 0, 0, 0), (28, (.invokevirtual 146), 3, 137, 0, 1, 963), (31, (.iconst 0), 1, 0, 0, 0, 0), (32, (.istore_n 2), 1, 0, 0, 0, 0), (33, (.aload_n 0), 1, 0, 0, 0, 0), (34, (.iload_n 2), 1, 0, 0, 0, 0), (35, (.invokevirtual 149), 3, 144, 1, 1, 991), (38, (.iload_n 1), 1, 0, 0, 0, 0), (39, (.if_icmp .eq 9), 3, 48, 0, 0, 0), (42, (.iinc 2 1), 3, 0, 0, 0, 0), (45, (.goto (-12)), 3, 33, 0, 0, 0), (48, (.iload_n 2), 1, 0, 0, 0, 0), (49, .ireturn, 1, 0, 0, 0, 0)]
def c151 : List (Nat × En) := [(0, (.aload_n 0), 1, 0, 0, 0, 0), (1, (.aload_n 0), 1, 0, 0, 0, 0), (2, (.iload_n 1), 1, 0, 0, 0, 0), (3, (.invokevirtual 96), 3, 120, 1, 1, 896), (6, (.iconst 1), 1, 0, 0, 0, 0), (7, (.iconst 1), 1, 0, 0, 0, 0), (8, (.invokevirtual 88), 3, 117, 3, 1, 885), (11, (.ifCond .eq 11), 3, 22, 0, 0, 0), (14, (.aload_n 0), 1, 0, 0, 0, 0), (15, (.iload_n 1), 1, 0, 0, 0, 0), (16, (.invokevirtual 149), 3, 144, 1, 1, 991), (19, (.goto 4), 3, 23, 0, 0, 0), (22, (.iconst 0), 1, 0, 0, 0, 0), (23, .ireturn, 1, 0, 0, 0, 0)]
def c152 : List (Nat × En) := [(0, (.aload_n 0), 1, 0, 0, 0, 0), (1, (.aload_n 0), 1, 0, 0, 0, 0), (2, (.iload_n 1), 1, 0, 0, 0, 0), (3, (.iload_n 2), 1, 0, 0, 0, 0), (4, (.invokevirtual 107), 3, 135, 2, 1, 955), (7, (.iconst 1), 1, 0, 0, 0, 0), (8, (.iconst 1), 1, 0, 0, 0, 0), (9, (.invokevirtual 88), 3, 117, 3, 1, 885), (12, (.ifCond .eq 17), 3, 29, 0, 0, 0), (15, (.aload_n 0), 1, 0, 0, 0, 0), (16, (.getfield 39), 3, 9, 13, 2, 817), (19, (.bipush 6), 2, 0, 0, 0, 0), (21, (.iload_n 1), 1, 0, 0, 0, 0), (22, .imul, 1, 0, 0, 0, 0), (23, (.iload_n 2), 1, 0, 0, 0, 0), (24, .iadd, 1, 0, 0, 0, 0), (25, .iaload, 1, 0, 0, 0, 0), (26, (.goto 4), 3, 30, 0, 0, 0), (29, (.iconst 0), 1, 0, 0, 0, 0), (30, .ireturn, 1, 0, 0, 0, 0)]
def c153 : List (Nat × En) := [(0, (.aload_n 0), 1, 0, 0, 0, 0), (1, (.aload_n 0), 1, 0, 0, 0, 0), (2, (.getfield 82), 3, 9, 19, 1, 823), (5, (.ifCond .ne 14), 3, 19, 0, 0, 0), (8, (.aload_n 0), 1, 0, 0, 0, 0), (9, (.getfield 76), 3, 9, 16, 0, 820), (12, (.ifCond .le 7), 3, 19, 0, 0, 0), (15, (.iconst 1), 1, 0, 0, 0, 0), (16, (.goto 4), 3, 20, 0, 0, 0), (19, (.iconst 0), 1, 0, 0, 0, 0), (20, (.iconst 1), 1, 0, 0, 0, 0), (21, (.iconst 1), 1, 0, 0, 0, 0), (22, (.invokevirtual 88), 3, 117, 3, 1, 885), (25, (.ifCond .ne 5), 3, 30, 0, 0, 0), (28, (.iconst 0), 1, 0, 0, 0, 0), (29, .ireturn, 1, 0, 0, 0, 0), (30, (.aload_n 0), 1, 0, 0, 0, 0), (31, .dup, 1, 0, 0, 0, 0), (32, (.getfield 76), 3, 9, 16, 0, 820), (35, (.iconst 1), 1, 0, 0, 0, 0), (36, .isub, 1, 0, 0, 0, 0), (37, (.putfield 76), 3, 9, 16, 0, 820), (40, (.iconst 0), 1, 0, 0, 0, 0), (41, (.istore_n 1), 1, 0, 0, 0, 0), (42, (.iload_n 1), 1, 0, 0, 0, 0), (43, (.bipush 18), 2, 0, 0, 0, 0), (45, (.if_icmp .ge 29), 3, 74, 0, 0, 0), (48, (.aload_n 0), 1, 0, 0, 0, 0), (49, (.getfield 39), 3, 9, 13, 2, 817), (52, (.iload_n 1), 1, 0, 0, 0, 0), (53, (.aload_n 0), 1, 0, 0, 0, 0), (54, (.getfield 48), 3, 9, 17, 2, 821), (57, (.bipush 18), 2, 0, 0, 0, 0), (59, (.aload_n 0), 1, 0, 0, 0, 0), (60, (.getfield 76), 3, 9, 16, 0, 820), (63, .imul, 1, 0, 0, 0, 0), (64, (.iload_n 1), 1, 0, 0, 0, 0), (65, .iadd, 1, 0, 0, 0, 0), (66, .iaload, 1, 0, 0, 0, 0), (67, .iastore, 1, 0, 0, 0, 0), (68, (.iinc 1 1), 3, 0, 0, 0, 0), (71, (.goto (-29)), 3, 42, 0, 0, 0), (74, (.aload_n 0), 1, 0, 0, 0, 0), (75, (.getfield 76), 3, 9, 16, 0, 820), (78, .ireturn, 1, 0, 0, 0, 0)]
def c154 : List (Nat × En) := [(0, (.aload_n 0), 1, 0, 0, 0, 0), (1, (.iload_n 1), 1, 0, 0, 0, 0), (2, (.iconst 1), 1, 0, 0, 0, 0), (3, (.sipush 5000), 3, 0, 0, 0, 0), (6, (.invokestatic 92), 3, 119, 3, 0, 893), (9, (.aload_n 0), 1, 0, 0, 0, 0), (10, (.getfield 82), 3, 9, 19, 1, 823), (13, (.ifCond .ne 7), 3, 20, 0, 0, 0), (16, (.iconst 1), 1, 0, 0, 0, 0), (17, (.goto 4), 3, 21, 0, 0, 0), (20, (.iconst 0), 1, 0, 0, 0, 0), (21, (.iconst 1), 1, 0, 0, 0, 0), (22, (.invokevirtual 88), 3, 117, 3, 1, 885), (25, (.ifCond .ne 5), 3, 30, 0, 0, 0), (28, (.iconst 0), 1, 0, 0, 0, 0), (29, .ireturn, 1, 0, 0, 0, 0), (30, (.aload_n 0), 1, 0, 0, 0, 0), (31, (.invokevirtual 152), 3, 155, 0, 1, 1035), (34, (.iconst 0), 1, 0, 0, 0, 0), (35, (.istore_n 2), 1, 0, 0, 0, 0), (36, (.iconst 0), 1, 0, 0, 0, 0), (37, (.istore_n 3), 1, 0, 0, 0, 0), (38, (.iload_n 2), 1, 0, 0, 0, 0), (39, (.iload_n 1), 1, 0, 0, 0, 0), (40, (.if_icmp .ge 22), 3, 62, 0, 0, 0), (43, (.iload_n 3), 1, 0, 0, 0, 0), (44, (.ifCond .ne 18), 3, 62, 0, 0, 0), (47, (.aload_n 0), 1, 0, 0, 0, 0), (48, (.invokevirtual 126), 3, 138, 0, 1, 967), (51, (.iinc 2 1), 3, 0, 0, 0, 0), (54, (.aload_n 0), 1, 0, 0, 0, 0), (55, (.invokevirtual 155), 3, 156, 0, 1, 1039), (58, (.istore_n 3), 1, 0, 0, 0, 0), (59, (.goto (-21)), 3, 38, 0, 0, 0), (62, (.aload_n 0), 1, 0, 0, 0, 0), (63, (.invokevirtual 159), 3, 157, 0, 1, 1043), (66, (.iload_n 3), 1, 0, 0, 0, 0), (67, (.ifCond .eq 7), 3, 74, 0, 0, 0), (70, (.iload_n 2), 1, 0, 0, 0, 0), (71, (.goto 4), 3, 75, 0, 0, 0), (74, (.iconst 0), 1, 0, 0, 0, 0), (75, .ireturn, 1, 0, 0, 0, 0)]
def c155 : List (Nat × En) := [(0, (.iconst 0), 1, 0, 0, 0, 0), (1, (.istore_n 1), 1, 0, 0, 0, 0), (2, (.iload_n 1), 1, 0, 0, 0, 0), (3, (.bipush 18), 2, 0, 0, 0, 0), (5, (.if_icmp .ge 21), 3, 26, 0, 0, 0), (8, (.aload_n 0), 1, 0, 0, 0, 0), (9, (.getfield 42), 3, 9, 14, 2, 818), (12, (.iload_n 1), 1, 0, 0, 0, 0), (13, (.aload_n 0), 1, 0, 0, 0, 0), (14, (.getfield 39), 3, 9, 13, 2, 817), (17, (.iload_n 1), 1, 0, 0, 0, 0), (18, .iaload, 1, 0, 0, 0, 0), (19, .iastore, 1, 0, 0, 0, 0), (20, (.iinc 1 1), 3, 0, 0, 0, 0), (23, (.goto (-21)), 3, 2, 0, 0, 0), (26, .return_, 1, 0, 0, 0, 0)]
def c156 : List (Nat × En) := [(0, (.iconst 1), 1, 0, 0, 0, 0), (1, (.istore_n 1), 1, 0, 0, 0, 0), (2, (.iconst 0), 1, 0, 0, 0, 0), (3, (.istore_n 2), 1, 0, 0, 0, 0), (4, (.iload_n 2), 1, 0, 0, 0, 0), (5, (.bipush 18), 2, 0, 0, 0, 0), (7, (.if_icmp .ge 34), 3, 41, 0, 0, 0), (10, (.iload_n 1), 1, 0, 0, 0, 0), (11, (.ifCond .eq 22), 3, 33, 0, 0, 0), (14, (.aload_n 0), 1, 0, 0, 0, 0), (15, (.getfield 42), 3, 9, 14, 2, 818), (18, (.iload_n 2), 1, 0, 0, 0, 0), (19, .iaload, 1, 0, 0, 0, 0), (20, (.aload_n 0), 1, 0, 0, 0, 0), (21, (.getfield 39), 3, 9, 13, 2, 817), (24, (.iload_n 2), 1, 0, 0, 0, 0), (25, .iaload, 1, 0, 0, 0, 0), (26, (.if_icmp .ne 7), 3, 33, 0, 0, 0), (29, (.iconst 1), 1, 0, 0, 0, 0), (30, (.goto 4), 3, 34, 0, 0, 0), (33, (.iconst 0), 1, 0, 0, 0, 0), (34, (.istore_n 1), 1, 0, 0, 0, 0), (35, (.iinc 2 1), 3, 0, 0, 0, 0), (38, (.goto (-34)), 3, 4, 0, 0, 0), (41, (.iload_n 1), 1, 0, 0, 0, 0), (42, .ireturn, 1, 0, 0, 0, 0)]
def c157 : List (Nat × En) := [(0, (.iconst 0), 1, 0, 0, 0, 0), (1, (.istore_n 1), 1, 0, 0, 0, 0), (2, (.iload_n 1), 1, 0, 0, 0, 0), (3, (.bipush 18), 2, 0, 0, 0, 0), (5, (.if_icmp .ge 21), 3, 26, 0, 0, 0), (8, (.aload_n 0), 1, 0, 0, 0, 0), (9, (.getfield 39), 3, 9, 13, 2, 817), (12, (.iload_n 1), 1, 0, 0, 0, 0), (13, (.aload_n 0), 1, 0, 0, 0, 0), (14, (.getfield 42), 3, 9, 14, 2, 818), (17, (.iload_n 1), 1, 0, 0, 0, 0), (18, .iaload, 1, 0, 0, 0, 0), (19, .iastore, 1, 0, 0, 0, 0), (20, (.iinc 1 1), 3, 0, 0, 0, 0), (23, (.goto (-21)), 3, 2, 0, 0, 0), (26, .return_, 1, 0, 0, 0, 0)]
def c158 : List (Nat × En) := [(0, (.aload_n 0), 1, 0, 0, 0, 0), (1, (.iconst 0), 1, 0, 0, 0, 0), (2, (.putfield 85), 3, 9, 0, 0, 804), (5, (.iconst 0), 1, 0, 0, 0, 0), (6, (.istore_n 1), 1, 0, 0, 0, 0), (7, (.iconst 0), 1, 0, 0, 0, 0), (8, (.istore_n 2), 1, 0, 0, 0, 0), (9, (.iload_n 2), 1, 0, 0, 0, 0), (10, (.aload_n 0), 1, 0, 0, 0, 0), (11, (.getfield 7), 3, 9, 1, 0, 805), (14, (.if_icmp .ge 26), 3, 40, 0, 0, 0), (17, (.aload_n 0), 1, 0, 0, 0, 0), (18, (.iload_n 2), 1, 0, 0, 0, 0), (19, (.invokevirtual 149), 3, 144, 1, 1, 991), (22, (.iload_n 2), 1, 0, 0, 0, 0), (23, (.if_icmp .ne 9), 3, 32, 0, 0, 0), (26, (.iload_n 1), 1, 0, 0, 0, 0), (27, (.iconst 1), 1, 0, 0, 0, 0), (28, .iadd, 1, 0, 0, 0, 0), (29, (.goto 4), 3, 33, 0, 0, 0), (32, (.iload_n 1), 1, 0, 0, 0, 0), (33, (.istore_n 1), 1, 0, 0, 0, 0), (34, (.iinc 2 1), 3, 0, 0, 0, 0), (37, (.goto (-28)), 3, 9, 0, 0, 0), (40, (.iload_n 1), 1, 0, 0, 0, 0), (41, .ireturn, 1, 0, 0, 0, 0)]
def c159 : List (Nat × En) := [(0, (.aload_n 0), 1, 0, 0, 0, 0), (1, (.aload_n 0), 1, 0, 0, 0, 0), (2, (.getfield 82), 3, 9, 19, 1, 823), (5, (.ifCond .ne 16), 3, 21, 0, 0, 0), (8, (.aload_n 0), 1, 0, 0, 0, 0), (9, (.getfield 79), 3, 9, 18, 0, 822), (12, (.bipush 20), 2, 0, 0, 0, 0), (14, (.if_icmp .ge 7), 3, 21, 0, 0, 0), (17, (.iconst 1), 1, 0, 0, 0, 0), (18, (.goto 4), 3, 22, 0, 0, 0), (21, (.iconst 0), 1, 0, 0, 0, 0), (22, (.iconst 1), 1, 0, 0, 0, 0), (23, (.iconst 1), 1, 0, 0, 0, 0), (24, (.invokevirtual 88), 3, 117, 3, 1, 885), (27, (.ifCond .ne 5), 3, 32, 0, 0, 0), (30, (.iconst 0), 1, 0, 0, 0, 0), (31, .ireturn, 1, 0, 0, 0, 0), (32, (.iconst 0), 1, 0, 0, 0, 0), (33, (.istore_n 1), 1, 0, 0, 0, 0), (34, (.iload_n 1), 1, 0, 0, 0, 0), (35, (.bipush 18), 2, 0, 0, 0, 0), (37, (.if_icmp .ge 29), 3, 66, 0, 0, 0), (40, (.aload_n 0), 1, 0, 0, 0, 0), (41, (.getfield 54), 3, 9, 21, 2, 825), (44, (.bipush 18), 2, 0, 0, 0, 0), (46, (.aload_n 0), 1, 0, 0, 0, 0), (47, (.getfield 79), 3, 9, 18, 0, 822), (50, .imul, 1, 0, 0, 0, 0), (51, (.iload_n 1), 1, 0, 0, 0, 0), (52, .iadd, 1, 0, 0, 0, 0), (53, (.aload_n 0), 1, 0, 0, 0, 0), (54, (.getfield 39), 3, 9, 13, 2, 817), (57, (.iload_n 1), 1, 0, 0, 0, 0), (58, .iaload, 1, 0, 0, 0, 0), (59, .iastore, 1, 0, 0, 0, 0), (60, (.iinc 1 1), 3, 0, 0, 0, 0), (63, (.goto (-29)), 3, 34, 0, 0, 0), (66, (.aload_n 0), 1, 0, 0, 0, 0), (67, (.getfield 51), 3, 9, 20, 2, 824), (70, (.aload_n 0), 1, 0, 0, 0, 0), (71, (.getfield 79), 3, 9, 18, 0, 822), (74, (.iconst 0), 1, 0, 0, 0, 0), (75, .iastore, 1, 0, 0, 0, 0), (76, (.aload_n 0), 1, 0, 0, 0, 0), (77, .dup, 1, 0, 0, 0, 0), (78, (.getfield 79), 3, 9, 18, 0, 822), (81, (.iconst 1), 1, 0, 0, 0, 0), (82, .iadd, 1, 0, 0, 0, 0), (83, (.putfield 79), 3, 9, 18, 0, 822), (86, (.aload_n 0), 1, 0, 0, 0, 0), (87, (.iconst 1), 1, 0, 0, 0, 0), (88, (.putfield 82), 3, 9, 19, 1, 823), (91, (.aload_n 0), 1, 0, 0, 0, 0), (92, (.getfield 79), 3, 9, 18, 0, 822), (95, (.iconst 1), 1, 0, 0, 0, 0), (96, .isub, 1, 0, 0, 0, 0), (97, .ireturn, 1, 0, 0, 0, 0)]
def c160 : List (Nat × En) := [(0, (.aload_n 0), 1, 0, 0, 0, 0), (1, (.aload_n 0), 1, 0, 0, 0, 0), (2, (.getfield 82), 3, 9, 19, 1, 823), (5, (.iconst 1), 1, 0, 0, 0, 0), (6, (.iconst 1), 1, 0, 0, 0, 0), (7, (.invokevirtual 88), 3, 117, 3, 1, 885), (10, (.ifCond .ne 5), 3, 15, 0, 0, 0), (13, (.iconst 0), 1, 0, 0, 0, 0), (14, .ireturn, 1, 0, 0, 0, 0), (15, (.aload_n 0), 1, 0, 0, 0, 0), (16, (.iconst 0), 1, 0, 0, 0, 0), (17, (.putfield 82), 3, 9, 19, 1, 823), (20, (.aload_n 0), 1, 0, 0, 0, 0), (21, (.getfield 51), 3, 9, 20, 2, 824), (24, (.aload_n 0), 1, 0, 0, 0, 0), (25, (.getfield 79), 3, 9, 18, 0, 822), (28, (.iconst 1), 1, 0, 0, 0, 0), (29, .isub, 1, 0, 0, 0, 0), (30, .iaload, 1, 0, 0, 0, 0), (31, .ireturn, 1, 0, 0, 0, 0)]
def c161 : List (Nat × En) := [(0, (.aload_n 0), 1, 0, 0, 0, 0), (1, (.aload_n 0), 1, 0, 0, 0, 0), (2, (.iload_n 1), 1, 0, 0, 0, 0), (3, (.invokevirtual 162), 3, 162, 1, 1, 1063), (6, (.ifCond .eq 21), 3, 27, 0, 0, 0), (9, (.iload_n 2), 1, 0, 0, 0, 0), (10, (.ifCond .lt 17), 3, 27, 0, 0, 0), (13, (.iload_n 2), 1, 0, 0, 0, 0), (14, (.aload_n 0), 1, 0, 0, 0, 0), (15, (.getfield 51), 3, 9, 20, 2, 824), (18, (.iload_n 1), 1, 0, 0, 0, 0), (19, .iaload, 1, 0, 0, 0, 0), (20, (.if_icmp .ge 7), 3, 27, 0, 0, 0), (23, (.iconst 1), 1, 0, 0, 0, 0), (24, (.goto 4), 3, 28, 0, 0, 0), (27, (.iconst 0), 1, 0, 0, 0, 0), (28, (.iload_n 3), 1, 0, 0, 0, 0), (29, (.iconst 0), 1, 0, 0, 0, 0), (30, (.iconst 1), 1, 0, 0, 0, 0), (31, (.invokestatic 92), 3, 119, 3, 0, 893), (34, (.iconst 1), 1, 0, 0, 0, 0), (35, (.invokevirtual 88), 3, 117, 3, 1, 885), (38, (.ifCond .ne 5), 3, 43, 0, 0, 0), (41, (.iconst 0), 1, 0, 0, 0, 0), (42, .ireturn, 1, 0, 0, 0, 0), (43, (.iload_n 3), 1, 0, 0, 0, 0), (44, (.ifCond .ne 17), 3, 61, 0, 0, 0), (47, (.aload_n 0), 1, 0, 0, 0, 0), (48, (.getfield 57), 3, 9, 22, 2, 826), (51, (.bipush 60), 2, 0, 0, 0, 0), (53, (.iload_n 1), 1, 0, 0, 0, 0), (54, .imul, 1, 0, 0, 0, 0), (55, (.iload_n 2), 1, 0, 0, 0, 0), (56, .iadd, 1, 0, 0, 0, 0), (57, .iaload, 1, 0, 0, 0, 0), (58, (.goto 14), 3, 72, 0, 0, 0), (61, (.aload_n 0), 1, 0, 0, 0, 0), (62, (.getfield 60), 3, 9, 23, 2, 827), (65, (.bipush 60), 2, 0, 0, 0, 0), (67, (.iload_n 1), 1, 0, 0, 0, 0), (68, .imul, 1, 0, 0, 0, 0), (69, (.iload_n 2), 1, 0, 0, 0, 0), (70, .iadd, 1, 0, 0, 0, 0), (71, .iaload, 1, 0, 0, 0, 0), (72, .ireturn, 1, 0, 0, 0, 0)]
def c162 : List (Nat × En) := [(0, (.iload_n 1), 1, 0, 0, 0, 0), (1, (.ifCond .lt 15), 3, 16, 0, 0, 0), (4, (.iload_n 1), 1, 0, 0, 0, 0), (5, (.aload_n 0), 1, 0, 0, 0, 0), (6, (.getfield 79), 3, 9, 18, 0, 822), (9, (.if_icmp .ge 7), 3, 16, 0, 0, 0), (12, (.iconst 1), 1, 0, 0, 0, 0), (13, (.goto 4), 3, 17, 0, 0, 0), (16, (.iconst 0), 1, 0, 0, 0, 0), (17, .ireturn, 1, 0, 0, 0, 0)]
def c163_0 : List (Nat × En) := [(0, (.aload_n 0), 1, 0, 0, 0, 0), (1, (.aload_n 0), 1, 0, 0, 0, 0), (2, (.iload_n 1), 1, 0, 0, 0, 0), (3, (.invokevirtual 162), 3, 162, 1, 1, 1063), (6, (.aload_n 0), 1, 0, 0, 0, 0), (7, (.getfield 82), 3, 9, 19, 1, 823), (10, (.ifCond .eq 13), 3, 23, 0, 0, 0), (13, (.iload_n 1), 1, 0, 0, 0, 0), (14, (.aload_n 0), 1, 0, 0, 0, 0), (15, (.getfield 79), 3, 9, 18, 0, 822), (18, (.iconst 1), 1, 0, 0, 0, 0), (19, .isub, 1, 0, 0, 0, 0), (20, (.if_icmp .eq 7), 3, 27, 0, 0, 0), (23, (.iconst 1), 1, 0, 0, 0, 0), (24, (.goto 4), 3, 28, 0, 0, 0), (27, (.iconst 0), 1, 0, 0, 0, 0), (28, (.iconst 1), 1, 0, 0, 0, 0), (29, (.invokevirtual 88), 3, 117, 3, 1, 885), (32, (.ifCond .ne 5), 3, 37, 0, 0, 0), (35, (.iconst 0), 1, 0, 0, 0, 0), (36, .ireturn, 1, 0, 0, 0, 0), (37, (.aload_n 0), 1, 0, 0, 0, 0), (38, (.invokevirtual 152), 3, 155, 0, 1, 1035), (41, (.iconst 0), 1, 0, 0, 0, 0), (42, (.istore_n 2), 1, 0, 0, 0, 0), (43, (.iload_n 2), 1, 0, 0, 0, 0), (44, (.bipush 18), 2, 0, 0, 0, 0), (46, (.if_icmp .ge 59), 3, 105, 0, 0, 0), (49, (.iload_n 2), 1, 0, 0, 0, 0), (50, (.bipush 6), 2, 0, 0, 0, 0), (52, (.if_icmp .ge 10), 3, 62, 0, 0, 0), (55, (.aload_n 0), 1, 0, 0, 0, 0), (56, (.getfield 7), 3, 9, 1, 0, 805), (59, (.goto 12), 3, 71, 0, 0, 0), (62, (.aload_n 0), 1, 0, 0, 0, 0), (63, (.getfield 30), 3, 9, 8, 2, 812), (66, (.iload_n 2), 1, 0, 0, 0, 0), (67, (.bipush 6), 2, 0, 0, 0, 0), (69, .isub, 1, 0, 0, 0, 0), (70, .iaload, 1, 0, 0, 0, 0)]
def c163_1 : List (Nat × En) := [(71, (.istore_n 3), 1, 0, 0, 0, 0), (72, (.aload_n 0), 1, 0, 0, 0, 0), (73, (.getfield 39), 3, 9, 13, 2, 817), (76, (.iload_n 2), 1, 0, 0, 0, 0), (77, (.iload_n 3), 1, 0, 0, 0, 0), (78, (.ifCond .ne 7), 3, 85, 0, 0, 0), (81, (.iconst 0), 1, 0, 0, 0, 0), (82, (.goto 16), 3, 98, 0, 0, 0), (85, (.aload_n 0), 1, 0, 0, 0, 0), (86, (.getfield 54), 3, 9, 21, 2, 825), (89, (.bipush 18), 2, 0, 0, 0, 0), (91, (.iload_n 1), 1, 0, 0, 0, 0), (92, .imul, 1, 0, 0, 0, 0), (93, (.iload_n 2), 1, 0, 0, 0, 0), (94, .iadd, 1, 0, 0, 0, 0), (95, .iaload, 1, 0, 0, 0, 0), (96, (.iload_n 3), 1, 0, 0, 0, 0), (97, .irem, 1, 0, 0, 0, 0), (98, .iastore, 1, 0, 0, 0, 0), (99, (.iinc 2 1), 3, 0, 0, 0, 0), (102, (.goto (-59)), 3, 43, 0, 0, 0), (105, (.iconst (-1)), 1, 0, 0, 0, 0), (106, (.istore_n 2), 1, 0, 0, 0, 0), (107, (.iconst 0), 1, 0, 0, 0, 0), (108, (.istore_n 3), 1, 0, 0, 0, 0), (109, (.iload_n 3), 1, 0, 0, 0, 0), (110, (.aload_n 0), 1, 0, 0, 0, 0), (111, (.getfield 51), 3, 9, 20, 2, 824), (114, (.iload_n 1), 1, 0, 0, 0, 0), (115, .iaload, 1, 0, 0, 0, 0), (116, (.if_icmp .ge 53), 3, 169, 0, 0, 0), (119, (.iload_n 2), 1, 0, 0, 0, 0), (120, (.iconst (-1)), 1, 0, 0, 0, 0), (121, (.if_icmp .ne 48), 3, 169, 0, 0, 0), (124, (.aload_n 0), 1, 0, 0, 0, 0), (125, (.invokevirtual 126), 3, 138, 0, 1, 967), (128, (.aload_n 0), 1, 0, 0, 0, 0), (129, (.aload_n 0), 1, 0, 0, 0, 0), (130, (.getfield 57), 3, 9, 22, 2, 826), (133, (.bipush 60), 2, 0, 0, 0, 0)]
def c163_2 : List (Nat × En) := [(135, (.iload_n 1), 1, 0, 0, 0, 0), (136, .imul, 1, 0, 0, 0, 0), (137, (.iload_n 3), 1, 0, 0, 0, 0), (138, .iadd, 1, 0, 0, 0, 0), (139, .iaload, 1, 0, 0, 0, 0), (140, (.invokevirtual 149), 3, 144, 1, 1, 991), (143, (.aload_n 0), 1, 0, 0, 0, 0), (144, (.getfield 60), 3, 9, 23, 2, 827), (147, (.bipush 60), 2, 0, 0, 0, 0), (149, (.iload_n 1), 1, 0, 0, 0, 0), (150, .imul, 1, 0, 0, 0, 0), (151, (.iload_n 3), 1, 0, 0, 0, 0), (152, .iadd, 1, 0, 0, 0, 0), (153, .iaload, 1, 0, 0, 0, 0), (154, (.if_icmp .eq 7), 3, 161, 0, 0, 0), (157, (.iload_n 3), 1, 0, 0, 0, 0), (158, (.goto 4), 3, 162, 0, 0, 0), (161, (.iconst (-1)), 1, 0, 0, 0, 0), (162, (.istore_n 2), 1, 0, 0, 0, 0), (163, (.iinc 3 1), 3, 0, 0, 0, 0), (166, (.goto (-57)), 3, 109, 0, 0, 0), (169, (.aload_n 0), 1, 0, 0, 0, 0), (170, (.invokevirtual 159), 3, 157, 0, 1, 1043), (173, (.iload_n 2), 1, 0, 0, 0, 0), (174, .ireturn, 1, 0, 0, 0, 0)]
def c163 : List (Nat × En) := c163_0 ++ (c163_1 ++ (c163_2))
def c164_0 : List (Nat × En) := [(0, (.aload_n 0), 1, 0, 0, 0, 0), (1, (.iload_n 1), 1, 0, 0, 0, 0), (2, (.iconst 0), 1, 0, 0, 0, 0), (3, (.bipush 7), 2, 0, 0, 0, 0), (5, (.invokestatic 92), 3, 119, 3, 0, 893), (8, (.iconst 1), 1, 0, 0, 0, 0), (9, (.iconst 1), 1, 0, 0, 0, 0), (10, (.invokevirtual 88), 3, 117, 3, 1, 885), (13, (.ifCond .ne 5), 3, 18, 0, 0, 0), (16, (.iconst 0), 1, 0, 0, 0, 0), (17, .ireturn, 1, 0, 0, 0, 0), (18, (.iconst 0), 1, 0, 0, 0, 0), (19, (.istore_n 2), 1, 0, 0, 0, 0), (20, (.iconst 0), 1, 0, 0, 0, 0), (21, (.istore_n 3), 1, 0, 0, 0, 0), (22, (.iload_n 3), 1, 0, 0, 0, 0), (23, (.bipush 6), 2, 0, 0, 0, 0), (25, (.if_icmp .ge 27), 3, 52, 0, 0, 0), (28, (.aload_n 0), 1, 0, 0, 0, 0), (29, (.getfield 24), 3, 9, 5, 2, 809), (32, (.iload_n 3), 1, 0, 0, 0, 0), (33, .iaload, 1, 0, 0, 0, 0), (34, (.iconst (-1)), 1, 0, 0, 0, 0), (35, (.if_icmp .eq 9), 3, 44, 0, 0, 0), (38, (.iload_n 2), 1, 0, 0, 0, 0), (39, (.iconst 1), 1, 0, 0, 0, 0), (40, .iadd, 1, 0, 0, 0, 0), (41, (.goto 4), 3, 45, 0, 0, 0), (44, (.iload_n 2), 1, 0, 0, 0, 0), (45, (.istore_n 2), 1, 0, 0, 0, 0), (46, (.iinc 3 1), 3, 0, 0, 0, 0), (49, (.goto (-27)), 3, 22, 0, 0, 0), (52, (.iconst 0), 1, 0, 0, 0, 0), (53, (.istore_n 3), 1, 0, 0, 0, 0), (54, (.iconst 0), 1, 0, 0, 0, 0), (55, (.istore 4), 2, 0, 0, 0, 0), (57, (.iload 4), 2, 0, 0, 0, 0), (59, (.bipush 12), 2, 0, 0, 0, 0), (61, (.if_icmp .ge 27), 3, 88, 0, 0, 0), (64, (.aload_n 0), 1, 0, 0, 0, 0)]
def c164_1 : List (Nat × En) := [(65, (.getfield 30), 3, 9, 8, 2, 812), (68, (.iload 4), 2, 0, 0, 0, 0), (70, .iaload, 1, 0, 0, 0, 0), (71, (.ifCond .le 9), 3, 80, 0, 0, 0), (74, (.iload_n 3), 1, 0, 0, 0, 0), (75, (.iconst 1), 1, 0, 0, 0, 0), (76, .iadd, 1, 0, 0, 0, 0), (77, (.goto 4), 3, 81, 0, 0, 0), (80, (.iload_n 3), 1, 0, 0, 0, 0), (81, (.istore_n 3), 1, 0, 0, 0, 0), (82, (.iinc 4 1), 3, 0, 0, 0, 0), (85, (.goto (-28)), 3, 57, 0, 0, 0), (88, (.iload_n 1), 1, 0, 0, 0, 0), (89, (.tableswitch 82 0 6 #[43, 48, 50, 56, 62, 64, 69]), 43, 0, 0, 0, 0), (132, (.aload_n 0), 1, 0, 0, 0, 0), (133, (.getfield 7), 3, 9, 1, 0, 805), (136, .ireturn, 1, 0, 0, 0, 0), (137, (.iload_n 2), 1, 0, 0, 0, 0), (138, .ireturn, 1, 0, 0, 0, 0), (139, (.aload_n 0), 1, 0, 0, 0, 0), (140, (.iconst 0), 1, 0, 0, 0, 0), (141, (.invokevirtual 165), 3, 165, 1, 1, 1075), (144, .ireturn, 1, 0, 0, 0, 0), (145, (.aload_n 0), 1, 0, 0, 0, 0), (146, (.iconst 1), 1, 0, 0, 0, 0), (147, (.invokevirtual 165), 3, 165, 1, 1, 1075), (150, .ireturn, 1, 0, 0, 0, 0), (151, (.iload_n 3), 1, 0, 0, 0, 0), (152, .ireturn, 1, 0, 0, 0, 0), (153, (.aload_n 0), 1, 0, 0, 0, 0), (154, (.getfield 79), 3, 9, 18, 0, 822), (157, .ireturn, 1, 0, 0, 0, 0), (158, (.aload_n 0), 1, 0, 0, 0, 0), (159, (.getfield 82), 3, 9, 19, 1, 823), (162, (.ifCond .eq 7), 3, 169, 0, 0, 0), (165, (.iconst 1), 1, 0, 0, 0, 0), (166, (.goto 4), 3, 170, 0, 0, 0), (169, (.iconst 0), 1, 0, 0, 0, 0), (170, .ireturn, 1, 0, 0, 0, 0), (171, (.aload_n 0), 1, 0, 0, 0, 0)]
def c164_2 : List (Nat × En) := [(172, (.getfield 76), 3, 9, 16, 0, 820), (175, .ireturn, 1, 0, 0, 0, 0)]
def c164 : List (Nat × En) := c164_0 ++ (c164_1 ++ (c164_2))
def c165 : List (Nat × En) := [(0, (.iconst 0), 1, 0, 0, 0, 0), (1, (.istore_n 2), 1, 0, 0, 0, 0), (2, (.iconst 0), 1, 0, 0, 0, 0), (3, (.istore_n 3), 1, 0, 0, 0, 0), (4, (.iload_n 3), 1, 0, 0, 0, 0), (5, (.aload_n 0), 1, 0, 0, 0, 0), (6, (.getfield 7), 3, 9, 1, 0, 805), (9, (.if_icmp .ge 26), 3, 35, 0, 0, 0), (12, (.aload_n 0), 1, 0, 0, 0, 0), (13, (.iload_n 1), 1, 0, 0, 0, 0), (14, (.iload_n 3), 1, 0, 0, 0, 0), (15, (.invokevirtual 100), 3, 125, 2, 1, 916), (18, (.ifCond .eq 9), 3, 27, 0, 0, 0), (21, (.iload_n 2), 1, 0, 0, 0, 0), (22, (.iconst 1), 1, 0, 0, 0, 0), (23, .iadd, 1, 0, 0, 0, 0), (24, (.goto 4), 3, 28, 0, 0, 0), (27, (.iload_n 2), 1, 0, 0, 0, 0), (28, (.istore_n 2), 1, 0, 0, 0, 0), (29, (.iinc 3 1), 3, 0, 0, 0, 0), (32, (.goto (-28)), 3, 4, 0, 0, 0), (35, (.iload_n 2), 1, 0, 0, 0, 0), (36, (.iconst 2), 1, 0, 0, 0, 0), (37, .idiv, 1, 0, 0, 0, 0), (38, .ireturn, 1, 0, 0, 0, 0)]
def cds : List (List (Nat × En)) := [c0, c1, c2, c3, c4, c5, c6, c7, c8, c9, c10, c11, c12, c13, c14, c15, c16, c17, c18, c19, c20, c21, c22, c23, c24, c25, c26, c27, c28, c29, c30, c31, c32, c33, c34, c35, c36, c37, c38, c39, c40, c41, c42, c43, c44, c45, c46, c47, c48, c49, c50, c51, c52, c53, c54, c55, c56, c57, c58, c59, c60, c61, c62, c63, c64, c65, c66, c67, c68, c69, c70, c71, c72, c73, c74, c75, c76, c77, c78, c79, c80, c81, c82, c83, c84, c85, c86, c87, c88, c89, c90, c91, c92, c93, c94, c95, c96, c97, c98, c99, c100, c101, c102, c103, c104, c105, c106, c107, c108, c109, c110, c111, c112, c113, c114, c115, c116, c117, c118, c119, c120, c121, c122, c123, c124, c125, c126, c127, c128, c129, c130, c131, c132, c133, c134, c135, c136, c137, c138, c139, c140, c141, c142, c143, c144, c145, c146, c147, c148, c149, c150, c151, c152, c153, c154, c155, c156, c157, c158, c159, c160, c161, c162, c163, c164, c165]
def cd (mi pc : Nat) : Option En := match cds[mi]? with
  | some l => (l.find? (fun q => q.1 == pc)).map (fun q => q.2)
  | none => none
end
section
/-! the small machine: a heap is shapes (code, length), ints, longs, references; cell 0 is the script; cell k + 1 lies at base + k. Codes 0..9: an object; 10..12: an exception; 100 int[], 101 boolean[], 102 long[], 103.. arrays of references. -/
abbrev Hp : Type := List (Nat × Nat) × (Nat → Nat → Int32) × (Nat → Nat → Int64) × (Nat → Nat → Option Nat)
abbrev Lc : Type := List (Nat × Value)
/-- method, pc, locals, stack, heap, slots made -/
abbrev Cf : Type := Nat × Nat × Lc × List Value × Hp × Nat
/-- an end: what is returned, or (cell, number) of what is thrown; the heap, slots made -/
abbrev Out : Type := (Option Value ⊕ Nat × Nat) × Hp × Nat
/-- a place within a method: pc, locals, stack, heap, slots made -/
abbrev Cg : Type := Nat × Lc × List Value × Hp × Nat
/-- a step: on to a place; a call (callee, arguments, the place with them off the stack, pc at the call); an end -/
abbrev Rs : Type := Cg ⊕ (Nat × List Value × Cg) ⊕ Out
def u2 {α : Type} (g : Nat → Nat → α) (k j : Nat) (v : α) : Nat → Nat → α := fun a b => if a = k then (if b = j then v else g a b) else g a b
def rw0 {α : Type} (g : Nat → Nat → α) (k : Nat) (v : α) : Nat → Nat → α := fun a b => if a = k then v else g a b
def cpy2 (g : Nat → Nat → Int32) (k k' sp dp n : Nat) : Nat → Nat → Int32 := fun a b => if a = k' then va_cpy (g k) (g k') sp dp n b else g a b
def lget (ls : Lc) (i : Nat) : Option Value := (ls.find? (fun q => q.1 == i)).map (fun q => q.2)
def lput (ls : Lc) (i : Nat) (v : Value) : Lc := (i, v) :: ls.filter (fun q => !(q.1 == i) && !(q.1 + 1 == i && q.2.category == 2))
def wsum (st : List Value) : Nat := (st.map fun v => v.category).sum
def isB (v : Int32) : Bool := v == 0 || v == 1
def mxC : Nat := 601024
def mxS : Nat := 7293034
section
variable (mi pc : Nat) (ls : Lc) (sh : List (Nat × Nat)) (gi : Nat → Nat → Int32) (gl : Nat → Nat → Int64) (gr : Nat → Nat → Option Nat) (sl : Nat)
def go (_ : Nat) (ls : Lc) (sh : List (Nat × Nat)) (gi : Nat → Nat → Int32) (gl : Nat → Nat → Int64) (gr : Nat → Nat → Option Nat) (sl : Nat) (pc' : Nat) (st : List Value) : Option Cg := some (pc', ls, st, (sh, gi, gl, gr), sl)
/-- an int at place j of cell q, of an array of code x -/
def ldI (x q : Nat) (i : Int32) (k : Nat → Option Cg) : Option Cg := match sh[q]? with
  | some (y, n) => if y = x then (if i < 0 ∨ n ≤ i.toNatClampNeg then none else k i.toNatClampNeg) else none
  | none => none
end
def br (c : ClassFile.Cond) (x y : Int32) (A B : Option Cg) : Option Cg := match c with
  | .eq => if x = y then A else B
  | .ne => if x = y then B else A
  | .lt => if x < y then A else B
  | .ge => if y ≤ x then A else B
  | .gt => if y < x then A else B
  | .le => if x ≤ y then A else B
section
variable (len a b c : Nat) (mi pc : Nat) (ls : Lc) (st : List Value) (sh : List (Nat × Nat)) (gi : Nat → Nat → Int32) (gl : Nat → Nat → Int64) (gr : Nat → Nat → Option Nat) (sl : Nat)
def s_push (v : Value) : Option Cg := go mi ls sh gi gl gr sl (pc + len) (v :: st)
def s_iload (k : Nat) : Option Cg := match lget ls k with
  | some (.int x) => go mi ls sh gi gl gr sl (pc + len) (.int x :: st)
  | _ => none
def s_aload (k : Nat) : Option Cg := match lget ls k with
  | some (.ref x) => go mi ls sh gi gl gr sl (pc + len) (.ref x :: st)
  | _ => none
def s_istore (k : Nat) : Option Cg := match st with
  | .int x :: r => if k < mL mi then go mi (lput ls k (.int x)) sh gi gl gr sl (pc + len) r else none
  | _ => none
def s_astore (k : Nat) : Option Cg := match st with
  | .ref x :: r => if k < mL mi then go mi (lput ls k (.ref x)) sh gi gl gr sl (pc + len) r else none
  | _ => none
def s_iinc (k : Nat) (n : Int) : Option Cg := match lget ls k with
  | some (.int x) => if k < mL mi then go mi (lput ls k (.int (x + Int32.ofInt n))) sh gi gl gr sl (pc + len) st else none
  | _ => none
def s_bin (f : Int32 → Int32 → Int32) : Option Cg := match st with
  | .int y :: .int x :: r => go mi ls sh gi gl gr sl (pc + len) (.int (f x y) :: r)
  | _ => none
def s_div (f : Int32 → Int32 → Int32) : Option Cg := match st with
  | .int y :: .int x :: r => if y = 0 then none else go mi ls sh gi gl gr sl (pc + len) (.int (f x y) :: r)
  | _ => none
def s_i2l : Option Cg := match st with
  | .int x :: r => go mi ls sh gi gl gr sl (pc + len) (.long x.toInt64 :: r)
  | _ => none
def s_lcmp : Option Cg := match st with
  | .long y :: .long x :: r => go mi ls sh gi gl gr sl (pc + len) (.int (lg_cmp x y) :: r)
  | _ => none
def s_dup : Option Cg := match st with
  | v :: r => if v.category = 1 then go mi ls sh gi gl gr sl (pc + len) (v :: v :: r) else none
  | _ => none
def s_dup2 : Option Cg := match st with
  | w :: v :: r => if w.category = 1 ∧ v.category = 1 then go mi ls sh gi gl gr sl (pc + len) (w :: v :: w :: v :: r) else none
  | _ => none
def s_pop : Option Cg := match st with
  | v :: r => if v.category = 1 then go mi ls sh gi gl gr sl (pc + len) r else none
  | _ => none
def s_if (cc : ClassFile.Cond) : Option Cg := match st with
  | .int x :: r => br cc x 0 (go mi ls sh gi gl gr sl a r) (go mi ls sh gi gl gr sl (pc + 3) r)
  | _ => none
def s_icmp (cc : ClassFile.Cond) : Option Cg := match st with
  | .int y :: .int x :: r => br cc x y (go mi ls sh gi gl gr sl a r) (go mi ls sh gi gl gr sl (pc + 3) r)
  | _ => none
def s_tab (d lo hi : Int) (offs : Array Int) : Option Cg := match st with
  | .int x :: r => if x.toInt < lo ∨ hi < x.toInt then go mi ls sh gi gl gr sl ((pc : Int) + d).toNat r else match offs[(x.toInt - lo).toNat]? with
    | some o => go mi ls sh gi gl gr sl ((pc : Int) + o).toNat r
    | none => none
  | _ => none
def s_look (d : Int) (ps : Array (Int × Int)) : Option Cg := match st with
  | .int x :: r => go mi ls sh gi gl gr sl ((pc : Int) + Op.lookupswitch.offset ps.toList d x.toInt).toNat r
  | _ => none
def s_get : Option Cg := match st with
  | .ref q :: r => match sh[q]? with
    | some (x, _) => if x = a then go mi ls sh gi gl gr sl (pc + 3) ((if c = 2 then va_rf (gr q b) else .int (gi q b)) :: r) else none
    | none => none
  | _ => none
def s_put : Option Cg := match st with
  | .int w :: .ref q :: r => match sh[q]? with
    | some (x, _) => if x = a ∧ (c = 0 ∨ (c = 1 ∧ isB w = true)) then go mi ls sh (u2 gi q b w) gl gr sl (pc + 3) r else none
    | none => none
  | .ref w :: .ref q :: r => match sh[q]? with
    | some (x, _) => if x = a ∧ c = 2 then go mi ls sh gi gl (u2 gr q b (some w)) sl (pc + 3) r else none
    | none => none
  | _ => none
def s_iald (x : Nat) : Option Cg := match st with
  | .int i :: .ref q :: r => ldI sh x q i (fun j => go mi ls sh gi gl gr sl (pc + 1) (.int (gi q j) :: r))
  | _ => none
def s_lald : Option Cg := match st with
  | .int i :: .ref q :: r => ldI sh 102 q i (fun j => go mi ls sh gi gl gr sl (pc + 1) (.long (gl q j) :: r))
  | _ => none
def s_aald : Option Cg := match st with
  | .int i :: .ref q :: r => match sh[q]? with
    | some (y, _) => if 103 ≤ y ∧ y < 106 then ldI sh y q i (fun j => go mi ls sh gi gl gr sl (pc + 1) (va_rf (gr q j) :: r)) else none
    | none => none
  | _ => none
def s_iast (x : Nat) : Option Cg := match st with
  | .int v :: .int i :: .ref q :: r => if q = 0 ∨ (x = 101 ∧ isB v = false) then none else ldI sh x q i (fun j => go mi ls sh (u2 gi q j v) gl gr sl (pc + 1) r)
  | _ => none
def s_last : Option Cg := match st with
  | .long v :: .int i :: .ref q :: r => if q = 0 then none else ldI sh 102 q i (fun j => go mi ls sh gi (u2 gl q j v) gr sl (pc + 1) r)
  | _ => none
def s_aast : Option Cg := match st with
  | .ref v :: .int i :: .ref q :: r => match sh[q]?, sh[v]? with
    | some (y, _), some (z, _) => if 103 ≤ y ∧ y < 106 ∧ z = elc y then ldI sh y q i (fun j => go mi ls sh gi gl (u2 gr q j (some v)) sl (pc + 1) r) else none
    | _, _ => none
  | _ => none
def s_len : Option Cg := match st with
  | .ref q :: r => match sh[q]? with
    | some (y, n) => if 100 ≤ y ∧ y < 106 then go mi ls sh gi gl gr sl (pc + 1) (.int (Int32.ofNat n) :: r) else none
    | none => none
  | _ => none
def s_newa : Option Cg := match st with
  | .int n :: r => if n < 0 ∨ mxC < sh.length ∨ mxS < sl + n.toNatClampNeg ∨ 2000 < n.toNatClampNeg then none else
      go mi ls (sh ++ [(100 + a, n.toNatClampNeg)]) (rw0 gi sh.length 0) (rw0 gl sh.length 0) (rw0 gr sh.length none) (sl + n.toNatClampNeg) (pc + len) (.ref sh.length :: r)
  | _ => none
def s_new : Option Cg := if mxC < sh.length ∨ mxS < sl + b then none else
    go mi ls (sh ++ [(a, b)]) (rw0 gi sh.length 0) (rw0 gl sh.length 0) (rw0 gr sh.length none) (sl + b) (pc + 3) (.ref sh.length :: st)
def s_thr : Option Out := if mxC < sh.length ∨ mxS < sl + 6 ∨ 8 < wsum st then none else some (.inr (sh.length, a - 900), (sh ++ [(a - 890, 0)], gi, gl, gr), sl + 6)
def s_min : Option Cg := match st with
  | .int y :: .int x :: r => if 8 < wsum r then none else go mi ls sh gi gl gr sl (pc + 3) (.int (if y < x then y else x) :: r)
  | _ => none
def s_copy : Option Cg := match st with
  | .int n :: .int dp :: .ref q' :: .int sp :: .ref q :: r => match sh[q]?, sh[q']? with
    | some (y, m), some (y', m') => if y = 100 ∧ y' = 100 ∧ q ≠ 0 ∧ q' ≠ 0 ∧ ¬ n < 0 ∧ ¬ dp < 0 ∧ ¬ sp < 0 ∧ sp.toNatClampNeg + n.toNatClampNeg ≤ m ∧ dp.toNatClampNeg + n.toNatClampNeg ≤ m' ∧ wsum r ≤ 8 then
        go mi ls sh (cpy2 gi q q' sp.toNatClampNeg dp.toNatClampNeg n.toNatClampNeg) gl gr sl (pc + 3) r else none
    | _, _ => none
  | _ => none
def s_obj : Option Cg := match st with
  | .ref _ :: r => if 8 < wsum r then none else go mi ls sh gi gl gr sl (pc + 3) r
  | _ => none
def s_call (kind : Nat) : Option (Nat × List Value × Cg) := if 9000 ≤ a then none
  else if kind = 0 then (if b ≤ st.length ∧ wsum (st.drop b) ≤ 8 ∧ wsum (st.take b) ≤ mL a then some (a, (st.take b).reverse, (pc, ls, st.drop b, (sh, gi, gl, gr), sl)) else none)
  else match (st.drop b).head? with
    | some (.ref q) => match sh[q]? with
      | some (x, _) => if x = mK a ∧ b ≤ st.length ∧ wsum (st.drop (b + 1)) ≤ 8 ∧ wsum (st.take b) + 1 ≤ mL a then some (a, .ref q :: (st.take b).reverse, (pc, ls, st.drop (b + 1), (sh, gi, gl, gr), sl)) else none
      | none => none
    | _ => none
def s_iret : Option Out := match st with
  | [.int v] => if mZ mi = 1 ∨ (mZ mi = 2 ∧ isB v = true) then some (.inl (some (.int v)), (sh, gi, gl, gr), sl) else none
  | _ => none
def s_aret : Option Out := match st with
  | [.ref q] => if mZ mi = 3 then some (.inl (some (.ref q)), (sh, gi, gl, gr), sl) else none
  | _ => none
def s_vret : Option Out := match st with
  | [] => if mZ mi = 0 then some (.inl none, (sh, gi, gl, gr), sl) else none
  | _ => none
end
def stI (i : Instr) (len a b c : Nat) (mi pc : Nat) (ls : Lc) (st : List Value) (sh : List (Nat × Nat)) (gi : Nat → Nat → Int32) (gl : Nat → Nat → Int64) (gr : Nat → Nat → Option Nat) (sl : Nat) : Option Cg := match i with
  | .iconst n => s_push len mi pc ls st sh gi gl gr sl (.int (Int32.ofInt n))
  | .bipush n => s_push len mi pc ls st sh gi gl gr sl (.int (Int8.ofInt n).toInt32)
  | .sipush n => s_push len mi pc ls st sh gi gl gr sl (.int (Int16.ofInt n).toInt32)
  | .lconst n => s_push len mi pc ls st sh gi gl gr sl (.long (Int64.ofNat (n : Nat)))
  | .iload k => s_iload len mi pc ls st sh gi gl gr sl k
  | .iload_n k => s_iload len mi pc ls st sh gi gl gr sl k.val
  | .aload k => s_aload len mi pc ls st sh gi gl gr sl k
  | .aload_n k => s_aload len mi pc ls st sh gi gl gr sl k.val
  | .istore k => s_istore len mi pc ls st sh gi gl gr sl k
  | .istore_n k => s_istore len mi pc ls st sh gi gl gr sl k.val
  | .astore k => s_astore len mi pc ls st sh gi gl gr sl k
  | .astore_n k => s_astore len mi pc ls st sh gi gl gr sl k.val
  | .iinc k n => s_iinc len mi pc ls st sh gi gl gr sl k n
  | .iadd => s_bin len mi pc ls st sh gi gl gr sl (fun x y => x + y)
  | .isub => s_bin len mi pc ls st sh gi gl gr sl (fun x y => x - y)
  | .imul => s_bin len mi pc ls st sh gi gl gr sl (fun x y => x * y)
  | .iand => s_bin len mi pc ls st sh gi gl gr sl (fun x y => x &&& y)
  | .ior => s_bin len mi pc ls st sh gi gl gr sl (fun x y => x ||| y)
  | .ixor => s_bin len mi pc ls st sh gi gl gr sl (fun x y => x ^^^ y)
  | .ishl => s_bin len mi pc ls st sh gi gl gr sl (fun x y => x <<< (y &&& 31))
  | .ishr => s_bin len mi pc ls st sh gi gl gr sl (fun x y => x >>> (y &&& 31))
  | .idiv => s_div len mi pc ls st sh gi gl gr sl (fun x y => x / y)
  | .irem => s_div len mi pc ls st sh gi gl gr sl (fun x y => x - x / y * y)
  | .i2l => s_i2l len mi pc ls st sh gi gl gr sl
  | .lcmp => s_lcmp len mi pc ls st sh gi gl gr sl
  | .dup => s_dup len mi pc ls st sh gi gl gr sl
  | .dup2 => s_dup2 len mi pc ls st sh gi gl gr sl
  | .pop => s_pop len mi pc ls st sh gi gl gr sl
  | .goto _ => go mi ls sh gi gl gr sl a st
  | .ifCond cc _ => s_if a mi pc ls st sh gi gl gr sl cc
  | .if_icmp cc _ => s_icmp a mi pc ls st sh gi gl gr sl cc
  | .tableswitch d lo hi offs => s_tab mi pc ls st sh gi gl gr sl d lo hi offs
  | .lookupswitch d ps => s_look mi pc ls st sh gi gl gr sl d ps
  | .getfield _ => s_get a b c mi pc ls st sh gi gl gr sl
  | .putfield _ => s_put a b c mi pc ls st sh gi gl gr sl
  | .iaload => s_iald mi pc ls st sh gi gl gr sl 100
  | .baload => s_iald mi pc ls st sh gi gl gr sl 101
  | .laload => s_lald mi pc ls st sh gi gl gr sl
  | .aaload => s_aald mi pc ls st sh gi gl gr sl
  | .iastore => s_iast mi pc ls st sh gi gl gr sl 100
  | .bastore => s_iast mi pc ls st sh gi gl gr sl 101
  | .lastore => s_last mi pc ls st sh gi gl gr sl
  | .aastore => s_aast mi pc ls st sh gi gl gr sl
  | .arraylength => s_len mi pc ls st sh gi gl gr sl
  | .newarray _ => s_newa len a mi pc ls st sh gi gl gr sl
  | .anewarray _ => s_newa len a mi pc ls st sh gi gl gr sl
  | .new _ => if 900 ≤ a then none else s_new a b mi pc ls st sh gi gl gr sl
  | .invokestatic _ => if a = 9002 then s_min mi pc ls st sh gi gl gr sl else if a = 9003 then s_copy mi pc ls st sh gi gl gr sl else none
  | .invokespecial _ => if a = 9001 then s_obj mi pc ls st sh gi gl gr sl else none
  | _ => none
def enI (i : Instr) (a : Nat) (mi : Nat) (st : List Value) (sh : List (Nat × Nat)) (gi : Nat → Nat → Int32) (gl : Nat → Nat → Int64) (gr : Nat → Nat → Option Nat) (sl : Nat) : Option Out := match i with
  | .ireturn => s_iret mi st sh gi gl gr sl
  | .areturn => s_aret mi st sh gi gl gr sl
  | .return_ => s_vret mi st sh gi gl gr sl
  | .new _ => if 900 ≤ a then s_thr a st sh gi gl gr sl else none
  | _ => none
def caI (i : Instr) (a b : Nat) (pc : Nat) (ls : Lc) (st : List Value) (sh : List (Nat × Nat)) (gi : Nat → Nat → Int32) (gl : Nat → Nat → Int64) (gr : Nat → Nat → Option Nat) (sl : Nat) : Option (Nat × List Value × Cg) := match i with
  | .invokestatic _ => s_call a b pc ls st sh gi gl gr sl 0
  | .invokevirtual _ => s_call a b pc ls st sh gi gl gr sl 1
  | .invokespecial _ => s_call a b pc ls st sh gi gl gr sl 2
  | _ => none
def sx (x : Cf) : Option Rs := match x with
  | (mi, pc, ls, st, (sh, gi, gl, gr), sl) => match cd mi pc with
    | some (i, len, a, b, c, _) => match stI i len a b c mi pc ls st sh gi gl gr sl with
      | some y => some (.inl y)
      | none => match enI i a mi st sh gi gl gr sl with
        | some o => some (.inr (.inr o))
        | none => (caI i a b pc ls st sh gi gl gr sl).map (fun q => .inr (.inl q))
    | none => none
def cvr (pc : Nat) (q : Nat × Nat × Nat × Nat) : Bool := decide (q.1 ≤ pc) && decide (pc < q.2.1)
/-- none: stuck; some none: it goes on to the caller; some (some pc'): a handler -/
def hnd (mi pc E : Nat) : Option (Option Nat) := if (hT mi).any (cvr pc) then ((hT mi).find? (fun q => cvr pc q && q.2.2.2 == E)).map (fun q => some q.2.2.1) else some none
def exe : Nat → Cf → Option Out
  | 0, _ => none
  | n + 1, x => match sx x with
    | none => none
    | some (.inl y) => exe n (x.1, y)
    | some (.inr (.inr o)) => some o
    | some (.inr (.inl (mj, as, y))) => match exe n (mj, 0, lv_args 0 as, [], y.2.2.2) with
      | none => none
      | some (.inl v, hs) => exe n (x.1, y.1 + 3, y.2.1, v.toList ++ y.2.2.1, hs)
      | some (.inr (k, E), hs) => match hnd x.1 y.1 E with
        | none => none
        | some none => some (.inr (k, E), hs)
        | some (some pc') => exe n (x.1, pc', y.2.1, [.ref k], hs)
def Ev (x : Cf) (r : Out) : Prop := ∃ n, exe n x = some r
theorem exe_mono : ∀ (n : Nat) (x : Cf) (r : Out), exe n x = some r → exe (n + 1) x = some r := by
  intro n
  induction n with
  | zero => intro x r h; simp [exe] at h
  | succ n ih =>
    intro x r h
    rw [exe] at h ⊢
    cases hs : sx x with
    | none => simp [hs] at h
    | some z =>
      rcases z with y | ⟨mj, as, y⟩ | o
      · simp only [hs] at h ⊢
        exact ih _ _ h
      · simp only [hs] at h ⊢
        cases he : exe n (mj, 0, lv_args 0 as, [], y.2.2.2) with
        | none => simp [he] at h
        | some q =>
          rw [ih _ _ he]
          simp only [he] at h
          rcases q with ⟨v | ⟨k, E⟩, hs'⟩
          · simp only at h ⊢
            exact ih _ _ h
          · simp only at h ⊢
            cases hh : hnd x.1 y.1 E with
            | none => simp [hh] at h
            | some z =>
              cases z with
              | none => simp only [hh] at h ⊢; exact h
              | some pc' => simp only [hh] at h ⊢; exact ih _ _ h
      · simp only [hs] at h ⊢
        exact h
theorem exe_le {n m : Nat} {x : Cf} {r : Out} (h : exe n x = some r) (hm : n ≤ m) : exe m x = some r := by
  induction hm with
  | refl => exact h
  | step _ ih => exact exe_mono _ _ _ ih
theorem Ev.det {x : Cf} {r r' : Out} (h : Ev x r) (h' : Ev x r') : r = r' := by
  obtain ⟨n, h⟩ := h
  obtain ⟨m, h'⟩ := h'
  have h1 := exe_le h (Nat.le_max_left n m)
  have h2 := exe_le h' (Nat.le_max_right n m)
  rw [h1] at h2
  exact Option.some.inj h2
theorem Ev.step {x : Cf} {y : Cg} {r : Out} (h : sx x = some (.inl y)) : Ev x r ↔ Ev (x.1, y) r := by
  constructor
  · rintro ⟨n, hn⟩
    cases n with
    | zero => simp [exe] at hn
    | succ n => rw [exe, h] at hn; exact ⟨n, hn⟩
  · rintro ⟨n, hn⟩
    exact ⟨n + 1, by rw [exe, h]; exact hn⟩
theorem Ev.fin {x : Cf} {r o : Out} (h : sx x = some (.inr (.inr o))) : Ev x r ↔ r = o := by
  constructor
  · rintro ⟨n, hn⟩
    cases n with
    | zero => simp [exe] at hn
    | succ n => rw [exe, h] at hn; exact (Option.some.inj hn).symm
  · rintro rfl
    exact ⟨1, by rw [exe, h]⟩
theorem Ev.call {x : Cf} {y : Cg} {r : Out} {mj : Nat} {as : List Value} {v : Option Value} {hs : Hp × Nat} (h : sx x = some (.inr (.inl (mj, as, y)))) (hc : Ev (mj, 0, lv_args 0 as, [], y.2.2.2) (.inl v, hs)) : Ev x r ↔ Ev (x.1, y.1 + 3, y.2.1, v.toList ++ y.2.2.1, hs) r := by
  obtain ⟨k, hk⟩ := hc
  constructor
  · rintro ⟨n, hn⟩
    have hn' := exe_le hn (Nat.le_max_left n (k + 1))
    have hkM : k + 1 ≤ max n (k + 1) := Nat.le_max_right _ _
    generalize max n (k + 1) = M at hn' hkM
    cases M with
    | zero => omega
    | succ M => rw [exe, h] at hn'; simp only at hn'; rw [exe_le hk (by omega)] at hn'; exact ⟨M, hn'⟩
  · rintro ⟨n, hn⟩
    refine ⟨max n k + 1, ?_⟩
    rw [exe, h]
    simp only
    rw [exe_le hk (Nat.le_max_right _ _)]
    exact exe_le hn (Nat.le_max_left _ _)
theorem Ev.throw {x : Cf} {y : Cg} {mj : Nat} {as : List Value} {k E : Nat} {hs : Hp × Nat} (h : sx x = some (.inr (.inl (mj, as, y)))) (hc : Ev (mj, 0, lv_args 0 as, [], y.2.2.2) (.inr (k, E), hs)) (hh : hnd x.1 y.1 E = some none) : Ev x (.inr (k, E), hs) := by
  obtain ⟨n, hn⟩ := hc
  exact ⟨n + 1, by rw [exe, h]; simp only; rw [hn]; simp only [hh]⟩
theorem Ev.caught {x : Cf} {y : Cg} {r : Out} {mj : Nat} {as : List Value} {k E pc' : Nat} {hs : Hp × Nat} (h : sx x = some (.inr (.inl (mj, as, y)))) (hc : Ev (mj, 0, lv_args 0 as, [], y.2.2.2) (.inr (k, E), hs)) (hh : hnd x.1 y.1 E = some (some pc')) (hr : Ev (x.1, pc', y.2.1, [.ref k], hs) r) : Ev x r := by
  obtain ⟨n, hn⟩ := hc
  obtain ⟨n', hn'⟩ := hr
  refine ⟨max n n' + 1, ?_⟩
  rw [exe, h]
  simp only
  rw [exe_le hn (Nat.le_max_left _ _)]
  simp only [hh]
  exact exe_le hn' (Nat.le_max_right _ _)
end
section
/-! from the small heap to the machine's: addresses, values, the world as a list; what holds at an activation's start -/
def ad (b base : Nat) : Nat → Nat
  | 0 => b
  | k + 1 => base + k
def cv (b base : Nat) (v : Value) : Value := match v with
  | .ref k => .ref (ad b base k)
  | v => v
theorem cv_cat (b base : Nat) (v : Value) : (cv b base v).category = v.category := by cases v <;> rfl
theorem cv_sum (b base : Nat) (st : List Value) : ((st.map (cv b base)).map fun v => v.category).sum = wsum st := by
  simp only [wsum, List.map_map]
  congr 1
  apply List.map_congr_left
  intro v _
  exact cv_cat b base v
theorem cv_rf (b base : Nat) (o : Option Nat) : cv b base (va_rf o) = va_rf (o.map (ad b base)) := by cases o <;> rfl
def kKd (x : Nat) : List Nat := kKl.getD x []
def fldv (b base : Nat) (x : Nat) (gi : Nat → Nat → Int32) (gr : Nat → Nat → Option Nat) (k : Nat) : List Value :=
  (List.range (kKd x).length).map (fun j => if (kKd x).getD j 0 = 2 then va_rf ((gr k j).map (ad b base)) else .int (gi k j))
def cel (aC : Nat → ClassId) (b base : Nat) (gi : Nat → Nat → Int32) (gl : Nat → Nat → Int64) (gr : Nat → Nat → Option Nat) (k : Nat) (z : Nat × Nat) : va_E :=
  if z.1 < 100 then .inr (z.1, fldv b base z.1 gi gr k)
  else .inl (aC (z.1 - 100), z.2, if z.1 = 102 then .inr (.inl (gl k)) else if 103 ≤ z.1 then .inr (.inr (.inr (.inr (fun j => (gr k j).map (ad b base))))) else .inl (gi k))
theorem cel_congr {aC : Nat → ClassId} {b base : Nat} {gi gi' : Nat → Nat → Int32} {gl gl' : Nat → Nat → Int64} {gr gr' : Nat → Nat → Option Nat} {k : Nat} (h1 : gi' k = gi k) (h2 : gl' k = gl k) (h3 : gr' k = gr k) (z : Nat × Nat) : cel aC b base gi' gl' gr' k z = cel aC b base gi gl gr k z := by
  simp only [cel, fldv, h1, h2, h3]
def wld (aC : Nat → ClassId) (b base : Nat) (sh : List (Nat × Nat)) (gi : Nat → Nat → Int32) (gl : Nat → Nat → Int64) (gr : Nat → Nat → Option Nat) : va_W :=
  (List.range (sh.length - 1)).map (fun i => (base + i, cel aC b base gi gl gr (i + 1) (sh.getD (i + 1) (0, 0))))
section
variable {aC : Nat → ClassId} {b base : Nat} {sh : List (Nat × Nat)} {gi gi' : Nat → Nat → Int32} {gl gl' : Nat → Nat → Int64} {gr gr' : Nat → Nat → Option Nat}
theorem wld_len : (wld aC b base sh gi gl gr).length = sh.length - 1 := by simp [wld]
theorem wld_get {q : Nat} (h : q < sh.length - 1) : (wld aC b base sh gi gl gr)[q]? = some (base + q, cel aC b base gi gl gr (q + 1) (sh.getD (q + 1) (0, 0))) := by
  simp [wld, List.getElem?_map, List.getElem?_range h]
theorem wld_at {q : Nat} {z : Nat × Nat} (h : sh[q + 1]? = some z) : (wld aC b base sh gi gl gr)[q]? = some (base + q, cel aC b base gi gl gr (q + 1) z) := by
  have hl := (List.getElem?_eq_some_iff.mp h).1
  rw [wld_get (by omega)]
  simp [List.getD_eq_getElem?_getD, h]
theorem wld_inv {q : Nat} {y : Nat × va_E} (h : (wld aC b base sh gi gl gr)[q]? = some y) : q < sh.length - 1 ∧ y = (base + q, cel aC b base gi gl gr (q + 1) (sh.getD (q + 1) (0, 0))) := by
  have hl := (List.getElem?_eq_some_iff.mp h).1
  rw [wld_len] at hl
  rw [wld_get hl] at h
  exact ⟨hl, (Option.some.inj h).symm⟩
theorem wld_set {q : Nat} {z : Nat × Nat} (hz : sh[q + 1]? = some z) (h1 : ∀ k, k ≠ q + 1 → gi' k = gi k) (h2 : ∀ k, k ≠ q + 1 → gl' k = gl k) (h3 : ∀ k, k ≠ q + 1 → gr' k = gr k) : (wld aC b base sh gi gl gr).set q (base + q, cel aC b base gi' gl' gr' (q + 1) z) = wld aC b base sh gi' gl' gr' := by
  have hl := (List.getElem?_eq_some_iff.mp hz).1
  apply List.ext_getElem?
  intro i
  by_cases hi : i < sh.length - 1
  · by_cases hq : i = q
    · subst hq
      rw [List.getElem?_set_self (by rw [wld_len]; exact hi), wld_at hz]
    · rw [List.getElem?_set_ne (Ne.symm hq), wld_get hi, wld_get hi, cel_congr (h1 _ (by omega)) (h2 _ (by omega)) (h3 _ (by omega))]
  · rw [List.getElem?_eq_none (by rw [List.length_set, wld_len]; omega), List.getElem?_eq_none (by rw [wld_len]; omega)]
theorem wld_app {z : Nat × Nat} (h0 : 0 < sh.length) (h1 : ∀ k, k ≠ sh.length → gi' k = gi k) (h2 : ∀ k, k ≠ sh.length → gl' k = gl k) (h3 : ∀ k, k ≠ sh.length → gr' k = gr k) : wld aC b base (sh ++ [z]) gi' gl' gr' = wld aC b base sh gi gl gr ++ [(base + (sh.length - 1), cel aC b base gi' gl' gr' sh.length z)] := by
  apply List.ext_getElem?
  intro i
  by_cases hi : i < sh.length - 1
  · rw [List.getElem?_append_left (by rw [wld_len]; exact hi), wld_get hi, wld_get (by simp; omega), cel_congr (h1 _ (by omega)) (h2 _ (by omega)) (h3 _ (by omega))]
    simp only [List.getD_eq_getElem?_getD]
    rw [List.getElem?_append_left (by omega)]
  · by_cases hq : i = sh.length - 1
    · subst hq
      have e1 : sh.length - 1 + 1 = sh.length := by omega
      rw [List.getElem?_append_right (by rw [wld_len]; exact Nat.le_refl _), wld_len, Nat.sub_self, wld_get (by simp; omega), e1]
      simp
    · rw [List.getElem?_eq_none (by rw [wld_len]; simp; omega), List.getElem?_eq_none (by simp [wld_len]; omega)]
theorem wld_D : va_D (fun q => base ≤ q) (wld aC b base sh gi gl gr) := by
  refine ⟨fun i j x y hi hj hxy => ?_, fun k q hk => ?_⟩
  · rw [(wld_inv hi).2, (wld_inv hj).2] at hxy
    have : base + i = base + j := hxy
    omega
  · rw [(wld_inv hk).2]
    exact Nat.le_add_right _ _
end
theorem u2_ne {α : Type} (g : Nat → Nat → α) {q : Nat} (j : Nat) (v : α) : ∀ k, k ≠ q → u2 g q j v k = g k := by
  intro k h
  funext b
  simp [u2, h]
theorem rw0_ne {α : Type} (g : Nat → Nat → α) {q : Nat} (v : α) : ∀ k, k ≠ q → rw0 g q v k = g k := by
  intro k h
  funext b
  simp [rw0, h]
theorem rw0_eq {α : Type} (g : Nat → Nat → α) (q : Nat) (v : α) : rw0 g q v q = fun _ => v := by
  funext b
  simp [rw0]
theorem cpy2_ne (g : Nat → Nat → Int32) (k : Nat) {q : Nat} (sp dp n : Nat) : ∀ a, a ≠ q → cpy2 g k q sp dp n a = g a := by
  intro a h
  funext b
  simp [cpy2, h]
/-- D, array numbers, script's address, base, script's length, script -/
abbrev Wd : Type := va_G × (Nat → ClassId) × Nat × Nat × Nat × (Nat → Int32)
abbrev Wd.D (w : Wd) : va_G := w.1
abbrev Wd.aC (w : Wd) : Nat → ClassId := w.2.1
abbrev Wd.b (w : Wd) : Nat := w.2.2.1
abbrev Wd.base (w : Wd) : Nat := w.2.2.2.1
abbrev Wd.L (w : Wd) : Nat := w.2.2.2.2.1
abbrev Wd.xs (w : Wd) : Nat → Int32 := w.2.2.2.2.2
/-- the small heap and the machine's -/
def HR (w : Wd) (h : Hp) (H : Heap) : Prop := 0 < h.1.length ∧ va_P w.D kCl (wld w.aC w.b w.base h.1 h.2.1 h.2.2.1 h.2.2.2) H ∧ h.1[0]? = some (100, w.L) ∧ ∀ j, j < w.L → h.2.1 0 j = w.xs j
theorem HR.low {w : Wd} {h : Hp} {H : Heap} (hr : HR w h H) (hb : w.base ≤ H.size) : w.base + (h.1.length - 1) ≤ H.size := by
  obtain ⟨h0, h2, -, -⟩ := hr
  by_cases h1 : h.1.length = 1
  · omega
  · have h3 := (h2 (h.1.length - 2) _ (wld_get (by omega))).lt
    have h4 : w.base + (h.1.length - 2) < H.size := h3
    omega
theorem at_plain {D : va_G} {cl : List vw_C} {q : Nat} {z : va_E} {H : Heap} {cell : Cell} (h : va_at D cl (q, z) H) (hc : H[q]? = some cell) : cell.vm = .none := by
  rcases z with ⟨cA, n, f | f | f | f | f⟩ | ⟨o, fs⟩
  · have e2 : H[q]? = some (vp_cell cA (n, .inl f)) := h
    rw [hc] at e2
    rw [Option.some.inj e2]
    rfl
  · have e2 : H[q]? = some (vp_cell cA (n, .inr (.inl f))) := h
    rw [hc] at e2
    rw [Option.some.inj e2]
    rfl
  · have e2 : H[q]? = some (vp_cell cA (n, .inr (.inr (.inl f)))) := h
    rw [hc] at e2
    rw [Option.some.inj e2]
    rfl
  · have e2 : H[q]? = some (vp_cell cA (n, .inr (.inr (.inr (.inl f))))) := h
    rw [hc] at e2
    rw [Option.some.inj e2]
    rfl
  · have e2 : H[q]? = some (vp_cell cA (n, .inr (.inr (.inr (.inr f))))) := h
    rw [hc] at e2
    rw [Option.some.inj e2]
    rfl
  · obtain ⟨r, -, cell', g1, -, g3, -⟩ := h
    have g1' : H[q]? = some cell' := g1
    rw [hc] at g1'
    rw [Option.some.inj g1']
    exact g3
theorem HR.plain {w : Wd} {h : Hp} {H : Heap} (hr : HR w h H) (h1 : H.size = w.base + (h.1.length - 1)) : ∀ (q : Nat) (cell : Cell), w.base ≤ q → H[q]? = some cell → cell.vm = .none := by
  intro q cell hq hc
  have hl := (Array.getElem?_eq_some_iff.mp hc).1
  have h3 := hr.2.1 (q - w.base) _ (wld_get (by omega))
  have e : w.base + (q - w.base) = q := by omega
  rw [e] at h3
  exact at_plain h3 hc
/-- a word that stays true while the tables grow warmer, whatever the arguments and the heap -/
def okw (w : Cond) : Bool := match w with
  | .methodLinkNest .. => true
  | .castable .. => true
  | .declares _ => true
  | .arrayOver (.object _) => true
  | .stringRef .. => true
  | w => goodWord w
theorem okw_at {w : Cond} {s U : State} {a a' : Array Value} (hW : s.WarmedH U.vm) (hk : okw w = true) (h : w.before a s = true) : w.before a' U = true := by
  unfold okw at hk
  split at hk
  · exact va_Nw.use rfl (va_Nw.warmM hW (va_Nw.of rfl h))
  · exact va_Nw.use rfl (va_Nw.warmC hW (va_Nw.of rfl h))
  · exact va_Nw.use rfl (va_Nw.warmD hW (va_Nw.of rfl h))
  · exact va_AO.use (va_AO.moved hW.alike (va_AO.of h))
  · have h1 := Cond.stringRef_warmed hW h
    simp only [Cond.before, Cond.holds, Cond.value, State.names, State.poolOf?, State.resolvedAt?, State.vm_setVm] at h1 ⊢
    exact h1
  · exact word_at hW (good_of_word hk) h
/-- a static field that holds a reference or null, its cell below base -/
def ZL (C n d : String) (base : Nat) (U : State) (H : Heap) : Prop := ∃ (c : ClassId) (k : Class) (i : Nat) (f : Field) (a : Nat) (cell : Cell) (v : Value), U.vm.findClass C = some c ∧ U.fieldFound? C n d = some (c, k, i, f) ∧ f.isStatic = true ∧ k.statics = some a ∧ H[a]? = some cell ∧ cell.vm.isStatics = true ∧ cell.cls = c ∧ f.slot < cell.slots.size ∧ k.staticTypes[f.slot]? = some f.type ∧ cell.slots[f.slot]? = some v ∧ v.isRef = true ∧ a < base
theorem ZL.moved {C n d : String} {base : Nat} {u U : State} {H H' : Heap} (hvm : u.vm.Alike U.vm) (hq : ∀ a, a < base → H'[a]? = H[a]?) (h : ZL C n d base u H) : ZL C n d base U H' := by
  obtain ⟨c, k, i, f, a, cell, v, h1, h2, h3, h4, h5, h6, h7, h8, h9, h10, h11, h12⟩ := h
  obtain ⟨k', hi', he⟩ := State.fieldFound?_setVm hvm h2
  exact ⟨c, k', i, f, a, cell, v, by rw [hvm.findClass]; exact h1, hi', h3, by rw [he]; exact h4, by rw [hq a h12]; exact h5, h6, h7, h8, by rw [he]; exact h9, h10, h11, h12⟩
theorem ZL.lay {C n d : String} {base : Nat} {U : State} {args : Array Value} (h : ZL C n d base U U.heap) : (Cond.laysStatic C n d).before args U = true := by
  obtain ⟨c, k, i, f, a, cell, v, h1, h2, h3, h4, h5, h6, h7, h8, h9, h10, h11, h12⟩ := h
  exact Cond.laysStatic_of h1 h2 h3 h4 h5 h6 h7 h8 h9
theorem ZL.ref {C n d : String} {base : Nat} {U : State} {args : Array Value} (h : ZL C n d base U U.heap) : (Cond.isRef (.static C n d)).before args U = true := by
  obtain ⟨c, k, i, f, a, cell, v, h1, h2, h3, h4, h5, h6, h7, h8, h9, h10, h11, h12⟩ := h
  have he : (Term.static C n d).eval args U none [] U = some v := by
    simp [Term.eval, State.fieldNamed?, h2, h3, h4, h5, h6, h10]
  simp only [Cond.before, Cond.holds, Cond.value, he]
  cases v <;> simp_all [Value.isRef]
theorem ZL.of {C n d : String} {base : Nat} {s : State} {args : Array Value} (hb : s.heap.size ≤ base) (hl : (Cond.laysStatic C n d).before args s = true) (hr : (Cond.isRef (.static C n d)).before args s = true) : ZL C n d base s s.heap := by
  obtain ⟨c, k, i, f, a, cell, h1, h2, h3, h4, h5, h6, h7, h8, h9⟩ := Cond.laysStatic_spec hl
  have hlt : a < s.heap.size := (Array.getElem?_eq_some_iff.mp h5).1
  have hv : cell.slots[f.slot]? = some cell.slots[f.slot] := Array.getElem?_eq_getElem h8
  have he : (Term.static C n d).eval args s none [] s = some cell.slots[f.slot] := by
    simp [Term.eval, State.fieldNamed?, h2, h3, h4, h5, h6, hv]
  refine ⟨c, k, i, f, a, cell, cell.slots[f.slot], h1, h2, h3, h4, h5, h6, h7, h8, h9, hv, ?_, Nat.lt_of_lt_of_le hlt hb⟩
  simp only [Cond.before, Cond.holds, Cond.value, he] at hr
  revert hr
  cases cell.slots[f.slot] <;> simp [Value.isRef]
/-- one name can't be cast to another -/
def NCs (A B : String) (U : State) : Prop := ∃ x y : ClassId, U.vm.findClass A = some x ∧ U.vm.findClass B = some y ∧ U.vm.assignable x y = false
theorem NCs.moved {A B : String} {u U : State} (hvm : u.vm.Alike U.vm) (h : NCs A B u) : NCs A B U := by
  obtain ⟨x, y, h1, h2, h3⟩ := h
  exact ⟨x, y, by rw [hvm.findClass]; exact h1, by rw [hvm.findClass]; exact h2, by rw [hvm.assignable]; exact h3⟩
theorem NCs.of {A B : String} {s : State} {args : Array Value} (h : (Cond.not (.castable A B)).before args s = true) : NCs A B s := by
  have hv := Cond.holds_not_iff.mp h
  simp only [Cond.value] at hv
  cases h1 : s.vm.findClass A with
  | none => simp [h1] at hv
  | some x =>
    cases h2 : s.vm.findClass B with
    | none => simp [h1, h2] at hv
    | some y => exact ⟨x, y, h1, h2, by simpa [h1, h2] using hv⟩
def tyl (aC : Nat → ClassId) : List (ClassId × FieldType) := (aC 0, .int) :: (aC 1, .boolean) :: (aC 2, .long) :: (List.range arN.length).map (fun j => (aC (3 + j), .object (arN.getD j "")))
def exN (E : Nat) : String := exL.getD E ""
/-- what holds at every activation's start -/
def Cx (w : Wd) (s : State) : Prop := (∀ z, z ∈ lw_tbl → okw z = true → ∀ a : Array Value, z.before a s = true) ∧ va_K w.D kCl (tyl w.aC) s ∧ va_X w.b w.L w.xs s s.heap ∧ w.b < w.base ∧ w.base ≤ s.heap.size ∧
  (∀ (q : Nat) (cell : Cell), w.base ≤ q → s.heap[q]? = some cell → cell.vm = .none) ∧ ZL Bundle.tN "UNASSIGNED_STACK" Bundle.steD w.base s s.heap ∧ ZL Bundle.tN "SUPPRESSED_SENTINEL" Bundle.listD w.base s s.heap ∧
  ∀ i, i < 3 → ∀ j, j < 3 → i ≠ j → NCs (exN i) (exN j) s
theorem Cx.moved {w : Wd} {s U : State} {h : Hp} (C : Cx w s) (hW : s.WarmedH U.vm) (hr : HR w h U.heap) (hz : U.heap.size = w.base + (h.1.length - 1)) (hq : ∀ a, a < w.base → U.heap[a]? = s.heap[a]?) : Cx w U := by
  obtain ⟨c1, c2, c3, c4, c5, c6, c7, c8, c9⟩ := C
  refine ⟨fun z hz hk a => okw_at hW hk (c1 z hz hk #[]), c2.moved hW.alike, (c3.kept (hq _ c4)).moved hW.alike, c4, by rw [hz]; exact Nat.le_add_right _ _, hr.plain hz, c7.moved hW.alike hq, c8.moved hW.alike hq, fun i hi j hj hij => (c9 i hi j hj hij).moved hW.alike⟩
def wAt (p : Nat) (w : Cond) : Bool := decide (lw_tbl[p]? = some w)
theorem Cx.wd {w : Wd} {s : State} (C : Cx w s) {p : Nat} {z : Cond} (hp : wAt p z = true) (hk : okw z = true) (a : Array Value) : z.before a s = true :=
  C.1 z (List.mem_of_getElem? (of_decide_eq_true hp)) hk a
def tbG : List Cond := lw_tbl.filter okw
theorem Cx.tb {w : Wd} {s : State} (C : Cx w s) (a : Array Value) : ∀ z ∈ tbG, z.before a s = true := fun z hz => C.1 z (List.mem_filter.mp hz).1 (List.mem_filter.mp hz).2 a
end
section
/-! one instruction of the small machine, over the machine itself -/
def kYd (x k : Nat) : FieldType := (kYs.getD x (fun _ => .int)) k
def kty (ty : FieldType) : Nat := match ty with
  | .int => 0
  | .boolean => 1
  | .object _ => 2
  | .array _ => 2
  | _ => 9
def okK (x : Nat) : Bool := match kCl[x]? with
  | some (C, T, N) => decide (N = (kKd x).length) && (List.range N).all (fun k => decide (parseFieldDescriptor (T k).2.2.1 = some (kYd x k)) && decide (kty (kYd x k) = (kKd x).getD k 0) && decide (kty (kYd x k) < 3) && wAt ((kWl.getD x []).getD k 0) (u_lay C T k)) && (List.range N).all (fun a => (List.range N).all (fun b => a == b || decide ((T a).2.1 ≠ (T b).2.1)))
    && wAt (kPl.getD x (0, 0)).1 (.instantiable C N) && wAt (kPl.getD x (0, 0)).2 (.initialized C)
  | none => false
theorem okw_lay (C : String) (T : u_T) (k : Nat) : okw (u_lay C T k) = true := by
  unfold u_lay
  split <;> rfl
theorem okK_spec {x : Nat} {C : String} {T : u_T} {N : Nat} (hx : kCl[x]? = some (C, T, N)) (h : okK x = true) : N = (kKd x).length ∧ (∀ k, k < N → parseFieldDescriptor (T k).2.2.1 = some (kYd x k)) ∧ (∀ k, k < N → kty (kYd x k) = (kKd x).getD k 0 ∧ kty (kYd x k) < 3) ∧ (∀ a, a < N → ∀ b, b < N → a ≠ b → (T a).2.1 ≠ (T b).2.1) ∧ (∀ w ∈ u_ws C T N, w ∈ tbG) ∧
    wAt (kPl.getD x (0, 0)).1 (.instantiable C N) = true ∧ wAt (kPl.getD x (0, 0)).2 (.initialized C) = true := by
  unfold okK at h
  rw [hx] at h
  simp only [Bool.and_eq_true, List.all_eq_true, List.mem_range, decide_eq_true_eq, Bool.or_eq_true, beq_iff_eq] at h
  obtain ⟨⟨⟨⟨h1, h2⟩, h3⟩, h4⟩, h5⟩ := h
  refine ⟨h1, fun k hk => (h2 k hk).1.1.1, fun k hk => ⟨(h2 k hk).1.1.2, (h2 k hk).1.2⟩, fun a ha b hb hab => (h3 a ha b hb).resolve_left hab, fun w hw => ?_, h4, h5⟩
  obtain ⟨k, hk, rfl⟩ := List.mem_map.mp hw
  exact List.mem_filter.mpr ⟨List.mem_of_getElem? (of_decide_eq_true (h2 k (List.mem_range.mp hk)).2), okw_lay C T k⟩
def mY (i : Nat) : MethodName := mYl.getD i ⟨"", "", ""⟩
def mB (i : Nat) : ByteArray := mBl.getD i ⟨#[]⟩
def hX (i : Nat) : List (Nat × Nat × Nat × Nat) := (hXl.getD i []).map (fun q => (q.1, q.2.1, q.2.2.1, q.2.2.2.1))
def nF (i : Nat) : Nat := nFl.getD i 0
def nW (i : Nat) : Nat := nWl.getD i 0
def MC (mi : Nat) (s : State) (m : MethodId) (meth : Method) (c : Code) : Prop := s.vm.findClass (mY mi).cls = some m.cls ∧ c.code = mB mi ∧ c.maxLocals = mL mi ∧ meth.sig.returnType = mR mi ∧ meth.locks = false ∧ meth.name = (mY mi).name ∧ c.exceptionTable.toList.map (fun h => (h.startPc, h.endPc, h.handlerPc, h.catchType)) = hX mi
def RM (R : Room) (mi sh0 sl0 : Nat) : Prop := nF mi ≤ R.frames ∧ nW mi ≤ R.locals ∧ R.cells + sh0 = mxC + 1 ∧ R.slots + sl0 = mxS
def Bx (p : Program) (l : Launch) (R : Room) (s : State) (m : MethodId) (meth : Method) (c : Code) (w : Wd) (mi sh0 sl0 : Nat) : Prop :=
  p.tables.exec = Jvm.exec ∧ l.stackTraces = false ∧ Cx w s ∧ MC mi s m meth c ∧ RM R mi sh0 sl0 ∧ 0 < sh0 ∧ s.heap.size = w.base + (sh0 - 1)
def cvl (w : Wd) (lc : Lc) : List (Nat × Value) := lc.map (fun q => (q.1, cv w.b w.base q.2))
def In (w : Wd) (s : State) (sh0 sl0 mi : Nat) (lc : Lc) (h : Hp) (sl : Nat) (H : Heap) (locs : List Loc) (ls : Array Slot) : Prop :=
  HR w h H ∧ va_S (fun q => w.base ≤ q) s.heap H locs ∧ lv_has ls (mL mi) (cvl w lc) ∧ sh0 ≤ h.1.length ∧ h.1.length ≤ mxC + 1 ∧ sl0 ≤ sl ∧ sl ≤ mxS
abbrev KK (p : Program) (l : Launch) (e : Env) (R : Room) (s : State) (m : MethodId) (args : Array Value) (below : List Frame) (meth : Method) (c : Code) (w : Wd) (sh0 sl0 : Nat) (Q : State → Prop) (y : Cf) : Prop :=
  ∀ (H : Heap) (locs : List Loc) (ls : Array Slot), In w s sh0 sl0 y.1 y.2.2.1 y.2.2.2.2.1 y.2.2.2.2.2 H locs ls → W p l e R s m args below meth c H locs (y.2.2.2.2.1.1.length - sh0) (y.2.2.2.2.2 - sl0) Q (F0 m y.2.1 ls (y.2.2.2.1.map (cv w.b w.base)))
def oc (w : Wd) (o : Option Value ⊕ Nat × Nat) : Outcome := match o with
  | .inl v => .returned (v.map (cv w.b w.base))
  | .inr q => .threw (ad w.b w.base q.1)
def thk (r : Out) : Prop := match r.1 with
  | .inl _ => True
  | .inr q => r.2.1.1[q.1]? = some (10 + q.2, 0) ∧ q.1 ≠ 0 ∧ q.2 < 3
def QQ (w : Wd) (below : List Frame) (s : State) (sh0 sl0 : Nat) (r : Out) (t : State) : Prop :=
  t.status = .running ∧ Ended t below (oc w r.1) ∧ s.WarmedH t.vm ∧ HR w r.2.1 t.heap ∧ t.heap.size = w.base + (r.2.1.1.length - 1) ∧ (∀ a, a < w.base → t.heap[a]? = s.heap[a]?) ∧ sh0 ≤ r.2.1.1.length ∧ r.2.1.1.length ≤ mxC + 1 ∧ sl0 ≤ r.2.2 ∧ r.2.2 ≤ mxS ∧ thk r ∧ ∃ L1 : List Loc, (∀ q ∈ L1, w.base ≤ q.base) ∧ s.sameButNew ({ t with vm := s.vm } : State) L1 (r.2.1.1.length - sh0) (r.2.2 - sl0)
theorem lget_has {w : Wd} {ls : Array Slot} {n : Nat} {lc : Lc} (h : lv_has ls n (cvl w lc)) {k : Nat} {v : Value} (hk : lget lc k = some v) : ls[k]? = some (.val (cv w.b w.base v)) := by
  unfold lget at hk
  obtain ⟨q, hq, rfl⟩ := Option.map_eq_some_iff.mp hk
  have h1 := List.mem_of_find?_eq_some hq
  have h2 := List.find?_some hq
  have h3 : q.1 = k := by simpa using h2
  have h4 := h.2.2 (q.1, cv w.b w.base q.2) (List.mem_map.mpr ⟨q, h1, rfl⟩)
  rw [← h3]
  exact h4
theorem lput_cvl (w : Wd) (lc : Lc) (i : Nat) (v : Value) : (i, cv w.b w.base v) :: (cvl w lc).filter (fun q => !(q.1 == i) && !(q.1 + 1 == i && q.2.category == 2)) = cvl w (lput lc i v) := by
  unfold lput cvl
  rw [List.map_cons, List.filter_map]
  congr 2
  apply List.filter_congr
  intro q _
  simp [Function.comp, cv_cat]
theorem go_inv {mi : Nat} {ls : Lc} {sh : List (Nat × Nat)} {gi : Nat → Nat → Int32} {gl : Nat → Nat → Int64} {gr : Nat → Nat → Option Nat} {sl pc' : Nat} {st : List Value} {y : Cg} (h : go mi ls sh gi gl gr sl pc' st = some y) : (pc', ls, st, (sh, gi, gl, gr), sl) = y := by
  unfold go at h
  exact Option.some.inj h
theorem ldI_inv {sh : List (Nat × Nat)} {x q : Nat} {i : Int32} {k : Nat → Option Cg} {r : Cg} (h : ldI sh x q i k = some r) : ∃ n, sh[q]? = some (x, n) ∧ vp_in i n ∧ k i.toNatClampNeg = some r := by
  unfold ldI at h
  split at h
  · rename_i y n hq
    split at h
    · rename_i hy
      subst hy
      split at h
      · cases h
      · rename_i hn
        exact ⟨n, hq, hn, h⟩
    · cases h
  · cases h
section
variable {w : Wd} {sh : List (Nat × Nat)} {gi : Nat → Nat → Int32} {gl : Nat → Nat → Int64} {gr : Nat → Nat → Option Nat} {q n : Nat}
theorem wi {b base : Nat} {aC : Nat → ClassId} (h : sh[q + 1]? = some (100, n)) : (wld aC b base sh gi gl gr)[q]? = some (base + q, .inl (aC 0, n, .inl (gi (q + 1)))) := wld_at h
theorem wz {b base : Nat} {aC : Nat → ClassId} (h : sh[q + 1]? = some (101, n)) : (wld aC b base sh gi gl gr)[q]? = some (base + q, .inl (aC 1, n, .inl (gi (q + 1)))) := wld_at h
theorem wl {b base : Nat} {aC : Nat → ClassId} (h : sh[q + 1]? = some (102, n)) : (wld aC b base sh gi gl gr)[q]? = some (base + q, .inl (aC 2, n, .inr (.inl (gl (q + 1))))) := wld_at h
theorem cel_r {b base : Nat} {aC : Nat → ClassId} {x : Nat} (hx : 103 ≤ x) (k : Nat) : cel aC b base gi gl gr k (x, n) = .inl (aC (x - 100), n, .inr (.inr (.inr (.inr (fun j => (gr k j).map (ad b base)))))) := by
  unfold cel
  rw [if_neg (show ¬ (x, n).1 < 100 by show ¬ x < 100; omega), if_neg (show ¬ (x, n).1 = 102 by show ¬ x = 102; omega), if_pos (show 103 ≤ (x, n).1 from hx)]
theorem wr {b base : Nat} {aC : Nat → ClassId} {x : Nat} (hx : 103 ≤ x) (h : sh[q + 1]? = some (x, n)) : (wld aC b base sh gi gl gr)[q]? = some (base + q, .inl (aC (x - 100), n, .inr (.inr (.inr (.inr (fun j => (gr (q + 1) j).map (ad b base))))))) := by
  rw [wld_at h, cel_r hx]
theorem cel_o {b base : Nat} {aC : Nat → ClassId} {x : Nat} (hx : x < 100) (k : Nat) : cel aC b base gi gl gr k (x, n) = .inr (x, fldv b base x gi gr k) := by
  unfold cel
  rw [if_pos (show (x, n).1 < 100 from hx)]
theorem wo {b base : Nat} {aC : Nat → ClassId} {x : Nat} (hx : x < 100) (h : sh[q + 1]? = some (x, n)) : (wld aC b base sh gi gl gr)[q]? = some (base + q, .inr (x, fldv b base x gi gr (q + 1))) := by
  rw [wld_at h, cel_o hx]
theorem fldv_len (b base x k : Nat) : (fldv b base x gi gr k).length = (kKd x).length := by simp [fldv]
theorem fldv_get (b base x k : Nat) {j : Nat} (hj : j < (kKd x).length) : (fldv b base x gi gr k)[j]? = some (if (kKd x).getD j 0 = 2 then va_rf ((gr k j).map (ad b base)) else .int (gi k j)) := by
  simp [fldv, List.getElem?_map, List.getElem?_range hj]
theorem fldv_setI (b base x k : Nat) {j : Nat} (hj : j < (kKd x).length) (hk : (kKd x).getD j 0 ≠ 2) (v : Int32) : (fldv b base x gi gr k).set j (.int v) = fldv b base x (u2 gi k j v) gr k := by
  apply List.ext_getElem?
  intro i
  by_cases hi : i < (kKd x).length
  · by_cases e : i = j
    · subst e
      rw [List.getElem?_set_self (by rw [fldv_len]; exact hi), fldv_get _ _ _ _ hi, if_neg hk]
      simp [u2]
    · rw [List.getElem?_set_ne (Ne.symm e), fldv_get _ _ _ _ hi, fldv_get _ _ _ _ hi]
      simp [u2, e]
  · rw [List.getElem?_eq_none (by rw [List.length_set, fldv_len]; omega), List.getElem?_eq_none (by rw [fldv_len]; omega)]
theorem fldv_setR (b base x k : Nat) {j : Nat} (hj : j < (kKd x).length) (hk : (kKd x).getD j 0 = 2) (v : Nat) : (fldv b base x gi gr k).set j (.ref (ad b base v)) = fldv b base x gi (u2 gr k j (some v)) k := by
  apply List.ext_getElem?
  intro i
  by_cases hi : i < (kKd x).length
  · by_cases e : i = j
    · subst e
      rw [List.getElem?_set_self (by rw [fldv_len]; exact hi), fldv_get _ _ _ _ hi, if_pos hk]
      simp [u2, va_rf]
    · rw [List.getElem?_set_ne (Ne.symm e), fldv_get _ _ _ _ hi, fldv_get _ _ _ _ hi]
      simp [u2, e]
  · rw [List.getElem?_eq_none (by rw [List.length_set, fldv_len]; omega), List.getElem?_eq_none (by rw [fldv_len]; omega)]
end
theorem upd_u2 (g : Nat → Nat → Int32) (q j : Nat) (v : Int32) : upd (g q) j v = u2 g q j v q := by
  funext b
  simp [upd, u2]
theorem updL_u2 (g : Nat → Nat → Int64) (q j : Nat) (v : Int64) : vp_updL (g q) j v = u2 g q j v q := by
  funext b
  simp [vp_updL, u2]
theorem va_up_u2 (g : Nat → Nat → Option Nat) (f : Nat → Nat) (q j v : Nat) : va_up (fun i => (g q i).map f) j (some (f v)) = fun i => (u2 g q j (some v) q i).map f := by
  funext b
  by_cases hb : b = j
  · subst hb
    simp [va_up, u2]
  · simp [va_up, u2, hb]
theorem cpy_cpy2 (g : Nat → Nat → Int32) (k q sp dp n : Nat) : va_cpy (g k) (g q) sp dp n = cpy2 g k q sp dp n q := by
  funext b
  simp [cpy2]
theorem def_kty : ∀ ty : FieldType, kty ty < 3 → defaultValue ty = if kty ty = 2 then va_rf none else .int 0 := by
  intro ty h
  cases ty <;> first | rfl | (simp [kty] at h)
theorem tyl0 (aC : Nat → ClassId) : (tyl aC)[0]? = some (aC 0, .int) := rfl
theorem tyl1 (aC : Nat → ClassId) : (tyl aC)[1]? = some (aC 1, .boolean) := rfl
theorem tyl2 (aC : Nat → ClassId) : (tyl aC)[2]? = some (aC 2, .long) := rfl
theorem tyl3 (aC : Nat → ClassId) {j : Nat} (hj : j < arN.length) : (tyl aC)[3 + j]? = some (aC (3 + j), .object (arN.getD j "")) := by
  unfold tyl
  have e : 3 + j = j + 1 + 1 + 1 := by omega
  rw [e, List.getElem?_cons_succ, List.getElem?_cons_succ, List.getElem?_cons_succ]
  simp [List.getElem?_map, List.getElem?_range hj]
  exact congrArg aC e
/-- after a write of one cell, whose place in the list is q -/
theorem HR.wrote {w : Wd} {sh : List (Nat × Nat)} {gi gi' : Nat → Nat → Int32} {gl gl' : Nat → Nat → Int64} {gr gr' : Nat → Nat → Option Nat} {H H1 : Heap} {q : Nat} {z : Nat × Nat} {x : va_E} (hr : HR w (sh, gi, gl, gr) H) (hz : sh[q + 1]? = some z)
    (h1 : ∀ k, k ≠ q + 1 → gi' k = gi k) (h2 : ∀ k, k ≠ q + 1 → gl' k = gl k) (h3 : ∀ k, k ≠ q + 1 → gr' k = gr k) (hx : x = cel w.aC w.b w.base gi' gl' gr' (q + 1) z) (hP : va_P w.D kCl ((wld w.aC w.b w.base sh gi gl gr).set q (w.base + q, x)) H1) : HR w (sh, gi', gl', gr') H1 := by
  obtain ⟨r0, -, r3, r4⟩ := hr
  rw [hx, wld_set hz h1 h2 h3] at hP
  refine ⟨r0, hP, r3, fun j hj => ?_⟩
  show gi' 0 j = _
  rw [h1 0 (by omega)]
  exact r4 j hj
section
variable {p : Program} {l : Launch} {e : Env} {R : Room} {s : State} {m : MethodId} {args : Array Value} {below : List Frame} {meth : Method} {c : Code} {Q : State → Prop}
variable {w : Wd} {mi sh0 sl0 pc : Nat} {lc : Lc} {st : List Value} {sh : List (Nat × Nat)} {gi : Nat → Nat → Int32} {gl : Nat → Nat → Int64} {gr : Nat → Nat → Option Nat} {sl : Nat} {H : Heap} {locs : List Loc} {ls : Array Slot} {y : Cg}
theorem W.sized {cells slots : Nat} {g : JFrame} (h : H.size ≤ s.heap.size + cells → W p l e R s m args below meth c H locs cells slots Q g) : W p l e R s m args below meth c H locs cells slots Q g := by
  intro T hT X
  have := X.heapSize
  rw [hT] at this
  exact h this T hT X
theorem W.mono {Q' : State → Prop} {cells slots : Nat} {g : JFrame} (hQ : ∀ t, Q t → Q' t) (h : W p l e R s m args below meth c H locs cells slots Q g) : W p l e R s m args below meth c H locs cells slots Q' g := by
  intro T hT X
  obtain ⟨t, a, b⟩ := h T hT X
  exact ⟨t, a, hQ t b⟩
theorem In.size (B : Bx p l R s m meth c w mi sh0 sl0) {lc : Lc} {h : Hp} (I : In w s sh0 sl0 mi lc h sl H locs ls) (hz : H.size ≤ s.heap.size + (h.1.length - sh0)) : H.size = w.base + (h.1.length - 1) := by
  obtain ⟨-, -, C, -, -, h0, hs⟩ := B
  have h1 := I.1.low (Nat.le_trans C.2.2.2.2.1 I.2.1.1)
  have h2 := I.2.2.2.1
  omega
theorem so_push {v : Value} {len : Nat} {y : Cg} (h : s_push len mi pc lc st sh gi gl gr sl v = some y) (hv : cv w.b w.base v = v) (I : In w s sh0 sl0 mi lc (sh, gi, gl, gr) sl H locs ls) (K : KK p l e R s m args below meth c w sh0 sl0 Q (mi, y)) : W p l e R s m args below meth c H locs (sh.length - sh0) (sl - sl0) Q (F0 m (pc + len) ls (v :: st.map (cv w.b w.base))) := by
  obtain rfl := go_inv h
  have := K H locs ls I
  simp only [List.map_cons, hv] at this
  exact this
theorem so_iload {k len : Nat} (h : s_iload len mi pc lc st sh gi gl gr sl k = some y) (I : In w s sh0 sl0 mi lc (sh, gi, gl, gr) sl H locs ls) (K : KK p l e R s m args below meth c w sh0 sl0 Q (mi, y)) : ∃ x, ls[k]? = some (.val (.int x)) ∧ W p l e R s m args below meth c H locs (sh.length - sh0) (sl - sl0) Q (F0 m (pc + len) ls (.int x :: st.map (cv w.b w.base))) := by
  unfold s_iload at h
  split at h
  · rename_i x hx
    obtain rfl := go_inv h
    exact ⟨x, lget_has I.2.2.1 hx, K H locs ls I⟩
  · cases h
theorem so_aload {k len : Nat} (h : s_aload len mi pc lc st sh gi gl gr sl k = some y) (I : In w s sh0 sl0 mi lc (sh, gi, gl, gr) sl H locs ls) (K : KK p l e R s m args below meth c w sh0 sl0 Q (mi, y)) : ∃ x, ls[k]? = some (.val (.ref x)) ∧ W p l e R s m args below meth c H locs (sh.length - sh0) (sl - sl0) Q (F0 m (pc + len) ls (.ref x :: st.map (cv w.b w.base))) := by
  unfold s_aload at h
  split at h
  · rename_i x hx
    obtain rfl := go_inv h
    exact ⟨ad w.b w.base x, lget_has I.2.2.1 hx, K H locs ls I⟩
  · cases h
theorem so_istore {k len : Nat} (h : s_istore len mi pc lc st sh gi gl gr sl k = some y) (I : In w s sh0 sl0 mi lc (sh, gi, gl, gr) sl H locs ls) (K : KK p l e R s m args below meth c w sh0 sl0 Q (mi, y)) : ∃ x r lc', st.map (cv w.b w.base) = .int x :: r ∧ k < mL mi ∧ (k, Value.int x) :: (cvl w lc).filter (fun q => !(q.1 == k) && !(q.1 + 1 == k && q.2.category == 2)) = lc' ∧ ∀ ls', lv_has ls' (mL mi) lc' → W p l e R s m args below meth c H locs (sh.length - sh0) (sl - sl0) Q (F0 m (pc + len) ls' r) := by
  unfold s_istore at h
  split at h
  · rename_i x r
    split at h
    · rename_i hk
      obtain rfl := go_inv h
      exact ⟨x, r.map (cv w.b w.base), _, rfl, hk, rfl, fun ls' hl => K H locs ls' ⟨I.1, I.2.1, by rw [← lput_cvl]; exact hl, I.2.2.2⟩⟩
    · cases h
  · cases h
theorem so_astore {k len : Nat} (h : s_astore len mi pc lc st sh gi gl gr sl k = some y) (I : In w s sh0 sl0 mi lc (sh, gi, gl, gr) sl H locs ls) (K : KK p l e R s m args below meth c w sh0 sl0 Q (mi, y)) : ∃ x r lc', st.map (cv w.b w.base) = .ref x :: r ∧ k < mL mi ∧ (k, Value.ref x) :: (cvl w lc).filter (fun q => !(q.1 == k) && !(q.1 + 1 == k && q.2.category == 2)) = lc' ∧ ∀ ls', lv_has ls' (mL mi) lc' → W p l e R s m args below meth c H locs (sh.length - sh0) (sl - sl0) Q (F0 m (pc + len) ls' r) := by
  unfold s_astore at h
  split at h
  · rename_i x r
    split at h
    · rename_i hk
      obtain rfl := go_inv h
      exact ⟨ad w.b w.base x, r.map (cv w.b w.base), _, rfl, hk, rfl, fun ls' hl => K H locs ls' ⟨I.1, I.2.1, by rw [← lput_cvl]; exact hl, I.2.2.2⟩⟩
    · cases h
  · cases h
theorem so_iinc {k : Nat} {n : Int} (hx : p.tables.exec = Jvm.exec) (hb : c.code = mB mi) (hdg : decode (mB mi) pc = .ok (.iinc k n, 3)) (h : s_iinc 3 mi pc lc st sh gi gl gr sl k n = some y) (I : In w s sh0 sl0 mi lc (sh, gi, gl, gr) sl H locs ls) (K : KK p l e R s m args below meth c w sh0 sl0 Q (mi, y)) : W p l e R s m args below meth c H locs (sh.length - sh0) (sl - sl0) Q (F0 m pc ls (st.map (cv w.b w.base))) := by
  unfold s_iinc at h
  split at h
  · rename_i x hg
    split at h
    · rename_i hk
      obtain rfl := go_inv h
      unfold lget at hg
      obtain ⟨q, hq, hq2⟩ := Option.map_eq_some_iff.mp hg
      have h1 := List.mem_of_find?_eq_some hq
      have h3 : q.1 = k := by simpa using List.find?_some hq
      have h4 : (k, Value.int x) ∈ cvl w lc := List.mem_map.mpr ⟨q, h1, by rw [hq2, h3]; rfl⟩
      obtain ⟨j, hj⟩ := List.getElem?_of_mem h4
      exact lv_iinc hx hb hdg I.2.2.1 hj rfl hk rfl (fun ls' hl => K H locs ls' ⟨I.1, I.2.1, by rw [← lput_cvl]; exact hl, I.2.2.2⟩)
    · cases h
  · cases h
theorem so_bin {f : Int32 → Int32 → Int32} {len : Nat} (h : s_bin len mi pc lc st sh gi gl gr sl f = some y) (I : In w s sh0 sl0 mi lc (sh, gi, gl, gr) sl H locs ls) (K : KK p l e R s m args below meth c w sh0 sl0 Q (mi, y)) : ∃ x y r, st.map (cv w.b w.base) = .int y :: .int x :: r ∧ W p l e R s m args below meth c H locs (sh.length - sh0) (sl - sl0) Q (F0 m (pc + len) ls (.int (f x y) :: r)) := by
  unfold s_bin at h
  split at h
  · rename_i y x r
    obtain rfl := go_inv h
    exact ⟨x, y, r.map (cv w.b w.base), rfl, K H locs ls I⟩
  · cases h
theorem so_div {f : Int32 → Int32 → Int32} {len : Nat} (h : s_div len mi pc lc st sh gi gl gr sl f = some y) (I : In w s sh0 sl0 mi lc (sh, gi, gl, gr) sl H locs ls) (K : KK p l e R s m args below meth c w sh0 sl0 Q (mi, y)) : ∃ x y r, st.map (cv w.b w.base) = .int y :: .int x :: r ∧ ¬ y = 0 ∧ W p l e R s m args below meth c H locs (sh.length - sh0) (sl - sl0) Q (F0 m (pc + len) ls (.int (f x y) :: r)) := by
  unfold s_div at h
  split at h
  · rename_i y x r
    split at h
    · cases h
    · rename_i hy
      obtain rfl := go_inv h
      exact ⟨x, y, r.map (cv w.b w.base), rfl, hy, K H locs ls I⟩
  · cases h
theorem so_i2l (hx : p.tables.exec = Jvm.exec) (hb : c.code = mB mi) (hdg : decode (mB mi) pc = .ok (.i2l, 1)) (h : s_i2l 1 mi pc lc st sh gi gl gr sl = some y) (I : In w s sh0 sl0 mi lc (sh, gi, gl, gr) sl H locs ls) (K : KK p l e R s m args below meth c w sh0 sl0 Q (mi, y)) : W p l e R s m args below meth c H locs (sh.length - sh0) (sl - sl0) Q (F0 m pc ls (st.map (cv w.b w.base))) := by
  unfold s_i2l at h
  split at h
  · obtain rfl := go_inv h
    exact lv_i2l hx hb hdg rfl (K H locs ls I)
  · cases h
theorem so_lcmp (hx : p.tables.exec = Jvm.exec) (hb : c.code = mB mi) (hdg : decode (mB mi) pc = .ok (.lcmp, 1)) (h : s_lcmp 1 mi pc lc st sh gi gl gr sl = some y) (I : In w s sh0 sl0 mi lc (sh, gi, gl, gr) sl H locs ls) (K : KK p l e R s m args below meth c w sh0 sl0 Q (mi, y)) : W p l e R s m args below meth c H locs (sh.length - sh0) (sl - sl0) Q (F0 m pc ls (st.map (cv w.b w.base))) := by
  unfold s_lcmp at h
  split at h
  · obtain rfl := go_inv h
    exact W.lcmp hx hb hdg (K H locs ls I)
  · cases h
theorem so_dup (hx : p.tables.exec = Jvm.exec) (hb : c.code = mB mi) (hdg : decode (mB mi) pc = .ok (.dup, 1)) (h : s_dup 1 mi pc lc st sh gi gl gr sl = some y) (I : In w s sh0 sl0 mi lc (sh, gi, gl, gr) sl H locs ls) (K : KK p l e R s m args below meth c w sh0 sl0 Q (mi, y)) : W p l e R s m args below meth c H locs (sh.length - sh0) (sl - sl0) Q (F0 m pc ls (st.map (cv w.b w.base))) := by
  unfold s_dup at h
  split at h
  · split at h
    · rename_i hc
      obtain rfl := go_inv h
      exact lv_dup hx hb hdg (by rw [cv_cat]; exact hc) (K H locs ls I)
    · cases h
  · cases h
theorem so_pop (hx : p.tables.exec = Jvm.exec) (hb : c.code = mB mi) (hdg : decode (mB mi) pc = .ok (.pop, 1)) (h : s_pop 1 mi pc lc st sh gi gl gr sl = some y) (I : In w s sh0 sl0 mi lc (sh, gi, gl, gr) sl H locs ls) (K : KK p l e R s m args below meth c w sh0 sl0 Q (mi, y)) : W p l e R s m args below meth c H locs (sh.length - sh0) (sl - sl0) Q (F0 m pc ls (st.map (cv w.b w.base))) := by
  unfold s_pop at h
  split at h
  · split at h
    · rename_i hc
      obtain rfl := go_inv h
      exact lv_pop hx hb hdg (by rw [cv_cat]; exact hc) (K H locs ls I)
    · cases h
  · cases h
theorem so_dup2 (hx : p.tables.exec = Jvm.exec) (hb : c.code = mB mi) (hdg : decode (mB mi) pc = .ok (.dup2, 1)) (h : s_dup2 1 mi pc lc st sh gi gl gr sl = some y) (I : In w s sh0 sl0 mi lc (sh, gi, gl, gr) sl H locs ls) (K : KK p l e R s m args below meth c w sh0 sl0 Q (mi, y)) : W p l e R s m args below meth c H locs (sh.length - sh0) (sl - sl0) Q (F0 m pc ls (st.map (cv w.b w.base))) := by
  unfold s_dup2 at h
  split at h
  · split at h
    · rename_i hc
      obtain rfl := go_inv h
      exact lv_dup2_11 hx hb hdg (by rw [cv_cat]; exact hc.1) (by rw [cv_cat]; exact hc.2) (K H locs ls I)
    · cases h
  · cases h
theorem so_if {cc : ClassFile.Cond} {o : Int} {a : Nat} (hx : p.tables.exec = Jvm.exec) (hb : c.code = mB mi) (hdg : decode (mB mi) pc = .ok (.ifCond cc o, 3)) (ha : (pc : Int) + o = (a : Int)) (h : s_if a mi pc lc st sh gi gl gr sl cc = some y) (I : In w s sh0 sl0 mi lc (sh, gi, gl, gr) sl H locs ls) (K : KK p l e R s m args below meth c w sh0 sl0 Q (mi, y)) : W p l e R s m args below meth c H locs (sh.length - sh0) (sl - sl0) Q (F0 m pc ls (st.map (cv w.b w.base))) := by
  unfold s_if at h
  split at h
  · rename_i x r
    cases cc <;> simp only [br] at h
    · exact lv_if_eq hx hb hdg ha (fun q => by rw [if_pos q] at h; obtain rfl := go_inv h; exact K H locs ls I) (fun q => by rw [if_neg q] at h; obtain rfl := go_inv h; exact K H locs ls I)
    · exact lv_if_ne hx hb hdg ha (fun q => by rw [if_neg q] at h; obtain rfl := go_inv h; exact K H locs ls I) (fun q => by rw [if_pos q] at h; obtain rfl := go_inv h; exact K H locs ls I)
    · exact lv_if_lt hx hb hdg ha (fun q => by rw [if_pos q] at h; obtain rfl := go_inv h; exact K H locs ls I) (fun q => by rw [if_neg q] at h; obtain rfl := go_inv h; exact K H locs ls I)
    · exact lv_if_ge hx hb hdg ha (fun q => by rw [if_pos q] at h; obtain rfl := go_inv h; exact K H locs ls I) (fun q => by rw [if_neg q] at h; obtain rfl := go_inv h; exact K H locs ls I)
    · exact lv_if_gt hx hb hdg ha (fun q => by rw [if_pos q] at h; obtain rfl := go_inv h; exact K H locs ls I) (fun q => by rw [if_neg q] at h; obtain rfl := go_inv h; exact K H locs ls I)
    · exact lv_if_le hx hb hdg ha (fun q => by rw [if_pos q] at h; obtain rfl := go_inv h; exact K H locs ls I) (fun q => by rw [if_neg q] at h; obtain rfl := go_inv h; exact K H locs ls I)
  · cases h
theorem so_icmp {cc : ClassFile.Cond} {o : Int} {a : Nat} (hx : p.tables.exec = Jvm.exec) (hb : c.code = mB mi) (hdg : decode (mB mi) pc = .ok (.if_icmp cc o, 3)) (ha : (pc : Int) + o = (a : Int)) (h : s_icmp a mi pc lc st sh gi gl gr sl cc = some y) (I : In w s sh0 sl0 mi lc (sh, gi, gl, gr) sl H locs ls) (K : KK p l e R s m args below meth c w sh0 sl0 Q (mi, y)) : W p l e R s m args below meth c H locs (sh.length - sh0) (sl - sl0) Q (F0 m pc ls (st.map (cv w.b w.base))) := by
  unfold s_icmp at h
  split at h
  · rename_i y x r
    cases cc <;> simp only [br] at h
    · exact lv_icmp_eq hx hb hdg ha (fun q => by rw [if_pos q] at h; obtain rfl := go_inv h; exact K H locs ls I) (fun q => by rw [if_neg q] at h; obtain rfl := go_inv h; exact K H locs ls I)
    · exact lv_icmp_ne hx hb hdg ha (fun q => by rw [if_neg q] at h; obtain rfl := go_inv h; exact K H locs ls I) (fun q => by rw [if_pos q] at h; obtain rfl := go_inv h; exact K H locs ls I)
    · exact lv_icmp_lt hx hb hdg ha (fun q => by rw [if_pos q] at h; obtain rfl := go_inv h; exact K H locs ls I) (fun q => by rw [if_neg q] at h; obtain rfl := go_inv h; exact K H locs ls I)
    · exact lv_icmp_ge hx hb hdg ha (fun q => by rw [if_pos q] at h; obtain rfl := go_inv h; exact K H locs ls I) (fun q => by rw [if_neg q] at h; obtain rfl := go_inv h; exact K H locs ls I)
    · exact lv_icmp_gt hx hb hdg ha (fun q => by rw [if_pos q] at h; obtain rfl := go_inv h; exact K H locs ls I) (fun q => by rw [if_neg q] at h; obtain rfl := go_inv h; exact K H locs ls I)
    · exact lv_icmp_le hx hb hdg ha (fun q => by rw [if_pos q] at h; obtain rfl := go_inv h; exact K H locs ls I) (fun q => by rw [if_neg q] at h; obtain rfl := go_inv h; exact K H locs ls I)
  · cases h
theorem so_tab {d lo hi : Int} {offs : Array Int} {len : Nat} (hx : p.tables.exec = Jvm.exec) (hb : c.code = mB mi) (hdg : decode (mB mi) pc = .ok (.tableswitch d lo hi offs, len)) (h0 : 0 ≤ (pc : Int) + d) (h1 : ∀ o ∈ offs.toList, 0 ≤ (pc : Int) + o) (h : s_tab mi pc lc st sh gi gl gr sl d lo hi offs = some y) (I : In w s sh0 sl0 mi lc (sh, gi, gl, gr) sl H locs ls) (K : KK p l e R s m args below meth c w sh0 sl0 Q (mi, y)) : W p l e R s m args below meth c H locs (sh.length - sh0) (sl - sl0) Q (F0 m pc ls (st.map (cv w.b w.base))) := by
  unfold s_tab at h
  split at h
  · rename_i x r
    split at h
    · rename_i hc
      obtain rfl := go_inv h
      exact lv_tableOut hx hb hdg hc (Int.toNat_of_nonneg h0).symm (K H locs ls I)
    · rename_i hc
      split at h
      · rename_i o ho
        obtain rfl := go_inv h
        exact lv_tableIn hx hb hdg (fun q => hc (Or.inl q)) (fun q => hc (Or.inr q)) ho (Int.toNat_of_nonneg (h1 o (by rw [← Array.getElem?_toList] at ho; exact List.mem_of_getElem? ho))).symm (K H locs ls I)
      · cases h
  · cases h
theorem lko_mem : ∀ (l : List (Int × Int)) (d x : Int), Op.lookupswitch.offset l d x = d ∨ ∃ q ∈ l, Op.lookupswitch.offset l d x = q.2
  | [], d, x => Or.inl rfl
  | q :: t, d, x => by
    unfold Op.lookupswitch.offset
    split
    · exact Or.inr ⟨q, List.mem_cons_self, rfl⟩
    · rcases lko_mem t d x with h | ⟨z, hz, h⟩
      · exact Or.inl h
      · exact Or.inr ⟨z, List.mem_cons_of_mem _ hz, h⟩
theorem so_look {d : Int} {ps : Array (Int × Int)} {len : Nat} (hx : p.tables.exec = Jvm.exec) (hb : c.code = mB mi) (hdg : decode (mB mi) pc = .ok (.lookupswitch d ps, len)) (h0 : 0 ≤ (pc : Int) + d) (h1 : ∀ o ∈ ps.toList, 0 ≤ (pc : Int) + o.2) (h2 : (ps.toList.zip (ps.toList.drop 1)).all (fun (a, next) => a.1 < next.1) = true) (h : s_look mi pc lc st sh gi gl gr sl d ps = some y) (I : In w s sh0 sl0 mi lc (sh, gi, gl, gr) sl H locs ls) (K : KK p l e R s m args below meth c w sh0 sl0 Q (mi, y)) : W p l e R s m args below meth c H locs (sh.length - sh0) (sl - sl0) Q (F0 m pc ls (st.map (cv w.b w.base))) := by
  unfold s_look at h
  split at h
  · rename_i x r
    obtain rfl := go_inv h
    refine lv_lookup hx hb hdg h2 rfl (Int.toNat_of_nonneg ?_).symm (K H locs ls I)
    rcases lko_mem ps.toList d x.toInt with q | ⟨z, hz, q⟩
    · rw [q]; exact h0
    · rw [q]; exact h1 z hz
  · cases h
end
end
section
/-! the instructions that read or write cells, or make them -/
def okF (mi ix a b c p : Nat) : Bool := match kCl[a]? with
  | some (C, T, N) => decide (a < 10) && decide (b < N) && decide ((T b).1 = C) && decide (c = (kKd a).getD b 0) && wAt p (.fieldLink (mY mi).cls ix C (T b).2.1 (T b).2.2.1)
  | none => false
def okP (mi a b : Nat) : Bool := match kCl[a]? with
  | some (_, T, _) => (T b).2.2.2 == false || (decide ((mY mi).name = "<init>") && decide ((T b).1 = (mY mi).cls))
  | none => false
theorem isB_nar {v : Int32} (h : isB v = true) : narrow .boolean (.int v) = .int v := by
  unfold isB at h
  rw [Bool.or_eq_true, beq_iff_eq, beq_iff_eq] at h
  rcases h with rfl | rfl <;> rfl
theorem isB_fits {v : Int32} (h : isB v = true) : fits .boolean (.int v) = true := by
  unfold isB at h
  rw [Bool.or_eq_true, beq_iff_eq, beq_iff_eq] at h
  rcases h with rfl | rfl <;> rfl
theorem isB_vp {v : Int32} (h : isB v = true) : vp_nar .boolean v = v := by
  unfold vp_nar
  rw [isB_nar h]
section
variable {p : Program} {l : Launch} {e : Env} {R : Room} {s : State} {m : MethodId} {args : Array Value} {below : List Frame} {meth : Method} {c : Code} {Q : State → Prop}
variable {w : Wd} {mi sh0 sl0 pc : Nat} {lc : Lc} {st : List Value} {sh : List (Nat × Nat)} {gi : Nat → Nat → Int32} {gl : Nat → Nat → Int64} {gr : Nat → Nat → Option Nat} {sl : Nat} {H : Heap} {locs : List Loc} {ls : Array Slot} {y : Cg}
theorem ne0 {h : Hp} (hr : HR w h H) {q x n : Nat} (hq : h.1[q]? = some (x, n)) (hx : x ≠ 100) : ∃ k, q = k + 1 := by
  cases q with
  | zero =>
    rw [hr.2.2.1] at hq
    exact absurd (Prod.mk.inj (Option.some.inj hq)).1.symm hx
  | succ k => exact ⟨k, rfl⟩
theorem so_get {ix a b k z : Nat} (hK9 : ∀ x, x < 10 → okK x = true) (B : Bx p l R s m meth c w mi sh0 sl0) (hdg : decode (mB mi) pc = .ok (.getfield ix, 3)) (ho : okF mi ix a b k z = true) (h : s_get a b k mi pc lc st sh gi gl gr sl = some y) (I : In w s sh0 sl0 mi lc (sh, gi, gl, gr) sl H locs ls) (K : KK p l e R s m args below meth c w sh0 sl0 Q (mi, y)) : W p l e R s m args below meth c H locs (sh.length - sh0) (sl - sl0) Q (F0 m pc ls (st.map (cv w.b w.base))) := by
  obtain ⟨hx, -, C, M, -, -, -⟩ := B
  unfold s_get at h
  split at h
  · rename_i q r
    split at h
    · rename_i x n hq
      split at h
      · rename_i hxa
        subst hxa
        unfold okF at ho
        split at ho
        · rename_i Cn T N hc
          simp only [Bool.and_eq_true, decide_eq_true_eq] at ho
          obtain ⟨⟨⟨⟨o1, o2⟩, o3⟩, o4⟩, o5⟩ := ho
          obtain ⟨q, rfl⟩ := ne0 I.1 hq (by omega)
          obtain ⟨k1, k2, k3, k4, k5, -, -⟩ := okK_spec hc (hK9 x o1)
          obtain rfl := go_inv h
          have hv := fldv_get (gi := gi) (gr := gr) w.b w.base x (q + 1) (j := b) (by omega)
          rw [← o4] at hv
          refine va_get (ref := Cn) hx M.2.1 (C.tb args) k5 M.1 C.2.1 I.1.2.1 q (wo (by omega) hq) hc b o2 (C.wd o5 rfl args) (fun z hz => by rw [o3] at hz; exact hz) hv hdg ?_
          have := K H locs ls I
          have e1 : cv w.b w.base (if k = 2 then va_rf (gr (q + 1) b) else .int (gi (q + 1) b)) = if k = 2 then va_rf ((gr (q + 1) b).map (ad w.b w.base)) else .int (gi (q + 1) b) := by
            split
            · exact cv_rf _ _ _
            · rfl
          simp only [List.map_cons, e1] at this
          exact this
        · cases ho
      · cases h
    · cases h
  · cases h
theorem so_put {ix a b k z : Nat} (hK9 : ∀ x, x < 10 → okK x = true) (B : Bx p l R s m meth c w mi sh0 sl0) (hdg : decode (mB mi) pc = .ok (.putfield ix, 3)) (ho : okF mi ix a b k z = true) (hp : okP mi a b = true) (h : s_put a b k mi pc lc st sh gi gl gr sl = some y) (I : In w s sh0 sl0 mi lc (sh, gi, gl, gr) sl H locs ls) (K : KK p l e R s m args below meth c w sh0 sl0 Q (mi, y)) : W p l e R s m args below meth c H locs (sh.length - sh0) (sl - sl0) Q (F0 m pc ls (st.map (cv w.b w.base))) := by
  obtain ⟨hx, -, C, M, -, -, -⟩ := B
  unfold okF at ho
  unfold okP at hp
  split at ho
  · rename_i Cn T N hc
    rw [hc] at hp
    simp only [Bool.and_eq_true, Bool.or_eq_true, decide_eq_true_eq, beq_iff_eq] at ho hp
    obtain ⟨⟨⟨⟨o1, o2⟩, o3⟩, o4⟩, o5⟩ := ho
    obtain ⟨k1, k2, k3, k4, k5, -, -⟩ := okK_spec hc (hK9 a o1)
    have hl := C.wd o5 rfl args
    have hsame : ∀ z, s.fieldFound? (T b).1 (T b).2.1 (T b).2.2.1 = some z → s.fieldFound? Cn (T b).2.1 (T b).2.2.1 = some z := fun z hz => by rw [o3] at hz; exact hz
    have hk3 := (k3 b o2).1
    rw [← o4] at hk3
    have main : ∀ (q n : Nat) (v : Value) (gi' : Nat → Nat → Int32) (gr' : Nat → Nat → Option Nat) (r : List Value), sh[q + 1]? = some (a, n) → narrow (kYd a b) v = v → fits (kYd a b) v = true → (fldv w.b w.base a gi gr (q + 1)).set b v = fldv w.b w.base a gi' gr' (q + 1) → (∀ i, i ≠ q + 1 → gi' i = gi i) → (∀ i, i ≠ q + 1 → gr' i = gr i) →
        KK p l e R s m args below meth c w sh0 sl0 Q (mi, pc + 3, lc, r, (sh, gi', gl, gr'), sl) → W p l e R s m args below meth c H locs (sh.length - sh0) (sl - sl0) Q (F0 m pc ls (v :: .ref (w.base + q) :: r.map (cv w.b w.base))) := by
      intro q n v gi' gr' r hq hn hf hset h1 h3 K'
      have fin : ∀ (H1 : Heap) (locs1 : List Loc), va_P w.D kCl ((wld w.aC w.b w.base sh gi gl gr).set q (w.base + q, .inr (a, (fldv w.b w.base a gi gr (q + 1)).set b v))) H1 → va_D (fun q => w.base ≤ q) ((wld w.aC w.b w.base sh gi gl gr).set q (w.base + q, .inr (a, (fldv w.b w.base a gi gr (q + 1)).set b v))) → va_S (fun q => w.base ≤ q) s.heap H1 locs1 →
          W p l e R s m args below meth c H1 locs1 (sh.length - sh0) (sl - sl0) Q (F0 m (pc + 3) ls (r.map (cv w.b w.base))) := fun H1 locs1 hP _ hS =>
        K' H1 locs1 ls ⟨I.1.wrote hq h1 (fun _ _ => rfl) h3 (by rw [hset, cel_o (by omega)]) hP, hS, I.2.2⟩
      rcases hp with hp | ⟨hp1, hp2⟩
      · exact va_put (ref := Cn) (own := (mY mi).cls) hx M.2.1 (C.tb args) k5 (kYd a) k2 k4 M.1 C.2.1 I.1.2.1 wld_D I.2.1 q (wo (by omega) hq) hc b o2 hl hsame hp (k2 b o2) hn hf (by rw [fldv_len]; omega) hdg fin
      · by_cases hfin : (T b).2.2.2 = true
        · exact va_putF (ref := Cn) (own := (mY mi).cls) hx M.2.1 (C.tb args) k5 (kYd a) k2 k4 M.1 C.2.1 I.1.2.1 wld_D I.2.1 q (wo (by omega) hq) hc b o2 hl hsame hfin (by rw [M.2.2.2.2.2.1]; exact hp1) hp2 (k2 b o2) hn hf (by rw [fldv_len]; omega) hdg fin
        · exact va_put (ref := Cn) (own := (mY mi).cls) hx M.2.1 (C.tb args) k5 (kYd a) k2 k4 M.1 C.2.1 I.1.2.1 wld_D I.2.1 q (wo (by omega) hq) hc b o2 hl hsame (by simpa using hfin) (k2 b o2) hn hf (by rw [fldv_len]; omega) hdg fin
    unfold s_put at h
    split at h
    · rename_i v q r
      split at h
      · rename_i x n hq
        split at h
        · rename_i hcs
          obtain ⟨rfl, hcs⟩ := hcs
          obtain rfl := go_inv h
          obtain ⟨q, rfl⟩ := ne0 I.1 hq (by omega)
          have hk2 : (kKd x).getD b 0 ≠ 2 := by rw [← o4]; rcases hcs with q | q <;> omega
          refine main q n (.int v) _ gr r hq ?_ ?_ (fldv_setI _ _ _ _ (by omega) hk2 v) (u2_ne gi b v) (fun _ _ => rfl) K
          · rcases hcs with hz | ⟨hz, hB⟩
            · rw [hz] at hk3
              revert hk3
              cases kYd x b <;> intro hk3 <;> first | rfl | (simp [kty] at hk3)
            · rw [hz] at hk3
              revert hk3
              cases kYd x b <;> intro hk3 <;> first | exact isB_nar hB | (simp [kty] at hk3)
          · rcases hcs with hz | ⟨hz, hB⟩
            · rw [hz] at hk3
              revert hk3
              cases kYd x b <;> intro hk3 <;> first | rfl | (simp [kty] at hk3)
            · rw [hz] at hk3
              revert hk3
              cases kYd x b <;> intro hk3 <;> first | exact isB_fits hB | (simp [kty] at hk3)
        · cases h
      · cases h
    · rename_i v q r
      split at h
      · rename_i x n hq
        split at h
        · rename_i hcs
          obtain ⟨rfl, hcs⟩ := hcs
          obtain rfl := go_inv h
          obtain ⟨q, rfl⟩ := ne0 I.1 hq (by omega)
          have hk2 : (kKd x).getD b 0 = 2 := by rw [← o4]; exact hcs
          refine main q n (.ref (ad w.b w.base v)) gi _ r hq ?_ ?_ (fldv_setR _ _ _ _ (by omega) hk2 v) (fun _ _ => rfl) (u2_ne gr b (some v)) K
          · rw [hcs] at hk3
            revert hk3
            cases kYd x b <;> intro hk3 <;> first | rfl | (simp [kty] at hk3)
          · rw [hcs] at hk3
            revert hk3
            cases kYd x b <;> intro hk3 <;> first | rfl | (simp [kty] at hk3)
        · cases h
      · cases h
    · cases h
  · cases ho
theorem so_iald (B : Bx p l R s m meth c w mi sh0 sl0) (hdg : decode (mB mi) pc = .ok (.iaload, 1)) (h : s_iald mi pc lc st sh gi gl gr sl 100 = some y) (I : In w s sh0 sl0 mi lc (sh, gi, gl, gr) sl H locs ls) (K : KK p l e R s m args below meth c w sh0 sl0 Q (mi, y)) : W p l e R s m args below meth c H locs (sh.length - sh0) (sl - sl0) Q (F0 m pc ls (st.map (cv w.b w.base))) := by
  obtain ⟨hx, -, C, M, -, -, -⟩ := B
  unfold s_iald at h
  split at h
  · rename_i i q r
    obtain ⟨n, hq, hin, h⟩ := ldI_inv h
    obtain rfl := go_inv h
    cases q with
    | zero =>
      have e9 := hq
      rw [I.1.2.2.1] at e9
      have e2 : w.L = n := (Prod.mk.inj (Option.some.inj e9)).2
      subst e2
      have hlt : i.toNatClampNeg < w.L := Nat.not_le.mp fun q => hin (Or.inr q)
      have e3 : gi 0 i.toNatClampNeg = w.xs i.toNatClampNeg := I.1.2.2.2 _ hlt
      have this : W p l e R s m args below meth c H locs (sh.length - sh0) (sl - sl0) Q (F0 m (pc + 1) ls (.int (gi 0 i.toNatClampNeg) :: r.map (cv w.b w.base))) := K H locs ls I
      rw [e3] at this
      exact va_sld hx M.2.1 C.2.2.1 (Nat.lt_of_lt_of_le C.2.2.2.1 C.2.2.2.2.1) (Nat.not_le.mpr C.2.2.2.1) I.2.1 hin hdg this
    | succ q => exact va_iald hx M.2.1 C.2.1 I.1.2.1 q 0 (wi hq) (tyl0 _) hin hdg (K H locs ls I)
  · cases h
theorem so_zald (B : Bx p l R s m meth c w mi sh0 sl0) (hdg : decode (mB mi) pc = .ok (.baload, 1)) (h : s_iald mi pc lc st sh gi gl gr sl 101 = some y) (I : In w s sh0 sl0 mi lc (sh, gi, gl, gr) sl H locs ls) (K : KK p l e R s m args below meth c w sh0 sl0 Q (mi, y)) : W p l e R s m args below meth c H locs (sh.length - sh0) (sl - sl0) Q (F0 m pc ls (st.map (cv w.b w.base))) := by
  obtain ⟨hx, -, C, M, -, -, -⟩ := B
  unfold s_iald at h
  split at h
  · rename_i i q r
    obtain ⟨n, hq, hin, h⟩ := ldI_inv h
    obtain rfl := go_inv h
    obtain ⟨q, rfl⟩ := ne0 I.1 hq (by omega)
    exact va_zald hx M.2.1 C.2.1 I.1.2.1 q 1 (wz hq) (tyl1 _) hin hdg (K H locs ls I)
  · cases h
theorem so_lald (B : Bx p l R s m meth c w mi sh0 sl0) (hdg : decode (mB mi) pc = .ok (.laload, 1)) (h : s_lald mi pc lc st sh gi gl gr sl = some y) (I : In w s sh0 sl0 mi lc (sh, gi, gl, gr) sl H locs ls) (K : KK p l e R s m args below meth c w sh0 sl0 Q (mi, y)) : W p l e R s m args below meth c H locs (sh.length - sh0) (sl - sl0) Q (F0 m pc ls (st.map (cv w.b w.base))) := by
  obtain ⟨hx, -, C, M, -, -, -⟩ := B
  unfold s_lald at h
  split at h
  · rename_i i q r
    obtain ⟨n, hq, hin, h⟩ := ldI_inv h
    obtain rfl := go_inv h
    obtain ⟨q, rfl⟩ := ne0 I.1 hq (by omega)
    exact va_lald hx M.2.1 C.2.1 I.1.2.1 q 2 (wl hq) (tyl2 _) hin hdg (K H locs ls I)
  · cases h
theorem so_aald (B : Bx p l R s m meth c w mi sh0 sl0) (hdg : decode (mB mi) pc = .ok (.aaload, 1)) (h : s_aald mi pc lc st sh gi gl gr sl = some y) (I : In w s sh0 sl0 mi lc (sh, gi, gl, gr) sl H locs ls) (K : KK p l e R s m args below meth c w sh0 sl0 Q (mi, y)) : W p l e R s m args below meth c H locs (sh.length - sh0) (sl - sl0) Q (F0 m pc ls (st.map (cv w.b w.base))) := by
  obtain ⟨hx, -, C, M, -, -, -⟩ := B
  unfold s_aald at h
  split at h
  · rename_i i q r
    split at h
    · rename_i x n' hq0
      split at h
      · rename_i hx3
        obtain ⟨hx3, h9⟩ := hx3
        obtain ⟨n, hq, hin, h⟩ := ldI_inv h
        obtain rfl := go_inv h
        obtain ⟨q, rfl⟩ := ne0 I.1 hq (by omega)
        obtain ⟨j, rfl⟩ : ∃ j, x = 103 + j := ⟨x - 103, by omega⟩
        have hj : j < arN.length := by
          show j < 3
          omega
        have hw := wr (gi := gi) (gl := gl) (gr := gr) (b := w.b) (base := w.base) (aC := w.aC) hx3 hq
        rw [show 103 + j - 100 = 3 + j by omega] at hw
        have := K H locs ls I
        simp only [List.map_cons, cv_rf] at this
        exact va_aldq hx M.2.1 C.2.1 I.1.2.1 q (3 + j) hw (tyl3 _ hj) hin hdg this
      · cases h
    · cases h
  · cases h
theorem so_iast (B : Bx p l R s m meth c w mi sh0 sl0) (hdg : decode (mB mi) pc = .ok (.iastore, 1)) (h : s_iast mi pc lc st sh gi gl gr sl 100 = some y) (I : In w s sh0 sl0 mi lc (sh, gi, gl, gr) sl H locs ls) (K : KK p l e R s m args below meth c w sh0 sl0 Q (mi, y)) : W p l e R s m args below meth c H locs (sh.length - sh0) (sl - sl0) Q (F0 m pc ls (st.map (cv w.b w.base))) := by
  obtain ⟨hx, -, C, M, -, -, -⟩ := B
  unfold s_iast at h
  split at h
  · rename_i v i q r
    split at h
    · cases h
    · rename_i hc
      obtain ⟨n, hq, hin, h⟩ := ldI_inv h
      obtain rfl := go_inv h
      cases q with
      | zero => exact absurd (Or.inl rfl) hc
      | succ q =>
        refine va_iast hx M.2.1 C.2.1 I.1.2.1 wld_D I.2.1 q 0 (wi hq) (tyl0 _) hin hdg (fun H1 locs1 hP _ hS => K H1 locs1 ls ⟨I.1.wrote hq (u2_ne gi _ v) (fun _ _ => rfl) (fun _ _ => rfl) ?_ hP, hS, I.2.2⟩)
        rw [upd_u2]
        rfl
  · cases h
theorem so_zast (B : Bx p l R s m meth c w mi sh0 sl0) (hdg : decode (mB mi) pc = .ok (.bastore, 1)) (h : s_iast mi pc lc st sh gi gl gr sl 101 = some y) (I : In w s sh0 sl0 mi lc (sh, gi, gl, gr) sl H locs ls) (K : KK p l e R s m args below meth c w sh0 sl0 Q (mi, y)) : W p l e R s m args below meth c H locs (sh.length - sh0) (sl - sl0) Q (F0 m pc ls (st.map (cv w.b w.base))) := by
  obtain ⟨hx, -, C, M, -, -, -⟩ := B
  unfold s_iast at h
  split at h
  · rename_i v i q r
    split at h
    · cases h
    · rename_i hc
      obtain ⟨n, hq, hin, h⟩ := ldI_inv h
      obtain rfl := go_inv h
      obtain ⟨q, rfl⟩ := ne0 I.1 hq (by omega)
      have hB : isB v = true := by
        cases hb : isB v
        · exact absurd (Or.inr ⟨rfl, hb⟩) hc
        · rfl
      refine va_zast hx M.2.1 C.2.1 I.1.2.1 wld_D I.2.1 q 1 (wz hq) (tyl1 _) hin hdg (fun H1 locs1 hP _ hS => K H1 locs1 ls ⟨I.1.wrote hq (u2_ne gi _ v) (fun _ _ => rfl) (fun _ _ => rfl) ?_ hP, hS, I.2.2⟩)
      rw [isB_vp hB, upd_u2]
      rfl
  · cases h
theorem so_last (B : Bx p l R s m meth c w mi sh0 sl0) (hdg : decode (mB mi) pc = .ok (.lastore, 1)) (h : s_last mi pc lc st sh gi gl gr sl = some y) (I : In w s sh0 sl0 mi lc (sh, gi, gl, gr) sl H locs ls) (K : KK p l e R s m args below meth c w sh0 sl0 Q (mi, y)) : W p l e R s m args below meth c H locs (sh.length - sh0) (sl - sl0) Q (F0 m pc ls (st.map (cv w.b w.base))) := by
  obtain ⟨hx, -, C, M, -, -, -⟩ := B
  unfold s_last at h
  split at h
  · rename_i v i q r
    split at h
    · cases h
    · rename_i hc
      obtain ⟨n, hq, hin, h⟩ := ldI_inv h
      obtain rfl := go_inv h
      obtain ⟨q, rfl⟩ := ne0 I.1 hq (by omega)
      refine va_last hx M.2.1 C.2.1 I.1.2.1 wld_D I.2.1 q 2 (wl hq) (tyl2 _) hin hdg (fun H1 locs1 hP _ hS => K H1 locs1 ls ⟨I.1.wrote hq (fun _ _ => rfl) (u2_ne gl _ v) (fun _ _ => rfl) ?_ hP, hS, I.2.2⟩)
      rw [updL_u2]
      rfl
  · cases h
theorem so_aast (hE : ∀ j, j < arN.length → elc (103 + j) < 10 ∧ ∃ r, kCl[elc (103 + j)]? = some r ∧ r.1 = arN.getD j "") (B : Bx p l R s m meth c w mi sh0 sl0) (hdg : decode (mB mi) pc = .ok (.aastore, 1)) (h : s_aast mi pc lc st sh gi gl gr sl = some y) (I : In w s sh0 sl0 mi lc (sh, gi, gl, gr) sl H locs ls) (K : KK p l e R s m args below meth c w sh0 sl0 Q (mi, y)) : W p l e R s m args below meth c H locs (sh.length - sh0) (sl - sl0) Q (F0 m pc ls (st.map (cv w.b w.base))) := by
  obtain ⟨hx, -, C, M, -, -, -⟩ := B
  unfold s_aast at h
  split at h
  · rename_i v i q r
    split at h
    · rename_i x n1 z n2 hq0 hv
      split at h
      · rename_i hcs
        obtain ⟨hx3, h9, hz⟩ := hcs
        obtain ⟨n, hq, hin, h⟩ := ldI_inv h
        obtain rfl := go_inv h
        obtain ⟨q, rfl⟩ := ne0 I.1 hq (by omega)
        obtain ⟨j, rfl⟩ : ∃ j, x = 103 + j := ⟨x - 103, by omega⟩
        have hj : j < arN.length := by
          show j < 3
          omega
        obtain ⟨e1, rc, e2, e3⟩ := hE j hj
        subst hz
        obtain ⟨v, rfl⟩ := ne0 I.1 hv (by omega)
        have hw := wr (gi := gi) (gl := gl) (gr := gr) (b := w.b) (base := w.base) (aC := w.aC) hx3 hq
        rw [show 103 + j - 100 = 3 + j by omega] at hw
        have ht := tyl3 w.aC hj
        rw [← e3] at ht
        refine va_astq hx M.2.1 C.2.1 I.1.2.1 wld_D I.2.1 q (3 + j) v (elc (103 + j)) hw ht (wo (by omega) hv) e2 hin hdg (fun H1 locs1 hP _ hS => K H1 locs1 ls ⟨I.1.wrote hq (fun _ _ => rfl) (fun _ _ => rfl) (u2_ne gr _ (some (v + 1))) ?_ hP, hS, I.2.2⟩)
        rw [cel_r hx3, show 103 + j - 100 = 3 + j by omega]
        exact congrArg (fun z => (Sum.inl (w.aC (3 + j), n, Sum.inr (Sum.inr (Sum.inr (Sum.inr z)))) : va_E)) (va_up_u2 gr (ad w.b w.base) (q + 1) i.toNatClampNeg (v + 1))
      · cases h
    · cases h
  · cases h
theorem so_len (B : Bx p l R s m meth c w mi sh0 sl0) (hdg : decode (mB mi) pc = .ok (.arraylength, 1)) (h : s_len mi pc lc st sh gi gl gr sl = some y) (I : In w s sh0 sl0 mi lc (sh, gi, gl, gr) sl H locs ls) (K : KK p l e R s m args below meth c w sh0 sl0 Q (mi, y)) : W p l e R s m args below meth c H locs (sh.length - sh0) (sl - sl0) Q (F0 m pc ls (st.map (cv w.b w.base))) := by
  obtain ⟨hx, -, C, M, -, -, -⟩ := B
  unfold s_len at h
  split at h
  · rename_i q r
    split at h
    · rename_i x n hq
      split at h
      · rename_i hx1
        obtain ⟨hx1, h9⟩ := hx1
        obtain rfl := go_inv h
        cases q with
        | zero =>
          have e := hq
          rw [I.1.2.2.1] at e
          have e2 : w.L = n := (Prod.mk.inj (Option.some.inj e)).2
          subst e2
          exact va_slen hx M.2.1 C.2.2.1 (Nat.lt_of_lt_of_le C.2.2.2.1 C.2.2.2.2.1) (Nat.not_le.mpr C.2.2.2.1) I.2.1 hdg (K H locs ls I)
        | succ q =>
          by_cases h0 : x = 100
          · subst h0
            exact va_alen hx M.2.1 C.2.1 I.1.2.1 q 0 (wi hq) (tyl0 _) rfl hdg (K H locs ls I)
          · by_cases h1 : x = 101
            · subst h1
              exact va_alen hx M.2.1 C.2.1 I.1.2.1 q 1 (wz hq) (tyl1 _) rfl hdg (K H locs ls I)
            · by_cases h2 : x = 102
              · subst h2
                exact va_alen hx M.2.1 C.2.1 I.1.2.1 q 2 (wl hq) (tyl2 _) rfl hdg (K H locs ls I)
              · have hx3 : 103 ≤ x := by omega
                obtain ⟨j, rfl⟩ : ∃ j, x = 103 + j := ⟨x - 103, by omega⟩
                have hj : j < arN.length := by
                  show j < 3
                  omega
                have hw := wr (gi := gi) (gl := gl) (gr := gr) (b := w.b) (base := w.base) (aC := w.aC) hx3 hq
                rw [show 103 + j - 100 = 3 + j by omega] at hw
                exact va_alen hx M.2.1 C.2.1 I.1.2.1 q (3 + j) hw (tyl3 _ hj) rfl hdg (K H locs ls I)
      · cases h
    · cases h
  · cases h
theorem ad_pos {b base k : Nat} (h : 0 < k) : ad b base k = base + (k - 1) := by
  cases k with
  | zero => omega
  | succ k => rfl
theorem In.grew {gi' : Nat → Nat → Int32} {gl' : Nat → Nat → Int64} {gr' : Nat → Nat → Option Nat} {H1 : Heap} {z : Nat × Nat} {n : Nat} (I : In w s sh0 sl0 mi lc (sh, gi, gl, gr) sl H locs ls) (hz : H.size = w.base + (sh.length - 1)) (z1 : H1.size = H.size + 1) (o1 : ∀ q, q < H.size → H1[q]? = H[q]?)
    (e1 : ∀ k, k ≠ sh.length → gi' k = gi k) (e2 : ∀ k, k ≠ sh.length → gl' k = gl k) (e3 : ∀ k, k ≠ sh.length → gr' k = gr k) (hat : va_at w.D kCl (w.base + (sh.length - 1), cel w.aC w.b w.base gi' gl' gr' sh.length z) H1) (hb : sh.length ≤ mxC) (hs : sl + n ≤ mxS) :
    In w s sh0 sl0 mi lc (sh ++ [z], gi', gl', gr') (sl + n) H1 locs ls := by
  obtain ⟨⟨r0, r1, r2, r3⟩, hS, hl, b1, b2, b3, b4⟩ := I
  have r0' : 0 < sh.length := r0
  have b1' : sh0 ≤ sh.length := b1
  refine ⟨⟨by simp, ?_, ?_, fun j hj => ?_⟩, ⟨Nat.le_trans hS.1 (by omega), fun x h1 h2 => (o1 x (Nat.lt_of_lt_of_le h1 hS.1)).trans (hS.2.1 x h1 h2), hS.2.2⟩, hl, by simp; omega, by simp; omega, by omega, hs⟩
  · show va_P w.D kCl (wld w.aC w.b w.base (sh ++ [z]) gi' gl' gr') H1
    rw [wld_app r0' e1 e2 e3]
    refine va_P.app (va_P.kept r1 (fun k x hx => o1 x.1 ((r1 k x hx).lt))) (fun k x hx => ?_)
    have hk : k < 1 := (List.getElem?_eq_some_iff.mp hx).1
    rw [show k = 0 by omega] at hx
    cases hx
    exact hat
  · show (sh ++ [z])[0]? = _
    rw [List.getElem?_append_left r0']
    exact r2
  · show gi' 0 j = _
    rw [e1 0 (by omega)]
    exact r3 j hj
theorem KK.grown {pc' n : Nat} {z : Nat × Nat} {gi' : Nat → Nat → Int32} {gl' : Nat → Nat → Int64} {gr' : Nat → Nat → Option Nat} {H1 : Heap} {r : List Value} (K : KK p l e R s m args below meth c w sh0 sl0 Q (mi, pc', lc, .ref sh.length :: r, (sh ++ [z], gi', gl', gr'), sl + n)) (h0 : 0 < sh.length) (h1 : sh0 ≤ sh.length) (h2 : sl0 ≤ sl)
    (I : In w s sh0 sl0 mi lc (sh ++ [z], gi', gl', gr') (sl + n) H1 locs ls) : W p l e R s m args below meth c H1 locs (sh.length - sh0 + 1) (sl - sl0 + n) Q (F0 m pc' ls (.ref (w.base + (sh.length - 1)) :: r.map (cv w.b w.base))) := by
  have k := K H1 locs ls I
  have e1 : (sh ++ [z]).length - sh0 = sh.length - sh0 + 1 := by simp; omega
  have e2 : sl + n - sl0 = sl - sl0 + n := by omega
  simp only [List.map_cons, e1, e2, cv, ad_pos h0] at k
  exact k
def okN (mi ix a b p : Nat) : Bool := match kCl[a]? with
  | some (C, _, N) => decide (a < 10) && decide (b = N) && wAt p (.classLink (mY mi).cls ix C)
  | none => false
theorem so_new {ix a b z : Nat} (hK9 : ∀ x, x < 10 → okK x = true) (B : Bx p l R s m meth c w mi sh0 sl0) (hdg : decode (mB mi) pc = .ok (.new ix, 3)) (ho : okN mi ix a b z = true) (h : s_new a b mi pc lc st sh gi gl gr sl = some y) (I : In w s sh0 sl0 mi lc (sh, gi, gl, gr) sl H locs ls) (K : KK p l e R s m args below meth c w sh0 sl0 Q (mi, y)) : W p l e R s m args below meth c H locs (sh.length - sh0) (sl - sl0) Q (F0 m pc ls (st.map (cv w.b w.base))) := by
  refine W.sized fun hsz => ?_
  have hz := In.size B I hsz
  obtain ⟨hx, -, C, M, Rm, -, -⟩ := B
  unfold okN at ho
  split at ho
  · rename_i Cn T N hc
    simp only [Bool.and_eq_true, decide_eq_true_eq] at ho
    obtain ⟨⟨o1, rfl⟩, o3⟩ := ho
    obtain ⟨k1, k2, k3, k4, k5, k6, k7⟩ := okK_spec hc (hK9 a o1)
    unfold s_new at h
    split at h
    · cases h
    · rename_i hcs
      obtain rfl := go_inv h
      have hcs1 : sh.length ≤ mxC := by omega
      have hcs2 : sl + b ≤ mxS := by omega
      have r0 : 0 < sh.length := I.1.1
      have b1 : sh0 ≤ sh.length := I.2.2.2.1
      have b3 : sl0 ≤ sl := I.2.2.2.2.2.1
      have hKn := C.2.1.1 a _ hc
      refine W.newcK hx M.2.1 M.1 (C.wd o3 rfl args) (C.wd k6 rfl args) (C.wd k7 rfl args) rfl hdg (by have := Rm.2.2.1; omega) (by have := Rm.2.2.2; omega) hKn.2.1 hz fun H1 kC hkC e1 z1 o9 => ?_
      refine K.grown r0 b1 b3 (I.grew hz (by rw [z1, hz]) (fun q hq => o9 q (by rw [← hz]; exact hq)) (rw0_ne gi 0) (rw0_ne gl 0) (rw0_ne gr none) ?_ hcs1 hcs2)
      rw [cel_o (by omega)]
      refine ⟨_, hc, (u_born (kYd a) (C.tb args) k5 hKn hkC e1 k2).to fun j hj => ?_⟩
      have hj' : j < b := hj
      have h9 := fldv_get (gi := rw0 gi sh.length 0) (gr := rw0 gr sh.length none) w.b w.base a sh.length (j := j) (by omega)
      have h8 := k3 j hj'
      unfold vp_V
      rw [List.getD_eq_getElem?_getD, h9, def_kty _ h8.2, h8.1, rw0_eq, rw0_eq]
      rfl
  · cases ho
theorem so_newa {t : ArrayType} {a : Nat} (ht : newarray.typeOf t = (match a with | 0 => FieldType.int | 1 => .boolean | _ => .long)) (ha : a < 3) (hwd : ∀ x, x ∈ [FieldType.int, .boolean, .long] → Cond.arrayClass x ∈ lw_tbl) (B : Bx p l R s m meth c w mi sh0 sl0) (hdg : decode (mB mi) pc = .ok (.newarray t, 2)) (h : s_newa 2 a mi pc lc st sh gi gl gr sl = some y) (I : In w s sh0 sl0 mi lc (sh, gi, gl, gr) sl H locs ls) (K : KK p l e R s m args below meth c w sh0 sl0 Q (mi, y)) : W p l e R s m args below meth c H locs (sh.length - sh0) (sl - sl0) Q (F0 m pc ls (st.map (cv w.b w.base))) := by
  refine W.sized fun hsz => ?_
  have hz := In.size B I hsz
  obtain ⟨hx, -, C, M, Rm, -, -⟩ := B
  unfold s_newa at h
  split at h
  · rename_i n r
    split at h
    · cases h
    · rename_i hcs
      obtain rfl := go_inv h
      simp only [not_or, Nat.not_lt] at hcs
      obtain ⟨hn, hcs1, hcs2, hcs3⟩ := hcs
      have r0 : 0 < sh.length := I.1.1
      have b1 : sh0 ≤ sh.length := I.2.2.2.1
      have b3 : sl0 ≤ sl := I.2.2.2.2.2.1
      have hmem : Cond.arrayClass (newarray.typeOf t) ∈ lw_tbl := by
        refine hwd _ ?_
        rw [ht]
        obtain rfl | rfl | rfl : a = 0 ∨ a = 1 ∨ a = 2 := by omega
        · exact List.mem_cons_self
        · exact List.mem_cons_of_mem _ List.mem_cons_self
        · exact List.mem_cons_of_mem _ (List.mem_cons_of_mem _ List.mem_cons_self)
      have hcb : componentBytes (newarray.typeOf t) ≤ 8 := by cases t <;> decide
      refine va_newaK hx M.2.1 (C.1 _ hmem rfl args) rfl hdg rfl hn rfl (Nat.le_trans (Nat.mul_le_mul hcs3 hcb) (by decide)) (by have := Rm.2.2.1; omega) (by have := Rm.2.2.2; omega) hz fun H1 cA e1 z1 o9 hAr hNm => ?_
      refine K.grown r0 b1 b3 (I.grew hz (by rw [z1, hz]) (fun q hq => o9 q (by rw [← hz]; exact hq)) (rw0_ne gi 0) (rw0_ne gl 0) (rw0_ne gr none) ?_ hcs1 hcs2)
      have hid : cA = w.aC a := by
        obtain rfl | rfl | rfl : a = 0 ∨ a = 1 ∨ a = 2 := by omega
        · have h9 : s.vm.findClass ("[" ++ FieldType.int.toString) = some (w.aC 0) := (C.2.1.2 0 _ (tyl0 _)).2
          rw [ht] at hNm
          exact Option.some.inj (hNm.symm.trans h9)
        · have h9 : s.vm.findClass ("[" ++ FieldType.boolean.toString) = some (w.aC 1) := (C.2.1.2 1 _ (tyl1 _)).2
          rw [ht] at hNm
          exact Option.some.inj (hNm.symm.trans h9)
        · have h9 : s.vm.findClass ("[" ++ FieldType.long.toString) = some (w.aC 2) := (C.2.1.2 2 _ (tyl2 _)).2
          rw [ht] at hNm
          exact Option.some.inj (hNm.symm.trans h9)
      rw [ht] at e1
      subst hid
      obtain rfl | rfl | rfl : a = 0 ∨ a = 1 ∨ a = 2 := by omega
      · show H1[w.base + (sh.length - 1)]? = some (vp_cell (w.aC 0) (n.toNatClampNeg, .inl (rw0 gi sh.length 0 sh.length)))
        rw [rw0_eq]
        exact e1
      · show H1[w.base + (sh.length - 1)]? = some (vp_cell (w.aC 1) (n.toNatClampNeg, .inl (rw0 gi sh.length 0 sh.length)))
        rw [rw0_eq]
        exact e1
      · show H1[w.base + (sh.length - 1)]? = some (vp_cell (w.aC 2) (n.toNatClampNeg, .inr (.inl (rw0 gl sh.length 0 sh.length))))
        rw [rw0_eq]
        exact e1
  · cases h
theorem so_anew {ix j z z2 : Nat} (hj : j < arN.length) (hw1 : wAt z (.classLink (mY mi).cls ix (arN.getD j "")) = true) (hw2 : wAt z2 (.arrayOver (.object (arN.getD j ""))) = true) (B : Bx p l R s m meth c w mi sh0 sl0) (hdg : decode (mB mi) pc = .ok (.anewarray ix, 3)) (h : s_newa 3 (3 + j) mi pc lc st sh gi gl gr sl = some y) (I : In w s sh0 sl0 mi lc (sh, gi, gl, gr) sl H locs ls) (K : KK p l e R s m args below meth c w sh0 sl0 Q (mi, y)) : W p l e R s m args below meth c H locs (sh.length - sh0) (sl - sl0) Q (F0 m pc ls (st.map (cv w.b w.base))) := by
  refine W.sized fun hsz => ?_
  have hz := In.size B I hsz
  obtain ⟨hx, -, C, M, Rm, -, -⟩ := B
  unfold s_newa at h
  split at h
  · rename_i n r
    split at h
    · cases h
    · rename_i hcs
      obtain rfl := go_inv h
      simp only [not_or, Nat.not_lt] at hcs
      obtain ⟨hn, hcs1, hcs2, hcs3⟩ := hcs
      have r0 : 0 < sh.length := I.1.1
      have b1 : sh0 ≤ sh.length := I.2.2.2.1
      have b3 : sl0 ≤ sl := I.2.2.2.2.2.1
      refine W.anew hx M.2.1 M.1 (C.wd hw1 rfl args) (C.wd hw2 rfl args) rfl hdg rfl hn (by omega) (by have := Rm.2.2.1; omega) (by have := Rm.2.2.2; omega) fun cA kA comp f1 f2 f3 f4 => ?_
      generalize hH1 : H.push ({ cls := cA, slots := Array.replicate n.toNatClampNeg .null, vm := .none } : Cell) = H1
      have z1 : H1.size = H.size + 1 := by rw [← hH1, Array.size_push]
      have e1 : H1[H.size]? = some (arrV cA n.toNatClampNeg (fun _ => .null)) := by rw [← hH1, Array.getElem?_push_size, ← arrV_new]
      have o1 : ∀ q : Nat, q < H.size → H1[q]? = H[q]? := fun q hq => by rw [← hH1, Array.getElem?_push, if_neg (Nat.ne_of_lt hq)]
      rw [hz] at e1
      show W p l e R s m args below meth c H1 locs (sh.length - sh0 + 1) (sl - sl0 + n.toNatClampNeg) Q (F0 m (pc + 3) ls (.ref H.size :: r.map (cv w.b w.base)))
      rw [hz]
      refine K.grown r0 b1 b3 (I.grew hz z1 o1 (rw0_ne gi 0) (rw0_ne gl 0) (rw0_ne gr none) ?_ hcs1 hcs2)
      have hid : cA = w.aC (3 + j) := by
        obtain ⟨_, _, -, -, -, h9⟩ := (C.2.1.2 (3 + j) _ (tyl3 _ hj)).2
        exact Option.some.inj (f1.symm.trans h9)
      subst hid
      rw [show 100 + (3 + j) = 103 + j by omega, cel_r (by omega), show 103 + j - 100 = 3 + j by omega, rw0_eq]
      exact e1
  · cases h
theorem so_obj {ix z : Nat} (hw1 : wAt z (.methodLink (mY mi).cls ix Lib.objectInit) = true) (hi : wAt (bP.getD 0 0) (.instanceMethod Lib.objectInit) = true) (hc : wAt (bP.getD 1 0) (.code Lib.objectInit ⟨#[0xb1]⟩ 1 none) = true) (hf : 1 ≤ nF mi) (hl : 20 ≤ nW mi) (B : Bx p l R s m meth c w mi sh0 sl0) (hdg : decode (mB mi) pc = .ok (.invokespecial ix, 3)) (h : s_obj mi pc lc st sh gi gl gr sl = some y) (I : In w s sh0 sl0 mi lc (sh, gi, gl, gr) sl H locs ls) (K : KK p l e R s m args below meth c w sh0 sl0 Q (mi, y)) : W p l e R s m args below meth c H locs (sh.length - sh0) (sl - sl0) Q (F0 m pc ls (st.map (cv w.b w.base))) := by
  obtain ⟨hx, -, C, M, Rm, -, -⟩ := B
  unfold s_obj at h
  split at h
  · rename_i q r
    split at h
    · cases h
    · rename_i hcs
      obtain rfl := go_inv h
      refine W.objInit hx M.2.1 M.1 (C.wd hw1 rfl args) (C.wd hi rfl args) (C.wd hc rfl args) rfl (by rw [M.2.2.1]; exact I.2.2.1.1) rfl hdg (Nat.le_trans hf Rm.1) ?_ (K H locs ls I)
      have h1 := Rm.2.1
      have h2 := cv_sum w.b w.base r
      show 2 * 0 + ((r.map (cv w.b w.base)).map fun v => v.category).sum + 12 ≤ R.locals
      omega
  · cases h
theorem so_min {ix z : Nat} (hw1 : wAt z (.methodLink (mY mi).cls ix Lib.Math.min.name) = true) (hi : wAt (bP.getD 2 0) (.static Lib.Math.min.name) = true) (hi2 : wAt (bP.getD 3 0) (.initialized "java/lang/Math") = true) (hc : wAt (bP.getD 4 0) (.code Lib.Math.min.name Lib.Math.min.code 2 (some .int)) = true) (hf : 1 ≤ nF mi) (hl : 21 ≤ nW mi) (B : Bx p l R s m meth c w mi sh0 sl0) (hdg : decode (mB mi) pc = .ok (.invokestatic ix, 3)) (h : s_min mi pc lc st sh gi gl gr sl = some y) (I : In w s sh0 sl0 mi lc (sh, gi, gl, gr) sl H locs ls) (K : KK p l e R s m args below meth c w sh0 sl0 Q (mi, y)) : W p l e R s m args below meth c H locs (sh.length - sh0) (sl - sl0) Q (F0 m pc ls (st.map (cv w.b w.base))) := by
  obtain ⟨hx, -, C, M, Rm, -, -⟩ := B
  unfold s_min at h
  split at h
  · rename_i v2 v1 r
    split at h
    · cases h
    · rename_i hcs
      obtain rfl := go_inv h
      have h1 := Rm.2.1
      have h2 := cv_sum w.b w.base r
      have h3 : sh0 ≤ sh.length := I.2.2.2.1
      have h4 : sh.length ≤ mxC + 1 := I.2.2.2.2.1
      have h5 : sl0 ≤ sl := I.2.2.2.2.2.1
      have h6 : sl ≤ mxS := I.2.2.2.2.2.2
      exact va_mmin hx M.2.1 (by rw [M.2.2.1]; exact I.2.2.1.1.symm) M.1 (C.wd hw1 rfl args) (C.wd hi rfl args) (C.wd hi2 rfl args) (C.wd hc rfl args) (Nat.le_trans hf Rm.1) (by omega) (by have := Rm.2.2.1; omega) (by have := Rm.2.2.2; omega) hdg (K H locs ls I)
  · cases h
theorem so_copy {ix z : Nat} (hw1 : wAt z (.methodLink (mY mi).cls ix arraycopyName) = true) (hi : wAt (bP.getD 5 0) (.native arraycopyName) = true) (hi1 : wAt (bP.getD 6 0) (.static arraycopyName) = true) (hi2 : wAt (bP.getD 7 0) (.initialized "java/lang/System") = true) (hf : 1 ≤ nF mi) (hl : 8 + (nativeFrameWords "java/lang/System" "arraycopy" 5 + 11) ≤ nW mi) (B : Bx p l R s m meth c w mi sh0 sl0) (hdg : decode (mB mi) pc = .ok (.invokestatic ix, 3)) (h : s_copy mi pc lc st sh gi gl gr sl = some y) (I : In w s sh0 sl0 mi lc (sh, gi, gl, gr) sl H locs ls) (K : KK p l e R s m args below meth c w sh0 sl0 Q (mi, y)) : W p l e R s m args below meth c H locs (sh.length - sh0) (sl - sl0) Q (F0 m pc ls (st.map (cv w.b w.base))) := by
  obtain ⟨hx, -, C, M, Rm, -, -⟩ := B
  unfold s_copy at h
  split at h
  · rename_i n dp q' sp q r
    split at h
    · rename_i y1 n1 y2 n2 hq hq'
      split at h
      · rename_i hcs
        obtain ⟨rfl, rfl, c1, c2, c3, c4, c5, c6, c7, c8⟩ := hcs
        obtain rfl := go_inv h
        cases q with
        | zero => exact absurd rfl c1
        | succ q =>
          cases q' with
          | zero => exact absurd rfl c2
          | succ q' =>
            have h1 := Rm.2.1
            have h2 := cv_sum w.b w.base r
            refine va_copyi hx M.2.1 (by rw [M.2.2.1]; exact I.2.2.1.1.symm) M.1 (C.wd hw1 rfl args) (C.wd hi rfl args) (C.wd hi1 rfl args) (C.wd hi2 rfl args) C.2.1 I.1.2.1 wld_D I.2.1 q q' 0 0 (wi hq) (wi hq') (tyl0 _) (tyl0 _) rfl c5 c4 c3 c6 c7 (fun _ _ => rfl) (Nat.le_trans hf Rm.1) (by omega) hdg
              (fun H1 locs1 hP _ hS => K H1 locs1 ls ⟨I.1.wrote hq' (cpy2_ne gi _ _ _ _) (fun _ _ => rfl) (fun _ _ => rfl) ?_ hP, hS, I.2.2⟩)
            rw [cpy_cpy2]
            rfl
      · cases h
    · cases h
  · cases h
end
end
section
/-! ends of a method: what it returns, what it throws; a handler of its own -/
section
variable {p : Program} {l : Launch} {e : Env} {R : Room} {s : State} {m : MethodId} {args : Array Value} {below : List Frame} {meth : Method} {c : Code} {Q : State → Prop}
variable {w : Wd} {mi sh0 sl0 pc : Nat} {lc : Lc} {st : List Value} {sh : List (Nat × Nat)} {gi : Nat → Nat → Int32} {gl : Nat → Nat → Int64} {gr : Nat → Nat → Option Nat} {sl : Nat} {H : Heap} {locs : List Loc} {ls : Array Slot} {o : Out}
theorem QQ.of (B : Bx p l R s m meth c w mi sh0 sl0) (I : In w s sh0 sl0 mi lc (sh, gi, gl, gr) sl H locs ls) (hz : H.size = w.base + (sh.length - 1)) {o : Out} (ho : o.2 = ((sh, gi, gl, gr), sl)) (hk : thk o) {t : State} (hrun : t.status = .running) (hend : Ended t below (oc w o.1)) (hW : s.WarmedH t.vm) (hH : t.heap = H) {L1 : List Loc} (hL : ∀ q ∈ L1, w.base ≤ q.base)
    (hs : s.sameButNew ({ t with vm := s.vm } : State) L1 (sh.length - sh0) (sl - sl0)) : QQ w below s sh0 sl0 o t := by
  obtain ⟨o1, o2⟩ := o
  have ho' : o2 = ((sh, gi, gl, gr), sl) := ho
  subst ho'
  refine ⟨hrun, hend, hW, by rw [hH]; exact I.1, by rw [hH]; exact hz, fun a ha => ?_, I.2.2.2.1, I.2.2.2.2.1, I.2.2.2.2.2.1, I.2.2.2.2.2.2, hk, L1, hL, hs⟩
  rw [hH]
  exact I.2.1.2.1 a (Nat.lt_of_lt_of_le ha B.2.2.1.2.2.2.2.1) (Nat.not_le.mpr ha)
theorem so_fin (B : Bx p l R s m meth c w mi sh0 sl0) (I : In w s sh0 sl0 mi lc (sh, gi, gl, gr) sl H locs ls) {v : Option Value} {g : JFrame}
    (h : W p l e R s m args below meth c H locs (sh.length - sh0) (sl - sl0) (MQ below (fun _ _ o t => o = .returned (v.map (cv w.b w.base)) ∧ t.heap = H ∧ s.WarmedH t.vm) args s (sh.length - sh0) (sl - sl0) (fun q => w.base ≤ q)) g) :
    W p l e R s m args below meth c H locs (sh.length - sh0) (sl - sl0) (QQ w below s sh0 sl0 (.inl v, (sh, gi, gl, gr), sl)) g := by
  refine W.sized fun hsz => ?_
  have hz := In.size B I hsz
  refine W.mono (fun t ht => ?_) h
  obtain ⟨o, h1, h2, ⟨rfl, h4, h5⟩, L1, h6, h7⟩ := ht
  obtain ⟨-, -, h8⟩ := h6
  exact QQ.of (o := (.inl v, (sh, gi, gl, gr), sl)) B I hz rfl trivial h1 h2 h5 h4 h7 h8
theorem so_iret (B : Bx p l R s m meth c w mi sh0 sl0) (hdg : decode (mB mi) pc = .ok (.ireturn, 1)) (h : s_iret mi st sh gi gl gr sl = some o) (I : In w s sh0 sl0 mi lc (sh, gi, gl, gr) sl H locs ls) : W p l e R s m args below meth c H locs (sh.length - sh0) (sl - sl0) (QQ w below s sh0 sl0 o) (F0 m pc ls (st.map (cv w.b w.base))) := by
  have B' := B
  obtain ⟨hx, -, C, M, -, -, -⟩ := B
  unfold s_iret at h
  split at h
  · rename_i v
    split at h
    · rename_i hc
      cases h
      refine so_fin B' I ?_
      rcases hc with hc | ⟨hc, hB⟩
      · have hr : meth.sig.returnType = some .int := by
          rw [M.2.2.2.1]
          revert hc
          unfold mZ
          cases mR mi with
          | none => intro hc; cases hc
          | some t => cases t <;> intro hc <;> first | rfl | (simp at hc)
        exact W.iret hx M.2.1 hr (fun t h1 h2 => ⟨rfl, h1, h2⟩) I.2.1.2.2 hdg M.2.2.2.2.1
      · have hr : meth.sig.returnType = some .boolean := by
          rw [M.2.2.2.1]
          revert hc
          unfold mZ
          cases mR mi with
          | none => intro hc; cases hc
          | some t => cases t <;> intro hc <;> first | rfl | (simp at hc)
        exact W.zret hx M.2.1 hr (isB_nar hB) (fun t h1 h2 => ⟨rfl, h1, h2⟩) I.2.1.2.2 hdg M.2.2.2.2.1
    · cases h
  · cases h
theorem so_vret (B : Bx p l R s m meth c w mi sh0 sl0) (hdg : decode (mB mi) pc = .ok (.return_, 1)) (h : s_vret mi st sh gi gl gr sl = some o) (I : In w s sh0 sl0 mi lc (sh, gi, gl, gr) sl H locs ls) : W p l e R s m args below meth c H locs (sh.length - sh0) (sl - sl0) (QQ w below s sh0 sl0 o) (F0 m pc ls (st.map (cv w.b w.base))) := by
  have B' := B
  obtain ⟨hx, -, C, M, -, -, -⟩ := B
  unfold s_vret at h
  split at h
  · split at h
    · rename_i hc
      cases h
      refine so_fin B' I ?_
      have hr : meth.sig.returnType = none := by
        rw [M.2.2.2.1]
        revert hc
        unfold mZ
        cases mR mi with
        | none => intro hc; rfl
        | some t => cases t <;> intro hc <;> simp at hc
      exact W.vret hx M.2.1 hr (fun t h1 h2 => ⟨rfl, h1, h2⟩) I.2.1.2.2 hdg M.2.2.2.2.1
    · cases h
  · cases h
theorem so_aret (B : Bx p l R s m meth c w mi sh0 sl0) (hdg : decode (mB mi) pc = .ok (.areturn, 1)) (h : s_aret mi st sh gi gl gr sl = some o) (I : In w s sh0 sl0 mi lc (sh, gi, gl, gr) sl H locs ls) : W p l e R s m args below meth c H locs (sh.length - sh0) (sl - sl0) (QQ w below s sh0 sl0 o) (F0 m pc ls (st.map (cv w.b w.base))) := by
  have B' := B
  obtain ⟨hx, -, C, M, -, -, -⟩ := B
  unfold s_aret at h
  split at h
  · rename_i q
    split at h
    · rename_i hc
      cases h
      refine so_fin B' I ?_
      have hr : ∃ rt, meth.sig.returnType = some rt ∧ ((∃ n, rt = .object n) ∨ ∃ t, rt = .array t) := by
        rw [M.2.2.2.1]
        revert hc
        unfold mZ
        cases mR mi with
        | none => intro hc; cases hc
        | some t => cases t <;> intro hc <;> first | exact ⟨_, rfl, Or.inl ⟨_, rfl⟩⟩ | exact ⟨_, rfl, Or.inr ⟨_, rfl⟩⟩ | (simp at hc)
      obtain ⟨rt, hr, hrt⟩ := hr
      exact W.aret hx M.2.1 hr hrt (Or.inr ⟨_, rfl⟩) (fun t h1 h2 => ⟨rfl, h1, h2⟩) I.2.1.2.2 hdg M.2.2.2.2.1
    · cases h
  · cases h
end
/-- the words of one exception's name, beside those of Throwable and of the constructors -/
def xAt (X : String) : List Cond := [.instantiable X 6, .selects X Bundle.tFill0 Bundle.tFill0, .selects X Bundle.tFill Bundle.tFill,
   .lays X Bundle.tN "cause" "Ljava/lang/Throwable;", .lays X Bundle.tN "stackTrace" Bundle.steD, .lays X Bundle.tN "suppressedExceptions" Bundle.listD, .lays X Bundle.tN "detailMessage" "Ljava/lang/String;",
   .fieldLink Bundle.tN 198 Bundle.tN "backtrace" "Ljava/lang/Object;", .lays Bundle.tN Bundle.tN "backtrace" "Ljava/lang/Object;", .lays X Bundle.tN "backtrace" "Ljava/lang/Object;"]
section
variable {p : Program} {l : Launch} {e : Env} {R : Room} {s : State} {m₀ : MethodId} {args : Array Value} {below : List Frame} {meth : Method} {c : Code} {U0 : State} {locs : List Loc} {cells slots : Nat}
set_option maxHeartbeats 1000000 in
theorem thr_ctor (X : Stand p l e R s m₀ args below meth c U0 locs cells slots) (hexec : p.tables.exec = Jvm.exec) (htr : e.platform.stackTraces = false) {own cls : String} {bytes : ByteArray} {ic n : Nat}
    (hown : s.vm.findClass own = some m₀.cls) (hcls : Bundle.fit cls = true) (hT : ∀ a ∈ Bundle.throwableAtoms, a.before args s = true) (hS : ∀ a ∈ Bundle.throwableSAtoms, a.before args s = true) (hX : ∀ a ∈ xAt cls, a.before args s = true)
    (hU : (Cond.isRef (.static Bundle.tN "UNASSIGNED_STACK" Bundle.steD)).before args s = true) (hN : (Cond.isRef (.static Bundle.tN "SUPPRESSED_SENTINEL" Bundle.listD)).before args s = true)
    (hml : (Cond.methodLink own ic (Bundle.initS cls)).before args s = true) (him : (Cond.instanceMethod (Bundle.initS cls)).before args s = true) (hco : (Cond.code (Bundle.initS cls) bytes 2 none).before args s = true)
    (hch : ∀ top : MethodId, s.methodNamed? (Bundle.initS Bundle.tN) = some top → ∃ (P1 : PassC) (Ps : List PassC), Ps.length = n ∧ P1.LinksS e.platform s ∧ (∀ P, P ∈ Ps → P.LinksS e.platform s) ∧ s.methodNamed? (Bundle.initS cls) = some P1.m ∧ P1.sup = firstOf top (Ps.map (·.toPassT)) ∧ PassesOn top (Ps.map (·.toPassT)))
    (hlocs : ∀ x ∈ locs, ∀ cell, s.heap[x.base]? = some cell → cell.vm.isStatics = false)
    {a : Addr} {cX : ClassId} {kX : Class} (hfX : s.vm.findClass cls = some cX) (hkX : s.vm.classes[cX]? = some kX) (hcell : U0.heap[a]? = some (freshCell cX kX)) (hnew : s.heap.size ≤ a)
    {msg : Value} (hmsg : msg.isRef = true) {g : JFrame} (hg : g.method = m₀) (hsize : g.locals.size = c.maxLocals) (hlocked : g.locked = none) (hentered : g.entered = []) {rest : List Value} (hstack : g.stack = msg :: .ref a :: .ref a :: rest)
    (hd6 : decode c.code g.pc = .ok (.invokespecial ic, 3)) (hd9 : decode c.code (g.pc + 3) = .ok (.athrow, 1)) (hout : ∀ x ∈ c.exceptionTable.toList, covers x (g.pc + 3) = false)
    (hRf : n + 3 < R.frames) (hRl : 2 * g.monitorRoom + ((Value.ref a :: rest).map fun v => v.category).sum + (13 * (n + 1) + 42) ≤ R.locals) (hlocks : meth.locks = false) :
    ∃ (U : State) (ce : Cell), Steps p.tables e below (U0.setTop g) U ∧ U.status = .running ∧ Ended U below (.threw a) ∧ s.WarmedH U.vm ∧ s.sameButNew ({ U with vm := s.vm } : State) locs cells slots ∧
      U.heap[a]? = some ce ∧ ce.vm = .none ∧ ce.cls = cX ∧ U.heap.size = U0.heap.size ∧ ∀ q, q ≠ a → U.heap[q]? = U0.heap[q]? := by
  have howns : e.platform.frameOwnsMonitors = true := by rw [X.admits.platform]
  have hfin : e.platform.finalization = false := by rw [X.admits.platform]
  have hpl : e.platform.magicAccessors = ({} : Platform).magicAccessors := by rw [X.admits.platform]
  have a' : ∀ x, x ∈ xAt cls → x.holds args s none s [] = true := fun x hx => hX x hx
  obtain ⟨T, Z0, L, -, Y⟩ := ThrowableC.of_atoms (args := args) howns hfin hpl hT
  obtain ⟨Z, M, LZ, LM, hnZ⟩ := Init0T.ofS_atoms (args := args) hpl L Y hS
  obtain ⟨P1, Ps, hlen, L1, hL, hP1m, hlink1, hlink⟩ := hch _ hnZ
  have hfound : s.vm.findClass cls = some P1.m.cls := findClass_of_methodNamed hP1m
  cases Option.some.inj (hfX.symm.trans hfound)
  obtain ⟨c1, kX', hc1, hk, hord, -, -, hn6⟩ := Cond.instantiable_spec (a' (.instantiable cls 6) (by simp [xAt]))
  cases Option.some.inj (hc1.symm.trans hfound)
  cases Option.some.inj (hkX.symm.trans hk)
  have hsel0 : selectMethod e.platform s.vm P1.m.cls T.fill0 = .method T.fill0 := by
    obtain ⟨c2, r2, m2, q1, q2, q3, q4, -⟩ := Cond.selects_spec (a' (.selects cls Bundle.tFill0 Bundle.tFill0) (by simp [xAt]))
    cases Option.some.inj (q1.symm.trans hfound)
    cases Option.some.inj (q2.symm.trans (State.methodFound?_of_named Y.fill0 (by decide)))
    cases Option.some.inj (q3.symm.trans Y.fill0)
    rw [Launch.admits_selectMethod X.admits]; exact q4
  have hselF : selectMethod e.platform s.vm P1.m.cls T.fill = .method T.fill := by
    obtain ⟨c2, r2, m2, q1, q2, q3, q4, -⟩ := Cond.selects_spec (a' (.selects cls Bundle.tFill Bundle.tFill) (by simp [xAt]))
    cases Option.some.inj (q1.symm.trans hfound)
    cases Option.some.inj (q2.symm.trans (State.methodFound?_of_named Y.fill (by decide)))
    cases Option.some.inj (q3.symm.trans Y.fill)
    rw [Launch.admits_selectMethod X.admits]; exact q4
  obtain ⟨cellS0, hcS0, hiss⟩ := Y.statics
  obtain ⟨u0, hu0⟩ := Cond.staticRefV Y.unassigned L.unassignedStatic L.statics hcS0 hiss hU
  obtain ⟨sen, hsen⟩ := Cond.staticRefV Y.sentinel L.sentinelStatic L.statics hcS0 hiss hN
  obtain ⟨ci198, i198, fB, hk198, hg198, ha198, hsB, -, hnB, htB, hffB⟩ := Cond.ownField (t := .object "java/lang/Object") Y.found L.cls (by decide +kernel) (a' (.fieldLink Bundle.tN 198 Bundle.tN "backtrace" "Ljava/lang/Object;") (by simp [xAt])) (a' (.lays Bundle.tN Bundle.tN "backtrace" "Ljava/lang/Object;") (by simp [xAt])) e.platform hpl
  obtain ⟨cellS, hcS', heS, -, hkeep⟩ := X.same.2.2.2.2.2 T.aS cellS0 hcS0
  have hcellS : U0.heap[T.aS]? = some cellS := hcS'
  have hout' : ∀ i, (⟨T.aS, i⟩ : Loc) ∉ locs := fun i hmem => by
    have := hlocs _ hmem cellS0 hcS0
    rw [hiss] at this; cases this
  have hknownS : cellS.vm ≠ .unknown := by
    rw [heS]; intro hu
    rw [show cellS0.vm = .unknown from hu] at hiss
    cases hiss
  have hneS : T.aS ≠ a := Nat.ne_of_lt (Nat.lt_of_lt_of_le (Array.getElem?_eq_some_iff.mp hcS0).1 hnew)
  obtain ⟨iM, hffM⟩ := Y.msg
  obtain ⟨tyC, dC, hdC, hdnC⟩ := Cond.laysAt hfound hk Y.cause (a' (.lays cls Bundle.tN "cause" "Ljava/lang/Throwable;") (by simp [xAt]))
  obtain ⟨tyS, dS, hdS, hdnS⟩ := Cond.laysAt hfound hk Y.stack (a' (.lays cls Bundle.tN "stackTrace" Bundle.steD) (by simp [xAt]))
  obtain ⟨tyP, dP, hdP, hdnP⟩ := Cond.laysAt hfound hk Y.supp (a' (.lays cls Bundle.tN "suppressedExceptions" Bundle.listD) (by simp [xAt]))
  obtain ⟨tyM, dM, hdM, hdnM⟩ := Cond.laysAt hfound hk hffM (a' (.lays cls Bundle.tN "detailMessage" "Ljava/lang/String;") (by simp [xAt]))
  obtain ⟨tyB, dB, hdB, hdnB⟩ := Cond.laysAt hfound hk hffB (a' (.lays cls Bundle.tN "backtrace" "Ljava/lang/Object;") (by simp [xAt]))
  have bC := Cond.laysApart hdB hdC hdnB hdnC (by rw [hnB, Y.causeName]; decide)
  have bS := Cond.laysApart hdB hdS hdnB hdnS (by rw [hnB, Y.stackName]; decide)
  have bP := Cond.laysApart hdB hdP hdnB hdnP (by rw [hnB, Y.suppName]; decide)
  have hskip : SkipFacts T e.platform s (fun u => u) u0 ((preparedCellV T.toThrowableT (freshCell P1.m.cls kX) a u0 sen).withEntry U0.cur) :=
    ⟨{ ci198 := ci198, i198 := i198, fBack := fB }, ⟨hk198, hg198, ha198, hsB⟩, by
      have := fresh_default (c := P1.m.cls) tyB
      rw [htB] at this
      simpa [preparedCellV, Cell.setSlot, Cell.withEntry, Array.getElem?_setIfInBounds, bC, bS, bP, bC.symm, bS.symm, bP.symm, defaultValue] using this, fun _ _ => rfl⟩
  obtain ⟨tm, methC, cdC, kC, vm₁, hnC, -, -, -, -, -, -, -, hW₁, st1⟩ := Steps.initColdS (tb := p.tables) (e := e) (below := below) (s := s) (U := U0) X.here hexec X.warmed hpl hown (t := Bundle.initS cls) rfl rfl (Bundle.fit_spec hcls).2
    hml him (bytes := bytes) (maxL := 2) hco (f := g) hg (a := a) (msg := msg) (rest := .ref a :: rest) hstack hd6
  cases Option.some.inj (hnC.symm.trans hP1m)
  have X₁ := X.noted hW₁
  obtain ⟨vm₂, X₂, st2⟩ := X₁.ctorMessageOffV hexec (g := { g with stack := .ref a :: rest }) hg hsize T L Z LZ M LM (P1 :: Ps)
    (fun P hP => by rcases List.mem_cons.mp hP with rfl | hP; exact L1; exact hL P hP) ⟨hlink1, hlink⟩ (u0 := u0) (sen := sen) (self := a) hmsg (cell := freshCell P1.m.cls kX) (cellS := cellS)
    hcell (fun _ => by simp) (by simp) rfl rfl hsel0 hselF hcellS hneS hknownS (by rw [hkeep _ (hout' _)]; exact hu0) (by rw [hkeep _ (hout' _)]; exact hsen)
    (Takes.of_laid hk hord tyC (by rw [Y.causeType]; rfl)) (Takes.of_laid hk hord tyS (by rw [Y.stackType]; exact fits_refV_array _ u0)) (Takes.of_laid hk hord tyP (by rw [Y.suppType]; exact fits_refV_object _ sen))
    (Takes.of_laid hk hord tyM (by rw [Y.msgType]; exact fits_refV_object _ ⟨msg, hmsg⟩)) Y.objLocals hskip htr [] hd6
    (by simp only [List.length_cons, hlen]; omega) (by simp only [List.length_cons, hlen]; exact hRl)
  obtain ⟨hwalk, hrun, hended, hWU, hsame⟩ := X₂.athrowLeaves hexec (g := { g with stack := .ref a :: rest, pc := g.pc + 3 }) hg hlocked hentered hout (a := a) (rest := rest) rfl hd9 hlocks
  have hlt : a < ((U0.setVm vm₁).setVm vm₂).heap.size := (Array.getElem?_eq_some_iff.mp hcell).1
  have hUc := heapAt_setCell_self (s := (U0.setVm vm₁).setVm vm₂) (plainBareV T.toThrowableT (freshCell P1.m.cls kX) a u0 sen msg) hlt
  refine ⟨_, _, st1 _ (fun acts => ?_), hrun, hended, hWU, hsame.weaken (fun y hy hlt' => ?_) (Nat.le_refl _) (Nat.le_refl _), hUc, rfl, rfl, size_setCell _ _ _, fun q hq => ?_⟩
  · rw [doInvoke_state]
    exact st2 _ hwalk
  · rcases List.mem_append.mp hy with h1 | h1
    · exact h1
    · exfalso
      have hb : y.base = a := by
        simp only [List.mem_cons, List.not_mem_nil, or_false] at h1
        rcases h1 with rfl | rfl | rfl | rfl | rfl <;> rfl
      rw [hb] at hlt'
      exact Nat.not_lt.mpr hnew hlt'
  · exact State.heap_setCell_other hq.symm
end
/-- how an entry of the table stands to what is thrown -/
def ctP (pl : Platform) (s₀ : State) (d thr : ClassId) (q : ExceptionTableEntry) (yes : Bool) : Prop := q.catchType ≠ 0 ∧ ∃ x, s₀.vm.ClassLinks pl d q.catchType x ∧ s₀.vm.assignable thr x = yes
def ctF (pl : Platform) (s₀ : State) (d thr : ClassId) (pc pc' : Nat) : List ExceptionTableEntry → Prop
  | [] => False
  | q :: t => (covers q pc = false ∧ ctF pl s₀ d thr pc pc' t) ∨ (covers q pc = true ∧ ctP pl s₀ d thr q true ∧ q.handlerPc = pc') ∨ (covers q pc = true ∧ ctP pl s₀ d thr q false ∧ ctF pl s₀ d thr pc pc' t)
theorem ct_one {Q : Handler → Pre} {E : CtlPost} {e : Env} {d : Bool} {acts : List Action} {s : State} {f : JFrame} {a : Addr} {x : ExceptionTableEntry} {t : List ExceptionTableEntry} {cT : ClassId} {cell : Cell} {yes : Bool} (hx : covers x f.pc = true) (h0 : x.catchType ≠ 0)
    (hl : s.vm.ClassLinks e.platform f.method.cls x.catchType cT) (hcell : s.heap[a]? = some cell) (hobj : ∀ k, cell.vm ≠ .statics k) (hk : ∃ k, s.vm.classes[cell.cls]? = some k) (hc : ∃ k, s.vm.classes[cT]? = some k) (hfit : s.vm.assignable cell.cls cT = yes) :
    wp (findHandler.go f a (x :: t)) Q E e d acts s ↔ (if yes = true then Q (.found x.handlerPc) d acts (s.setVm (s.vm.noted f.method.cls x.catchType (.cls cT))) else wp (findHandler.go f a t) Q E e d acts (s.setVm (s.vm.noted f.method.cls x.catchType (.cls cT)))) := by
  simp only [covers] at hx
  obtain ⟨ha, ht⟩ := (resolveClass_links e.toSetting hl).op (op := VmOp.resolveClass f.method.cls x.catchType) rfl
  have hal : s.vm.Alike (s.vm.noted f.method.cls x.catchType (.cls cT)) := (Vm.Alike.refl s.vm).noted _ _ _
  obtain ⟨k1, hk1⟩ := hk
  obtain ⟨k2, hk2⟩ := hc
  obtain ⟨k1', hk1', -⟩ := hal.2.2 _ _ hk1
  obtain ⟨k2', hk2', -⟩ := hal.2.2 _ _ hk2
  have hfit' : (s.vm.noted f.method.cls x.catchType (.cls cT)).assignable cell.cls cT = yes := by rw [hal.assignable]; exact hfit
  cases yes <;> simp [findHandler.go, hx, h0, ha, ht, hcell, hobj, hk1', hk2', hfit', VmOp.dirties, VmOp.acts]
theorem ct_find {e : Env} {s₀ : State} {f : JFrame} {a : Addr} {cell : Cell} {pc' : Nat} (hobj : ∀ k, cell.vm ≠ .statics k) (hk0 : ∃ k, s₀.vm.classes[cell.cls]? = some k) : ∀ (tb : List ExceptionTableEntry) (S : State), s₀.WarmedH S.vm → S.heap[a]? = some cell → ctF e.platform s₀ f.method.cls cell.cls f.pc pc' tb →
    ∃ vm', s₀.WarmedH vm' ∧ ∀ (Q : Handler → Pre) (E : CtlPost) (d : Bool) (acts : List Action), wp (findHandler.go f a tb) Q E e d acts S ↔ Q (.found pc') d acts (S.setVm vm') := by
  obtain ⟨k0, hk0⟩ := hk0
  intro tb
  induction tb with
  | nil => intro S _ _ h; exact h.elim
  | cons x t ih =>
    intro S hW hcell h
    obtain ⟨k0', hk0', -⟩ := hW.alike.2.2 _ _ hk0
    rcases h with ⟨hx, h⟩ | ⟨hx, ⟨h0, cT, hl, hfit⟩, rfl⟩ | ⟨hx, ⟨h0, cT, hl, hfit⟩, h⟩
    · obtain ⟨vm', hW', hq⟩ := ih S hW hcell h
      exact ⟨vm', hW', fun Q E d acts => by rw [Jvm.W.findHandler_go_skip hx]; exact hq Q E d acts⟩
    · obtain ⟨dk, _, _, kt, hd, _, _, _, _, hkt, _, hopen⟩ := hl.here
      obtain ⟨kt', hkt', -⟩ := hW.alike.2.2 _ _ hkt
      exact ⟨_, hW.noted hd hopen (State.rightAt_cls hl), fun Q E d acts => by
        rw [ct_one (yes := true) hx h0 (hW.classLinks hl) hcell hobj ⟨k0', hk0'⟩ ⟨kt', hkt'⟩ (by rw [hW.alike.assignable]; exact hfit), if_pos rfl]⟩
    · obtain ⟨dk, _, _, kt, hd, _, _, _, _, hkt, _, hopen⟩ := hl.here
      obtain ⟨kt', hkt', -⟩ := hW.alike.2.2 _ _ hkt
      obtain ⟨vm', hW', hq⟩ := ih (S.setVm (S.vm.noted f.method.cls x.catchType (.cls cT))) (hW.noted hd hopen (State.rightAt_cls hl)) hcell h
      exact ⟨vm', hW', fun Q E d acts => by
        rw [ct_one (yes := false) hx h0 (hW.classLinks hl) hcell hobj ⟨k0', hk0'⟩ ⟨kt', hkt'⟩ (by rw [hW.alike.assignable]; exact hfit), if_neg (by decide)]
        exact hq Q E d acts⟩
section
variable {p : Program} {l : Launch} {e : Env} {R : Room} {s : State} {m : MethodId} {args : Array Value} {below : List Frame} {meth : Method} {c : Code} {T : State} {locs : List Loc} {cells slots : Nat}
theorem ct_caught (X : Stand p l e R s m args below meth c T locs cells slots) (a : Addr) {g : JFrame} (hg : g.method = m) {cell : Cell} {pc' : Nat} (hcell : T.heap[a]? = some cell) (hobj : cell.vm = .none) (hk0 : ∃ k, s.vm.classes[cell.cls]? = some k)
    (hf : ctF e.platform s m.cls cell.cls g.pc pc' c.exceptionTable.toList) :
    ∃ vm', Stand p l e R s m args below meth c (T.setVm vm') locs cells slots ∧ ∀ target, Steps p.tables e below ((T.setVm vm').setTop { g with pc := pc', stack := [.ref a] }) target → Steps p.tables e below ((T.setTop g).pushFrame (.throwing a)) target := by
  subst hg
  obtain ⟨vm', hW', hq⟩ := ct_find (e := e) (s₀ := s) (f := g) (a := a) (cell := cell) (pc' := pc') (fun k => by rw [hobj]; simp) hk0 c.exceptionTable.toList ((T.setTop g).pushFrame (.throwing a)) X.warmed hcell hf
  have hF : ∀ (Q : Handler → Pre) (E : CtlPost) (d : Bool) (acts : List Action), wp (findHandler g a) Q E e d acts ((T.setTop g).pushFrame (.throwing a)) ↔ Q (.found pc') d acts (((T.setTop g).pushFrame (.throwing a)).setVm vm') := fun Q E d acts => by
    rw [Jvm.W.findHandler_eq (s := (T.setTop g).pushFrame (.throwing a)) (f := g) (meth := meth) (code := c) X.method' X.code]
    exact hq Q E d acts
  refine ⟨vm', X.noted hW', fun target hrest => ?_⟩
  obtain ⟨hgo, hw⟩ := X.here.throwing a
  refine Steps.head hgo hw ?_
  have hst : (stepThrowing e ((T.setTop g).pushFrame (.throwing a)) a (.java g :: T.frames.tail)).1 = (((T.setTop g).pushFrame (.throwing a)).setVm vm').setFrames (.java { g with pc := pc', stack := [.ref a] } :: T.frames.tail) := by
    simp only [stepThrowing, searchFrame, vmDo]
    generalize hr : Sem.go _ e false [] ((T.setTop g).pushFrame (.throwing a)) = res
    obtain ⟨as, rfl, ha⟩ := Sem.eq_ok_of hr (a := Handler.found pc') (s' := ((T.setTop g).pushFrame (.throwing a)).setVm vm') (acts' := []) (by simp [hF _ _ _ _])
    rfl
  rw [stepThread_throwing (frames_entered X.here.top _), hst]
  obtain ⟨g₀, hg⟩ := Option.isSome_iff_exists.mp X.here.top
  obtain ⟨r, hr⟩ := State.topJava?_eq_some.mp hg
  have hr' : (T.setVm vm').frames = .java g₀ :: r := hr
  rw [State.setTop_of_frames _ hr'] at hrest
  rw [State.pushFrame, State.setTop_of_frames _ hr, hr]
  have e1 : ∀ (u : State) (F G : List Frame), ((u.setFrames F).setVm vm').setFrames G = (u.setVm vm').setFrames G := by
    intro u F G
    have h1 : (u.setFrames F).setVm vm' = (u.setVm vm').setFrames F := rfl
    rw [h1, State.setFrames_setFrames]
  rw [State.setFrames_setFrames, e1]
  exact hrest
end
end
section
/-! throws, calls, handlers -/
def exI (E : Nat) : Nat := if E = 2 then 13 else 7
def exB (E : Nat) : ByteArray := if E = 2 then ⟨#[0x2a, 0x2b, 0xb7, 0x00, 0x0d, 0xb1]⟩ else Bundle.six
def noSt (z : Cond) : Bool := match z with
  | .laysStatic .. => false
  | _ => true
def rtN : String := "java/lang/RuntimeException"
def excN : String := "java/lang/Exception"
def exWs (E : Nat) : List Cond := .initialized (exN E) :: (xAt (exN E) ++ (Bundle.passSAtoms (exN E) rtN (exI E) (exB E) ++ (Bundle.chainSAtoms rtN [excN] ++ (Bundle.throwableSAtoms ++ Bundle.throwableAtoms.filter noSt))))
theorem thr_st : ∀ a ∈ Bundle.throwableAtoms, noSt a = true ∨ a = .laysStatic Bundle.tN "UNASSIGNED_STACK" Bundle.steD ∨ a = .laysStatic Bundle.tN "SUPPRESSED_SENTINEL" Bundle.listD := by decide +kernel
theorem ex_fit : ∀ E, E < 3 → Bundle.fit (exN E) = true := by decide +kernel
theorem ex_d0 : ∀ E, E < 3 → decode (exB E) 0 = .ok (.aload_n 0, 1) := by decide +kernel
theorem ex_d1 : ∀ E, E < 3 → decode (exB E) 1 = .ok (.aload_n 1, 1) := by decide +kernel
theorem ex_d2 : ∀ E, E < 3 → decode (exB E) 2 = .ok (.invokespecial (exI E), 3) := by decide +kernel
theorem ex_d5 : ∀ E, E < 3 → decode (exB E) 5 = .ok (.return_, 1) := by decide +kernel
theorem ex_kCl : ∀ E, E < 3 → kCl[10 + E]? = some (exN E, kFE, 0) := by
  intro E hE
  obtain rfl | rfl | rfl : E = 0 ∨ E = 1 ∨ E = 2 := by omega
  · rfl
  · rfl
  · rfl
theorem e900 (E : Nat) : 900 + E - 900 = E := Nat.add_sub_cancel_left 900 E
theorem e890 (E : Nat) : 900 + E - 890 = 10 + E := by omega
def ldI' (d i : Nat) : Instr := if d = 0 then .ldc i else .ldc_w i
def okTd (d mi pc ix a b k p : Nat) : Bool := decide (900 ≤ a) && decide (a < 903) && wAt p (.classLink (mY mi).cls ix (exN (a - 900))) && decide (hX mi = []) && decide (6 ≤ nF mi) && decide (91 ≤ nW mi) && decide (decode (mB mi) (pc + 3) = .ok (.dup, 1)) && decide (decode (mB mi) (pc + 6 + d + 3) = .ok (.athrow, 1)) &&
  (match lw_tbl[b]? with
    | some (.stringRef o i _) => decide (o = (mY mi).cls) && decide (decode (mB mi) (pc + 4) = .ok (ldI' d i, 2 + d))
    | _ => false) &&
  (match lw_tbl[k]? with
    | some (.methodLink o i z) => decide (o = (mY mi).cls) && decide (z = Bundle.initS (exN (a - 900))) && decide (decode (mB mi) (pc + 6 + d) = .ok (.invokespecial i, 3))
    | _ => false)
def okT (mi pc ix a b k p : Nat) : Bool := okTd 0 mi pc ix a b k p || okTd 1 mi pc ix a b k p
theorem ldc_any {p : Program} {l : Launch} {e : Env} {R : Room} {s : State} {m : MethodId} {args : Array Value} {below : List Frame} {meth : Method} {c : Code} {T : State} {locs : List Loc} {cells slots : Nat} (X : Stand p l e R s m args below meth c T locs cells slots) (hexec : p.tables.exec = Jvm.exec) {own text : String} {index d : Nat} {a : Addr} (hd : d = 0 ∨ d = 1) (hown : s.vm.findClass own = some m.cls)
    (hconst : (Cond.stringRef own index text).before args s = true) (hev : (Term.string own index).eval args s none [] s = some (.ref a)) {g : JFrame} (hg : g.method = m) (hdg : decode c.code g.pc = .ok (ldI' d index, 2 + d)) :
    ∀ target, Steps p.tables e below (T.setTop { g with pc := g.pc + 2 + d, stack := .ref a :: g.stack }) target → Steps p.tables e below (T.setTop g) target := by
  rcases hd with rfl | rfl
  · exact X.ldcString hexec hown hconst hev hg hdg
  · obtain ⟨k, cf, i, a', hk, hcf, hcp, -, hr, hev'⟩ := Cond.stringRef_spec hown hconst
    cases hev.symm.trans hev'
    obtain ⟨k', hk', he⟩ := X.warmed.alike.2.2 _ _ hk
    have hr' : k'.resolved[index]? = some (some (.string a)) := by
      rcases X.warmed.entry hk hk' index with h | ⟨h, -⟩
      · rw [h]; exact hr
      · rw [hr] at h; cases h
    have hdg' : decode c.code g.pc = .ok (.ldc_w index, 3) := hdg
    intro target hrest
    subst hg
    jvm_step X.here [hexec, hdg', ldc_w.wp_string (e := e) (s := T) (f := g) X.here.top hk' (by rw [he]; exact hcf) hcp hr']
    exact hrest
section
variable {p : Program} {l : Launch} {e : Env} {R : Room} {s : State} {m : MethodId} {args : Array Value} {below : List Frame} {meth : Method} {c : Code} {Q : State → Prop}
variable {w : Wd} {mi sh0 sl0 pc : Nat} {lc : Lc} {st : List Value} {sh : List (Nat × Nat)} {gi : Nat → Nat → Int32} {gl : Nat → Nat → Int64} {gr : Nat → Nat → Option Nat} {sl : Nat} {H : Heap} {locs : List Loc} {ls : Array Slot} {o : Out}
theorem so_throwD {d ix a b k z : Nat} (hd01 : d = 0 ∨ d = 1) (hEx : ∀ E, E < 3 → ∀ v ∈ exWs E, v ∈ lw_tbl ∧ okw v = true) (B : Bx p l R s m meth c w mi sh0 sl0) (hdg : decode (mB mi) pc = .ok (.new ix, 3)) (ho : okTd d mi pc ix a b k z = true) (h : s_thr a st sh gi gl gr sl = some o) (I : In w s sh0 sl0 mi lc (sh, gi, gl, gr) sl H locs ls) :
    W p l e R s m args below meth c H locs (sh.length - sh0) (sl - sl0) (QQ w below s sh0 sl0 o) (F0 m pc ls (st.map (cv w.b w.base))) := by
  refine W.sized fun hsz => ?_
  have hz := In.size B I hsz
  have B' := B
  obtain ⟨hx, hl, C, M, Rm, -, -⟩ := B
  unfold okTd at ho
  simp only [Bool.and_eq_true, decide_eq_true_eq] at ho
  obtain ⟨⟨⟨⟨⟨⟨⟨⟨⟨o1, o2⟩, o3⟩, o4⟩, o5⟩, o6⟩, o7⟩, o8⟩, o9⟩, o10⟩ := ho
  obtain ⟨E, rfl⟩ : ∃ E, a = 900 + E := ⟨a - 900, by omega⟩
  have e900 := e900 E
  have e890 := e890 E
  unfold s_thr at h
  rw [e900] at o3 h
  rw [e890] at h
  simp only [e900] at o10
  split at o9
  · rename_i own1 is tx hstr
    simp only [Bool.and_eq_true, decide_eq_true_eq] at o9
    obtain ⟨rfl, o9⟩ := o9
    split at o10
    · rename_i own2 ic iy hml
      simp only [Bool.and_eq_true, decide_eq_true_eq] at o10
      obtain ⟨⟨rfl, rfl⟩, o10⟩ := o10
      split at h
      · cases h
      · rename_i hcs
        cases h
        have hE : E < 3 := by omega
        have wds : ∀ v ∈ exWs E, v.before args s = true := fun v hv => C.1 v (hEx E hE v hv).1 (hEx E hE v hv).2 args
        have r0 : 0 < sh.length := I.1.1
        have b1 : sh0 ≤ sh.length := I.2.2.2.1
        have b3 : sl0 ≤ sl := I.2.2.2.2.2.1
        have hcs1 : sh.length ≤ mxC := by omega
        have hcs2 : sl + 6 ≤ mxS := by omega
        have hcs3 : wsum st ≤ 8 := by omega
        intro T hT X
        have htr : e.platform.stackTraces = false := (show e.platform.stackTraces = l.stackTraces by rw [X.admits.platform]).trans hl
        have hpl : e.platform.magicAccessors = ({} : Platform).magicAccessors := by rw [X.admits.platform]
        obtain ⟨vm₁, cX, kX, hfX, hkX, -, -, X₁, st1⟩ := X.newCold hx (own := (mY mi).cls) (C := exN E) (index := ix) (n := 6) M.1 (C.wd o3 rfl args) (wds _ (by simp [exWs, xAt])) (wds _ (by simp [exWs]))
          (g := F0 m pc ls (st.map (cv w.b w.base))) rfl (by rw [M.2.1]; exact hdg) (by have := Rm.2.2.1; omega) (by have := Rm.2.2.2; omega)
        generalize hT1 : (T.setVm vm₁).pushCell { cls := cX, slots := kX.instanceTypes.map defaultValue, vm := .none } = T1 at X₁ st1
        have hTs : T.heap.size = w.base + (sh.length - 1) := by rw [hT]; exact hz
        have hcell : T1.heap[T.heap.size]? = some (freshCell cX kX) := by rw [← hT1]; exact State.heap_pushCell_size _ _
        have hsz1 : T1.heap.size = T.heap.size + 1 := by rw [← hT1]; exact size_pushCell _ _
        have hold : ∀ q, q < T.heap.size → T1.heap[q]? = T.heap[q]? := fun q hq => by
          rw [← hT1]
          show ((T.setVm vm₁).heap.push _)[q]? = _
          rw [Array.getElem?_push, if_neg (by show ¬ q = T.heap.size; omega)]
          rfl
        have hcat : (Value.ref T.heap.size).category = 1 := rfl
        have hsum := cv_sum w.b w.base st
        have d3' : decode c.code (pc + 3) = .ok (.dup, 1) := by rw [M.2.1]; exact o7
        have d4' : decode c.code (pc + 4) = .ok (ldI' d is, 2 + d) := by rw [M.2.1]; exact o9
        have hsw : (Cond.stringRef (mY mi).cls is tx).before args s = true := C.1 _ (List.mem_of_getElem? hstr) rfl args
        obtain ⟨_, _, _, sa, -, -, -, -, -, hev⟩ := Cond.stringRef_spec M.1 hsw
        have htab : c.exceptionTable.toList = [] := by
          have h9 := M.2.2.2.2.2.2
          rw [o4] at h9
          exact List.map_eq_nil_iff.mp h9
        have hfr : 6 ≤ R.frames := Nat.le_trans o5 Rm.1
        have hlo : 91 ≤ R.locals := Nat.le_trans o6 Rm.2.1
        obtain ⟨U, ce, hsteps, hrun, hend, hW, hsame, hce, hcv, hcc, hUs, hUo⟩ := thr_ctor X₁ hx htr (own := (mY mi).cls) (cls := exN E) (bytes := exB E) (ic := ic) (n := 2) M.1 (ex_fit E hE)
          (fun v hv => by
            rcases thr_st v hv with h9 | h9 | h9
            · exact wds v (by simp [exWs, hv, h9])
            · rw [h9]; exact C.2.2.2.2.2.2.1.lay
            · rw [h9]; exact C.2.2.2.2.2.2.2.1.lay)
          (fun v hv => wds v (by simp [exWs, hv])) (fun v hv => wds v (by simp [exWs, hv])) C.2.2.2.2.2.2.1.ref C.2.2.2.2.2.2.2.1.ref
          (C.1 _ (List.mem_of_getElem? hml) rfl args) (wds _ (by simp [exWs, Bundle.passSAtoms])) (wds _ (by simp [exWs, Bundle.passSAtoms]))
          (fun top htop => by
            obtain ⟨P, L, hm, hs⟩ := PassC.ofS_atoms (args := args) (s := s) hpl (X := exN E) (Y := rtN) (Bundle.fit_spec (ex_fit E hE)).1 (by decide) (ex_d0 E hE) (ex_d1 E hE) (ex_d2 E hE) (ex_d5 E hE) (fun v hv => wds v (by simp [exWs, hv]))
            obtain ⟨P', Ps, hlen, L', hL, hm', hsup, hpass⟩ := Bundle.chainS (args := args) hpl htop [excN] rtN (by decide) (by decide) (fun v hv => wds v (by simp [exWs, hv]))
            refine ⟨P, P' :: Ps, by simp [hlen], L, ?_, hm, Option.some.inj (hs.symm.trans hm'), hsup, hpass⟩
            intro q hq
            rcases List.mem_cons.mp hq with rfl | hq
            · exact L'
            · exact hL q hq)
          (fun q hq cell hc9 => by rw [C.2.2.2.2.2.1 _ cell (I.2.1.2.2 q hq) hc9]; rfl) hfX hkX hcell (by rw [hT]; exact I.2.1.1) (msg := .ref sa) rfl
          (g := { method := m, pc := pc + 6 + d, locals := ls, stack := .ref sa :: .ref T.heap.size :: .ref T.heap.size :: st.map (cv w.b w.base), locked := none }) rfl (by rw [M.2.2.1]; exact I.2.2.1.1) rfl rfl rfl
          (by rw [M.2.1]; exact o10) (by rw [M.2.1]; exact o8) (fun q hq => by rw [htab] at hq; cases hq) (by omega)
          (by show 2 * 0 + _ + _ ≤ _; simp only [List.map_cons, List.sum_cons, hcat]; omega) M.2.2.2.2.1
        have hlt : ∀ q, q < H.size → U.heap[q]? = H[q]? := fun q hq => by
          rw [← hT] at hq ⊢
          rw [hUo q (Nat.ne_of_lt hq), hold q hq]
        have I' : In w s sh0 sl0 mi lc (sh ++ [(10 + E, 0)], gi, gl, gr) (sl + 6) U.heap locs ls := by
          refine I.grew hz (by rw [hUs, hsz1, hT]) hlt (fun _ _ => rfl) (fun _ _ => rfl) (fun _ _ => rfl) ?_ hcs1 hcs2
          rw [cel_o (by omega)]
          refine ⟨_, ex_kCl E hE, ce, ?_, ?_, hcv, fun j hj => absurd hj (Nat.not_lt_zero j)⟩
          · show U.heap[w.base + (sh.length - 1)]? = some ce
            rw [← hTs]; exact hce
          · rw [hcc]
            exact Option.some.inj (hfX.symm.trans (C.2.1.1 (10 + E) _ (ex_kCl E hE)).2.1)
        refine ⟨U, ?_, ?_⟩
        · refine st1 _ ?_
          show Steps p.tables e below (T1.setTop { method := m, pc := pc + 3, locals := ls, stack := .ref T.heap.size :: st.map (cv w.b w.base), locked := none }) _
          jvm_step X₁.here [X₁.here.top, hx, d3', Value.category]
          exact ldc_any X₁ hx (own := (mY mi).cls) (text := tx) (index := is) (a := sa) hd01 M.1 hsw hev
            (g := { method := m, pc := pc + 4, locals := ls, stack := .ref T.heap.size :: .ref T.heap.size :: st.map (cv w.b w.base), locked := none }) rfl d4' _ hsteps
        · refine QQ.of B' I' (by rw [hUs, hsz1, hTs]; simp; omega) rfl ?_ hrun ?_ hW rfl (L1 := locs) I.2.1.2.2 ?_
          · refine ⟨?_, by show sh.length ≠ 0; omega, hE⟩
            show (sh ++ [(10 + E, 0)])[sh.length]? = some (10 + E, 0)
            simp
          · show Ended U below (.threw (ad w.b w.base sh.length))
            rw [ad_pos r0, ← hTs]
            exact hend
          · have e1 : (sh ++ [(10 + E, 0)]).length - sh0 = sh.length - sh0 + 1 := by simp; omega
            have e2 : sl + 6 - sl0 = sl - sl0 + 6 := by omega
            rw [e1, e2]
            exact hsame
    · cases o10
  · cases o9
theorem so_throw {ix a b k z : Nat} (hEx : ∀ E, E < 3 → ∀ v ∈ exWs E, v ∈ lw_tbl ∧ okw v = true) (B : Bx p l R s m meth c w mi sh0 sl0) (hdg : decode (mB mi) pc = .ok (.new ix, 3)) (ho : okT mi pc ix a b k z = true) (h : s_thr a st sh gi gl gr sl = some o) (I : In w s sh0 sl0 mi lc (sh, gi, gl, gr) sl H locs ls) :
    W p l e R s m args below meth c H locs (sh.length - sh0) (sl - sl0) (QQ w below s sh0 sl0 o) (F0 m pc ls (st.map (cv w.b w.base))) := by
  unfold okT at ho
  rw [Bool.or_eq_true] at ho
  rcases ho with ho | ho
  · exact so_throwD (Or.inl rfl) hEx B hdg ho h I
  · exact so_throwD (Or.inr rfl) hEx B hdg ho h I
end
theorem wsum_rev (l : List Value) : wsum l.reverse = wsum l := by
  unfold wsum
  rw [List.map_reverse, List.sum_reverse_nat]
theorem steps_wk {tb : Tables} {e : Env} {f : Frame} {below : List Frame} {s s' : State} (h : Steps tb e (f :: below) s s') : Steps tb e below s s' := by
  obtain ⟨n, h1, h2⟩ := h
  exact ⟨n, h1, fun k hk => Within.weaken (mid := [f]) (h2 k hk)⟩
theorem cvl_args (w : Wd) : ∀ (as : List Value) (i : Nat), cvl w (lv_args i as) = lv_args i (as.map (cv w.b w.base))
  | [], _ => rfl
  | v :: t, i => by
    show (i, cv w.b w.base v) :: cvl w (lv_args (if v.category = 2 then i + 2 else i + 1) t) = (i, cv w.b w.base v) :: lv_args (if (cv w.b w.base v).category = 2 then i + 2 else i + 1) (t.map (cv w.b w.base))
    rw [cv_cat, cvl_args w t]
theorem sl_len (vs : List Value) : (lg_sl vs).length = (vs.map fun v => v.category).sum := by
  induction vs with
  | nil => rfl
  | cons v t ih =>
    have e1 : lg_sl (v :: t) = (if v.category = 2 then [.val v, .second] else [.val v]) ++ lg_sl t := by simp [lg_sl]
    rw [e1, List.length_append, ih, List.map_cons, List.sum_cons]
    rcases lv_cat v with h | h <;> simp [h]
def cdOk (p : Nat) (y : MethodName) (bs : ByteArray) (n : Nat) (r : Option FieldType) (h : List (Nat × Nat × Nat × Nat)) : Bool := match h with
  | [] => wAt p (.code y bs n r)
  | h => wAt p (.codeWith y bs n r h)
def mS (i : Nat) : Nat := mSl.getD i 9
def mA (i : Nat) : Nat := mAl.getD i 0
def mP (i : Nat) : Nat × Nat × Nat × Nat := mPl.getD i (0, 0, 0, 0)
def mhN : String := "java/lang/invoke/MethodHandle"
def vhN : String := "java/lang/invoke/VarHandle"
def okM (a : Nat) : Bool := cdOk (mP a).1 (mY a) (mB a) (mL a) (mR a) (hX a) && plainName (mY a).cls && decide ((mY a).cls ≠ mhN) && decide ((mY a).cls ≠ vhN) && decide ((parseMethodDescriptor (mY a).desc).map (fun d => d.parameters.length) = some (mA a)) &&
  (hXl.getD a []).all (fun q => decide (q.2.2.2.1 ≠ 0) && decide (q.2.2.2.2.1 < 3) && wAt q.2.2.2.2.2 (.classLink (mY a).cls q.2.2.2.1 (exN q.2.2.2.2.1))) &&
  (match mS a with
    | 0 => wAt (mP a).2.1 (.static (mY a)) && wAt (mP a).2.2.2 (.initialized (mY a).cls)
    | 1 => wAt (mP a).2.1 (.instanceMethod (mY a)) && wAt (mP a).2.2.1 (.selects (mY a).cls (mY a) (mY a)) && decide (mK a < 10) && decide ((kCl[mK a]?).map (fun q => q.1) = some (mY a).cls)
    | 2 => wAt (mP a).2.1 (.instanceMethod (mY a)) && decide ((mY a).name = "<init>") && decide (hX a = []) && decide (mR a = none) && decide (mK a < 10)
    | _ => false)
def okL (p ix : Nat) (own : String) (y : MethodName) : Bool := match lw_tbl[p]? with
  | some (.methodLink o i z) => decide (o = own) && decide (i = ix) && decide (z = y)
  | some (.methodLinkNest o i z _) => decide (o = own) && decide (i = ix) && decide (z = y)
  | _ => false
def okC (mi ix a b k p : Nat) : Bool := okL p ix (mY mi).cls (mY a) && decide (mS a = k) && decide (b = mA a) && decide (nF a + 1 ≤ nF mi) && decide (8 + (mL a + 11) + nW a ≤ nW mi) && decide (a < mYl.length) && decide (0 < a)
theorem okM_facts {w : Wd} {s : State} {a : Nat} (C : Cx w s) (h : okM a = true) : ∃ (mk : MethodId) (methk : Method) (ck : Code), s.methodNamed? (mY a) = some mk ∧ s.vm.method? mk = some methk ∧ methk.code = some ck ∧ ck.code = mB a ∧ ck.maxLocals = mL a ∧ ck.exceptionTable.toList.map (fun h => (h.startPc, h.endPc, h.handlerPc, h.catchType)) = hX a ∧ methk.sig.returnType = mR a ∧ methk.locks = false ∧ parseMethodDescriptor (mY a).desc = some methk.sig := by
  unfold okM at h
  simp only [Bool.and_eq_true] at h
  have h1 := h.1.1.1.1.1.1
  unfold cdOk at h1
  have key : (Cond.codeWith (mY a) (mB a) (mL a) (mR a) (hX a)).before #[] s = true := by
    split at h1
    · rename_i e9
      rw [e9]
      have h2 : (Cond.code (mY a) (mB a) (mL a) (mR a)).before #[] s = true := C.wd h1 rfl #[]
      unfold Cond.before Cond.holds at h2 ⊢
      rw [← Cond.code_iff_codeWith_nil]
      exact h2
    · exact C.wd h1 rfl #[]
  exact Cond.codeWith_spec key
section
variable {p : Program} {l : Launch} {e : Env} {R : Room} {s : State} {m : MethodId} {args : Array Value} {below : List Frame} {meth : Method} {c : Code} {Q : State → Prop}
variable {w : Wd} {mi sh0 sl0 pc : Nat} {lc : Lc} {st : List Value} {h0 : Hp} {sl : Nat} {H : Heap} {locs : List Loc} {ls : Array Slot}
/-- what the callee's run gives, whatever its start -/
abbrev IHc (p : Program) (l : Launch) (e : Env) (w : Wd) (mj : Nat) (as : List Value) (h0 : Hp) (sl : Nat) (r : Out) : Prop :=
  ∀ (R' : Room) (s' : State) (m' : MethodId) (args' : Array Value) (below' : List Frame) (meth' : Method) (c' : Code) (H' : Heap) (locs' : List Loc) (ls' : Array Slot), Bx p l R' s' m' meth' c' w mj h0.1.length sl → In w s' h0.1.length sl mj (lv_args 0 as) h0 sl H' locs' ls' →
    W p l e R' s' m' args' below' meth' c' H' locs' (h0.1.length - h0.1.length) (sl - sl) (QQ w below' s' h0.1.length sl r) (F0 m' 0 ls' [])
/-- the callee has thrown: its note lies over the caller's frame -/
abbrev KT (p : Program) (l : Launch) (e : Env) (R : Room) (s : State) (m : MethodId) (args : Array Value) (below : List Frame) (meth : Method) (c : Code) (w : Wd) (sh0 sl0 : Nat) (Q : State → Prop) (mi pc : Nat) (lc : Lc) (ls : Array Slot) (rest : List Value) (q : Nat × Nat) (hs : Hp × Nat) : Prop :=
  ∀ (T : State) (locs : List Loc), In w s sh0 sl0 mi lc hs.1 hs.2 T.heap locs ls → T.heap.size = w.base + (hs.1.1.length - 1) → Stand p l e R s m args below meth c T locs (hs.1.1.length - sh0) (hs.2 - sl0) → ∃ t, Steps p.tables e below ((T.setTop (F0 m pc ls rest)).pushFrame (.throwing (ad w.b w.base q.1))) t ∧ Q t
theorem call_core {T₁ : State} {mk : MethodId} {methk : Method} {ck : Code} {mj : Nat} {as : List Value} {rest : List Value} {r : Out} {ig : Instr} (B : Bx p l R s m meth c w mi sh0 sl0) (I : In w s sh0 sl0 mi lc h0 sl H locs ls) (hT : T₁.heap = H) (hz : H.size = w.base + (h0.1.length - 1)) (X : Stand p l e R s m args below meth c T₁ locs (h0.1.length - sh0) (sl - sl0)) (hdg : decode (mB mi) pc = .ok (ig, 3))
    (hn : s.methodNamed? (mY mj) = some mk) (hm : s.vm.method? mk = some methk) (hc : methk.code = some ck) (c1 : ck.code = mB mj) (c2 : ck.maxLocals = mL mj) (c3 : ck.exceptionTable.toList.map (fun h => (h.startPc, h.endPc, h.handlerPc, h.catchType)) = hX mj) (c4 : methk.sig.returnType = mR mj) (c5 : methk.locks = false)
    (hpn : plainName (mY mj).cls = true) (hf : nF mj + 1 ≤ nF mi) (hl : 8 + (mL mj + 11) + nW mj ≤ nW mi) (hw1 : wsum rest ≤ 8) (hw2 : wsum as ≤ mL mj) (IH : IHc p l e w mj as h0 sl r)
    (Kr : ∀ v, r.1 = .inl v → KK p l e R s m args below meth c w sh0 sl0 Q (mi, pc + 3, lc, v.toList ++ rest, r.2)) (Kt : ∀ q, r.1 = .inr q → r.2.1.1[q.1]? = some (10 + q.2, 0) → q.1 ≠ 0 → q.2 < 3 → KT p l e R s m args below meth c w sh0 sl0 Q mi pc lc ls (rest.map (cv w.b w.base)) q r.2) :
    ∃ t, (∀ acts, Steps p.tables e below (doInvoke e (T₁.setTop (F0 m pc ls (rest.map (cv w.b w.base)))) acts mk (as.map (cv w.b w.base)).toArray).1 t) ∧ Q t := by
  have B' := B
  obtain ⟨hx, htr, C, M, Rm, hsh0, hs0⟩ := B
  have b1 := I.2.2.2.1
  have b2 := I.2.2.2.2.1
  have b3 := I.2.2.2.2.2.1
  have b4 := I.2.2.2.2.2.2
  have hsum := cv_sum w.b w.base rest
  have hal := X.warmed.alike
  have hmk : T₁.vm.method? mk = some methk := by rw [hal.method?]; exact hm
  have hpk : T₁.plainMethod mk := State.plainMethod.of_name (fun k hk => by
    obtain ⟨k', hk', hnm⟩ := className_of_methodNamed hn
    obtain ⟨k2, hk2, he⟩ := hal.2.2 _ _ hk'
    cases hk.symm.trans hk2
    rw [he]
    show plainName k'.name = true
    rw [hnm]
    exact hpn)
  obtain ⟨Y, hin⟩ := X.into (g := F0 m pc ls (rest.map (cv w.b w.base))) rfl (by rw [M.2.2.1]; exact I.2.2.1.1) (ig := ig) (len := 3) (by rw [M.2.1]; exact hdg) (as.map (cv w.b w.base)).toArray (R' := { frames := nF mj, locals := nW mj, cells := mxC + 1 - h0.1.length, slots := mxS - sl }) hmk hc c5 hpk
    (Nat.le_trans hf Rm.1) (by
      show 2 * 0 + ((rest.map (cv w.b w.base)).map fun v => v.category).sum + (ck.maxLocals + 11) + nW mj ≤ R.locals
      rw [c2]
      have := Rm.2.1
      omega) (by show _ + (mxC + 1 - h0.1.length) ≤ _; have := Rm.2.2.1; omega) (by show _ + (mxS - sl) ≤ _; have := Rm.2.2.2; omega)
  have hhe : (T₁.calling (F0 m pc ls (rest.map (cv w.b w.base))) mk (as.map (cv w.b w.base)).toArray).heap = H := hT
  have hbelow : ∀ a, a < w.base → H[a]? = s.heap[a]? := fun a ha => I.2.1.2.1 a (Nat.lt_of_lt_of_le ha C.2.2.2.2.1) (Nat.not_le.mpr ha)
  have Bk : Bx p l { frames := nF mj, locals := nW mj, cells := mxC + 1 - h0.1.length, slots := mxS - sl } (T₁.calling (F0 m pc ls (rest.map (cv w.b w.base))) mk (as.map (cv w.b w.base)).toArray) mk methk ck w mj h0.1.length sl := by
    refine ⟨hx, htr, C.moved (h := h0) X.warmed (by rw [hhe]; exact I.1) (by rw [hhe]; exact hz) (fun a ha => by rw [hhe]; exact hbelow a ha), ⟨?_, c1, c2, c4, c5, (name_of_methodNamed hn hm).1, c3⟩, ⟨Nat.le_refl _, Nat.le_refl _, ?_, ?_⟩, I.1.1, by rw [hhe]; exact hz⟩
    · show T₁.vm.findClass (mY mj).cls = some mk.cls
      rw [hal.findClass]
      exact findClass_of_methodNamed hn
    · show mxC + 1 - h0.1.length + h0.1.length = mxC + 1
      omega
    · show mxS - sl + sl = mxS
      omega
  have hent := lg_entry_eq mk (as.map (cv w.b w.base)) ck.maxLocals
  have hlv := lv_entry (as.map (cv w.b w.base)) (n := ck.maxLocals) (by rw [sl_len, cv_sum, c2]; exact hw2)
  rw [hent] at hin Y
  generalize hls : ((lg_sl (as.map (cv w.b w.base)) ++ List.replicate (ck.maxLocals - (lg_sl (as.map (cv w.b w.base))).length) Slot.unset).toArray) = lsk at hin Y hlv
  have Ik : In w (T₁.calling (F0 m pc ls (rest.map (cv w.b w.base))) mk (as.map (cv w.b w.base)).toArray) h0.1.length sl mj (lv_args 0 as) h0 sl H [] lsk := ⟨I.1, by rw [hhe]; exact va_S.rf, by rw [cvl_args, ← c2]; exact hlv, Nat.le_refl _, b2, Nat.le_refl _, b4⟩
  have hk := IH _ _ mk (as.map (cv w.b w.base)).toArray (.java (F0 m pc ls (rest.map (cv w.b w.base))) :: below) methk ck H [] lsk Bk Ik
  rw [Nat.sub_self, Nat.sub_self] at hk
  obtain ⟨t, hsteps, hrun, hend, hW, hr, hrz, hrb, q1, q2, q3, q4, hth, L1, hL1, hsame⟩ := hk ((T₁.setTop (F0 m pc ls (rest.map (cv w.b w.base)))).pushFrame (.java (F0 mk 0 lsk []))) hT Y
  have hback : Steps p.tables e below (((T₁.setTop (F0 m pc ls (rest.map (cv w.b w.base)))).pushFrame (.java (F0 mk 0 lsk []))).setTop (F0 mk 0 lsk [])) t := steps_wk hsteps
  have hI : ∀ T' : State, T'.heap = t.heap → In w s sh0 sl0 mi lc r.2.1 r.2.2 T'.heap (locs ++ L1) ls := fun T' hT' => by
    refine ⟨by rw [hT']; exact hr, ⟨by rw [hT', hrz, hs0]; omega, fun a ha hA => ?_, fun q hq => ?_⟩, I.2.2.1, by omega, q2, by omega, q4⟩
    · rw [hT', hrb a (Nat.not_le.mp hA), hhe]
      exact hbelow a (Nat.not_le.mp hA)
    · rcases List.mem_append.mp hq with h9 | h9
      · exact I.2.1.2.2 q h9
      · exact hL1 q h9
  have e1 : h0.1.length - sh0 + (r.2.1.1.length - h0.1.length) = r.2.1.1.length - sh0 := by omega
  have e2 : sl - sl0 + (r.2.2 - sl) = r.2.2 - sl0 := by omega
  cases hr1 : r.1 with
  | inl v =>
    rw [hr1] at hend
    obtain ⟨T', X', -, -, ht⟩ := X.outOf (g := F0 m pc ls (rest.map (cv w.b w.base))) rfl (ig := ig) (len := 3) (by rw [M.2.1]; exact hdg) hend hW hsame
    rw [e1, e2] at X'
    have hTh : T'.heap = t.heap := by rw [ht]; rfl
    obtain ⟨t2, s2, hq2⟩ := Kr v hr1 T'.heap (locs ++ L1) ls (hI T' hTh) T' rfl X'
    refine ⟨t2, fun acts => ?_, hq2⟩
    rw [hin acts]
    refine hback.trans ?_
    rw [ht]
    have e3 : (v.map (cv w.b w.base)).toList ++ rest.map (cv w.b w.base) = (v.toList ++ rest).map (cv w.b w.base) := by cases v <;> rfl
    show Steps p.tables e below (T'.setTop (F0 m (pc + 3) ls ((v.map (cv w.b w.base)).toList ++ rest.map (cv w.b w.base)))) t2
    rw [e3]
    exact s2
  | inr q =>
    rw [hr1] at hend
    unfold thk at hth
    rw [hr1] at hth
    obtain ⟨T', X', -, -, ht⟩ := X.outOfThrown (g := F0 m pc ls (rest.map (cv w.b w.base))) rfl hend hW hsame
    rw [e1, e2] at X'
    have hTh : T'.heap = t.heap := by rw [ht]; exact (Stand.throwing_heap _ _ _).symm
    obtain ⟨t2, s2, hq2⟩ := Kt q hr1 hth.1 hth.2.1 hth.2.2 T' (locs ++ L1) (hI T' hTh) (by rw [hTh]; exact hrz) X'
    refine ⟨t2, fun acts => ?_, hq2⟩
    rw [hin acts]
    refine hback.trans ?_
    rw [ht]
    exact s2
end
section
variable {p : Program} {l : Launch} {e : Env} {R : Room} {s : State} {m : MethodId} {args : Array Value} {below : List Frame} {meth : Method} {c : Code} {Q : State → Prop}
variable {w : Wd} {mi sh0 sl0 pc : Nat} {lc : Lc} {st : List Value} {sh : List (Nat × Nat)} {gi : Nat → Nat → Int32} {gl : Nat → Nat → Int64} {gr : Nat → Nat → Option Nat} {sl : Nat} {H : Heap} {locs : List Loc} {ls : Array Slot} {y : Cg}
theorem okM_desc {a b : Nat} (h : okM a = true) (hb : b = mA a) {sig : MethodDescriptor} (hs : parseMethodDescriptor (mY a).desc = some sig) : b = sig.parameters.length := by
  unfold okM at h
  simp only [Bool.and_eq_true, decide_eq_true_eq] at h
  have h1 := h.1.1.2
  rw [hs] at h1
  rw [hb]
  exact (Option.some.inj h1).symm
theorem so_callS {ix a b z : Nat} {as : List Value} {mj : Nat} {r : Out} (B : Bx p l R s m meth c w mi sh0 sl0) (I : In w s sh0 sl0 mi lc (sh, gi, gl, gr) sl H locs ls) (hdg : decode (mB mi) pc = .ok (.invokestatic ix, 3)) (ho : okC mi ix a b 0 z = true) (hM : okM a = true) (h : s_call a b pc lc st sh gi gl gr sl 0 = some (mj, as, y))
    (IH : IHc p l e w mj as (sh, gi, gl, gr) sl r) (Kr : ∀ v, r.1 = .inl v → KK p l e R s m args below meth c w sh0 sl0 Q (mi, y.1 + 3, y.2.1, v.toList ++ y.2.2.1, r.2))
    (Kt : ∀ q, r.1 = .inr q → r.2.1.1[q.1]? = some (10 + q.2, 0) → q.1 ≠ 0 → q.2 < 3 → KT p l e R s m args below meth c w sh0 sl0 Q mi y.1 y.2.1 ls (y.2.2.1.map (cv w.b w.base)) q r.2) (ha : a < 9000) :
    W p l e R s m args below meth c H locs (sh.length - sh0) (sl - sl0) Q (F0 m pc ls (st.map (cv w.b w.base))) := by
  refine W.sized fun hsz => ?_
  have hz := In.size B I hsz
  have B' := B
  obtain ⟨hx, htr, C, M, Rm, hsh0, hs0⟩ := B
  unfold s_call at h
  rw [if_neg (by omega), if_pos rfl] at h
  split at h
  · rename_i hcs
    obtain ⟨hb, hw1, hw2⟩ := hcs
    cases h
    unfold okC okL at ho
    simp only [Bool.and_eq_true, decide_eq_true_eq] at ho
    obtain ⟨⟨⟨⟨⟨⟨o1, o2⟩, o3⟩, o4⟩, o5⟩, -⟩, -⟩ := ho
    obtain ⟨mk, methk, ck, hn, hm, hc, c1, c2, c3, c4, c5, c6⟩ := okM_facts C hM
    have hM' := hM
    unfold okM at hM'
    rw [o2] at hM'
    simp only [Bool.and_eq_true, decide_eq_true_eq] at hM'
    obtain ⟨⟨⟨⟨⟨⟨-, m2⟩, m3⟩, m4⟩, -⟩, -⟩, m7, m8⟩ := hM'
    have hstat := Cond.static_spec hn hm (C.wd m7 rfl args)
    obtain ⟨kP, hkP, -⟩ := className_of_methodNamed hn
    have hini : kP.init = .initialized := Cond.initialized_spec (findClass_of_methodNamed hn) hkP (C.wd m8 rfl args)
    have hlen : ((st.take b).reverse.map (cv w.b w.base)).length = methk.sig.parameters.length := by
      rw [← okM_desc hM o3 c6]
      simp [hb]
    have hstk : (F0 m pc ls (st.map (cv w.b w.base))).stack = ((st.take b).reverse.map (cv w.b w.base)).reverse ++ (st.drop b).map (cv w.b w.base) := by
      show st.map (cv w.b w.base) = _
      rw [List.map_reverse, List.reverse_reverse, ← List.map_append, List.take_append_drop]
    have hw2' : wsum (st.take b).reverse ≤ mL a := by
      rw [wsum_rev]
      exact hw2
    intro T hT X
    have fin : ∀ vm₁, Stand p l e R s m args below meth c (T.setVm vm₁) locs (sh.length - sh0) (sl - sl0) → ∃ t, (∀ acts, Steps p.tables e below (doInvoke e ((T.setVm vm₁).setTop (F0 m pc ls ((st.drop b).map (cv w.b w.base)))) acts mk ((st.take b).reverse.map (cv w.b w.base)).toArray).1 t) ∧ Q t := fun vm₁ X₁ =>
      call_core (h0 := (sh, gi, gl, gr)) (mj := a) (as := (st.take b).reverse) (rest := st.drop b) (r := r) (ig := .invokestatic ix) B' I hT hz X₁ hdg hn hm hc c1 c2 c3 c4 c5 m2 o4 o5 hw1 hw2' IH Kr Kt
    split at o1
    · rename_i o9 i9 y9 hlk
      simp only [Bool.and_eq_true, decide_eq_true_eq] at o1
      obtain ⟨⟨rfl, rfl⟩, rfl⟩ := o1
      obtain ⟨vm₁, X₁, st1⟩ := X.invokestatic hx M.1 (C.1 _ (List.mem_of_getElem? hlk) rfl args) hn hm hstat hkP hini ⟨m3, m4⟩ (g := F0 m pc ls (st.map (cv w.b w.base))) rfl hlen hstk (by rw [M.2.1]; exact hdg)
      obtain ⟨t, h1, h2⟩ := fin vm₁ X₁
      exact ⟨t, st1 t h1, h2⟩
    · rename_i o9 i9 y9 host9 hlk
      simp only [Bool.and_eq_true, decide_eq_true_eq] at o1
      obtain ⟨⟨rfl, rfl⟩, rfl⟩ := o1
      obtain ⟨vm₁, X₁, st1⟩ := X.invokestaticNest hx M.1 (C.1 _ (List.mem_of_getElem? hlk) rfl args) hn hm hstat hkP hini ⟨m3, m4⟩ (g := F0 m pc ls (st.map (cv w.b w.base))) rfl hlen hstk (by rw [M.2.1]; exact hdg)
      obtain ⟨t, h1, h2⟩ := fin vm₁ X₁
      exact ⟨t, st1 t h1, h2⟩
    · cases o1
  · cases h
theorem drop_head {b q : Nat} {st : List Value} (h : (st.drop b).head? = some (.ref q)) : st.drop b = .ref q :: st.drop (b + 1) := by
  cases hd : st.drop b with
  | nil => rw [hd] at h; cases h
  | cons v t =>
    rw [hd] at h
    have h1 : v = .ref q := Option.some.inj h
    rw [h1, ← List.drop_drop, hd]
    rfl
theorem so_callV {ix a b z : Nat} {as : List Value} {mj : Nat} {r : Out} (B : Bx p l R s m meth c w mi sh0 sl0) (I : In w s sh0 sl0 mi lc (sh, gi, gl, gr) sl H locs ls) (hdg : decode (mB mi) pc = .ok (.invokevirtual ix, 3)) (ho : okC mi ix a b 1 z = true) (hM : okM a = true) (h : s_call a b pc lc st sh gi gl gr sl 1 = some (mj, as, y))
    (IH : IHc p l e w mj as (sh, gi, gl, gr) sl r) (Kr : ∀ v, r.1 = .inl v → KK p l e R s m args below meth c w sh0 sl0 Q (mi, y.1 + 3, y.2.1, v.toList ++ y.2.2.1, r.2))
    (Kt : ∀ q, r.1 = .inr q → r.2.1.1[q.1]? = some (10 + q.2, 0) → q.1 ≠ 0 → q.2 < 3 → KT p l e R s m args below meth c w sh0 sl0 Q mi y.1 y.2.1 ls (y.2.2.1.map (cv w.b w.base)) q r.2) (ha : a < 9000) :
    W p l e R s m args below meth c H locs (sh.length - sh0) (sl - sl0) Q (F0 m pc ls (st.map (cv w.b w.base))) := by
  refine W.sized fun hsz => ?_
  have hz := In.size B I hsz
  have B' := B
  obtain ⟨hx, htr, C, M, Rm, hsh0, hs0⟩ := B
  unfold s_call at h
  rw [if_neg (by omega), if_neg (by decide)] at h
  split at h
  · rename_i q hhd
    split at h
    · rename_i x n9 hq
      split at h
      · rename_i hcs
        obtain ⟨rfl, hb, hw1, hw2⟩ := hcs
        cases h
        unfold okC okL at ho
        simp only [Bool.and_eq_true, decide_eq_true_eq] at ho
        obtain ⟨⟨⟨⟨⟨⟨o1, o2⟩, o3⟩, o4⟩, o5⟩, -⟩, -⟩ := ho
        obtain ⟨mk, methk, ck, hn, hm, hc, c1, c2, c3, c4, c5, c6⟩ := okM_facts C hM
        have hM' := hM
        unfold okM at hM'
        rw [o2] at hM'
        simp only [Bool.and_eq_true, decide_eq_true_eq] at hM'
        obtain ⟨⟨⟨⟨⟨⟨-, m2⟩, m3⟩, m4⟩, -⟩, -⟩, ⟨⟨m7, m8⟩, m9⟩, m10⟩ := hM'
        obtain ⟨mk', methk', hn', hm', hst', hab'⟩ := Cond.instanceMethod_spec (C.wd m7 rfl args)
        cases hn.symm.trans hn'
        cases hm.symm.trans hm'
        obtain ⟨q, rfl⟩ := ne0 I.1 hq (by omega)
        obtain ⟨rc, hrc, hrn⟩ := Option.map_eq_some_iff.mp m10
        have hwq := wo (gi := gi) (gl := gl) (gr := gr) (b := w.b) (base := w.base) (aC := w.aC) (show mK a < 100 by omega) hq
        obtain ⟨cell, g1, g2, g3⟩ := va_recv C.2.1 I.1.2.1 hrc hwq
        rw [hrn] at g3
        obtain ⟨s1, s2, s3, q1, q2, q3, q4, kP, hkP, hkPi⟩ := Cond.selects_spec (C.wd m8 rfl args)
        cases g3.symm.trans q1
        cases (State.methodFound?_of_named hn ⟨m3, m4⟩).symm.trans q2
        cases hn.symm.trans q3
        have hlen : ((st.take b).reverse.map (cv w.b w.base)).length = methk.sig.parameters.length := by
          rw [← okM_desc hM o3 c6]
          simp [hb]
        have hstk : (F0 m pc ls (st.map (cv w.b w.base))).stack = ((st.take b).reverse.map (cv w.b w.base)).reverse ++ .ref (w.base + q) :: (st.drop (b + 1)).map (cv w.b w.base) := by
          show st.map (cv w.b w.base) = _
          have e9 : Value.ref (w.base + q) :: (st.drop (b + 1)).map (cv w.b w.base) = (st.drop b).map (cv w.b w.base) := by rw [drop_head hhd]; rfl
          rw [e9, List.map_reverse, List.reverse_reverse, ← List.map_append, List.take_append_drop]
        have hw2' : wsum (.ref (q + 1) :: (st.take b).reverse) ≤ mL a := by
          have e9 : wsum (.ref (q + 1) :: (st.take b).reverse) = 1 + wsum (st.take b).reverse := by
            unfold wsum
            rw [List.map_cons, List.sum_cons]
            rfl
          rw [wsum_rev] at e9
          omega
        intro T hT X
        have hselP : selectMethod e.platform s.vm cell.cls mk = .method mk := by rw [Launch.admits_selectMethod X.admits]; exact q4
        have fin : ∀ vm₁, Stand p l e R s m args below meth c (T.setVm vm₁) locs (sh.length - sh0) (sl - sl0) → ∃ t, (∀ acts, Steps p.tables e below (doInvoke e ((T.setVm vm₁).setTop (F0 m pc ls ((st.drop (b + 1)).map (cv w.b w.base)))) acts mk (.ref (w.base + q) :: (st.take b).reverse.map (cv w.b w.base)).toArray).1 t) ∧ Q t := fun vm₁ X₁ =>
          call_core (h0 := (sh, gi, gl, gr)) (mj := a) (as := .ref (q + 1) :: (st.take b).reverse) (rest := st.drop (b + 1)) (r := r) (ig := .invokevirtual ix) B' I hT hz X₁ hdg hn hm hc c1 c2 c3 c4 c5 m2 o4 o5 hw1 hw2' IH Kr Kt
        split at o1
        · rename_i o9 i9 y9 hlk
          simp only [Bool.and_eq_true, decide_eq_true_eq] at o1
          obtain ⟨⟨rfl, rfl⟩, rfl⟩ := o1
          obtain ⟨vm₁, X₁, st1⟩ := X.invokevirtual hx M.1 (C.1 _ (List.mem_of_getElem? hlk) rfl args) hn hm hst' hkP hkPi ⟨m3, m4⟩ (a := w.base + q) (cell := cell) (by rw [hT]; exact g1) (fun z h9 => by rw [h9] at g2; cases g2) hselP hm hab' hkP hkPi (g := F0 m pc ls (st.map (cv w.b w.base))) rfl hlen hstk (by rw [M.2.1]; exact hdg)
          obtain ⟨t, h1, h2⟩ := fin vm₁ X₁
          exact ⟨t, st1 t h1, h2⟩
        · rename_i o9 i9 y9 host9 hlk
          simp only [Bool.and_eq_true, decide_eq_true_eq] at o1
          obtain ⟨⟨rfl, rfl⟩, rfl⟩ := o1
          obtain ⟨vm₁, X₁, st1⟩ := X.invokevirtualNest hx M.1 (C.1 _ (List.mem_of_getElem? hlk) rfl args) hn hm hst' hkP hkPi ⟨m3, m4⟩ (a := w.base + q) (cell := cell) (by rw [hT]; exact g1) (fun z h9 => by rw [h9] at g2; cases g2) hselP hm hab' hkP hkPi (g := F0 m pc ls (st.map (cv w.b w.base))) rfl hlen hstk (by rw [M.2.1]; exact hdg)
          obtain ⟨t, h1, h2⟩ := fin vm₁ X₁
          exact ⟨t, st1 t h1, h2⟩
        · cases o1
      · cases h
    · cases h
  · cases h
theorem so_callI {ix a b z : Nat} {as : List Value} {mj : Nat} {r : Out} (B : Bx p l R s m meth c w mi sh0 sl0) (I : In w s sh0 sl0 mi lc (sh, gi, gl, gr) sl H locs ls) (hdg : decode (mB mi) pc = .ok (.invokespecial ix, 3)) (ho : okC mi ix a b 2 z = true) (hM : okM a = true) (h : s_call a b pc lc st sh gi gl gr sl 2 = some (mj, as, y))
    (IH : IHc p l e w mj as (sh, gi, gl, gr) sl r) (Kr : ∀ v, r.1 = .inl v → KK p l e R s m args below meth c w sh0 sl0 Q (mi, y.1 + 3, y.2.1, v.toList ++ y.2.2.1, r.2))
    (Kt : ∀ q, r.1 = .inr q → r.2.1.1[q.1]? = some (10 + q.2, 0) → q.1 ≠ 0 → q.2 < 3 → KT p l e R s m args below meth c w sh0 sl0 Q mi y.1 y.2.1 ls (y.2.2.1.map (cv w.b w.base)) q r.2) (ha : a < 9000) :
    W p l e R s m args below meth c H locs (sh.length - sh0) (sl - sl0) Q (F0 m pc ls (st.map (cv w.b w.base))) := by
  refine W.sized fun hsz => ?_
  have hz := In.size B I hsz
  have B' := B
  obtain ⟨hx, htr, C, M, Rm, hsh0, hs0⟩ := B
  unfold s_call at h
  rw [if_neg (by omega), if_neg (by decide)] at h
  split at h
  · rename_i q hhd
    split at h
    · rename_i x n9 hq
      split at h
      · rename_i hcs
        obtain ⟨rfl, hb, hw1, hw2⟩ := hcs
        cases h
        unfold okC okL at ho
        simp only [Bool.and_eq_true, decide_eq_true_eq] at ho
        obtain ⟨⟨⟨⟨⟨⟨o1, o2⟩, o3⟩, o4⟩, o5⟩, -⟩, -⟩ := ho
        obtain ⟨mk, methk, ck, hn, hm, hc, c1, c2, c3, c4, c5, c6⟩ := okM_facts C hM
        have hM' := hM
        unfold okM at hM'
        rw [o2] at hM'
        simp only [Bool.and_eq_true, decide_eq_true_eq] at hM'
        obtain ⟨⟨⟨⟨⟨⟨m1, m2⟩, m3⟩, m4⟩, -⟩, -⟩, ⟨⟨⟨m7, m8⟩, m9⟩, m10⟩, m11⟩ := hM'
        obtain ⟨q, rfl⟩ := ne0 I.1 hq (by omega)
        have hcode : (Cond.code (mY a) (mB a) (mL a) none).before args s = true := by
          unfold cdOk at m1
          rw [m9, m10] at m1
          exact C.wd m1 rfl args
        have hlen : ∀ sig, parseMethodDescriptor (mY a).desc = some sig → ((st.take b).reverse.map (cv w.b w.base)).length = sig.parameters.length := fun sig hs => by
          rw [← okM_desc hM o3 hs]
          simp [hb]
        have hstk : (F0 m pc ls (st.map (cv w.b w.base))).stack = ((st.take b).reverse.map (cv w.b w.base)).reverse ++ .ref (w.base + q) :: (st.drop (b + 1)).map (cv w.b w.base) := by
          show st.map (cv w.b w.base) = _
          have e9 : Value.ref (w.base + q) :: (st.drop (b + 1)).map (cv w.b w.base) = (st.drop b).map (cv w.b w.base) := by rw [drop_head hhd]; rfl
          rw [e9, List.map_reverse, List.reverse_reverse, ← List.map_append, List.take_append_drop]
        have hw2' : wsum (.ref (q + 1) :: (st.take b).reverse) ≤ mL a := by
          have e9 : wsum (.ref (q + 1) :: (st.take b).reverse) = 1 + wsum (st.take b).reverse := by
            unfold wsum
            rw [List.map_cons, List.sum_cons]
            rfl
          rw [wsum_rev] at e9
          omega
        intro T hT X
        have hpl : e.platform.magicAccessors = ({} : Platform).magicAccessors := by rw [X.admits.platform]
        have fin : ∀ vm₁, s.WarmedH vm₁ → ∃ t, (∀ acts, Steps p.tables e below (doInvoke e ((T.setVm vm₁).setTop (F0 m pc ls ((st.drop (b + 1)).map (cv w.b w.base)))) acts mk (.ref (w.base + q) :: (st.take b).reverse.map (cv w.b w.base)).toArray).1 t) ∧ Q t := fun vm₁ hW₁ =>
          call_core (h0 := (sh, gi, gl, gr)) (mj := a) (as := .ref (q + 1) :: (st.take b).reverse) (rest := st.drop (b + 1)) (r := r) (ig := .invokespecial ix) B' I hT hz (X.noted hW₁) hdg hn hm hc c1 c2 c3 c4 c5 m2 o4 o5 hw1 hw2' IH Kr Kt
        split at o1
        · rename_i o9 i9 y9 hlk
          simp only [Bool.and_eq_true, decide_eq_true_eq] at o1
          obtain ⟨⟨rfl, rfl⟩, rfl⟩ := o1
          obtain ⟨mk', methM, cM, kP, vm₁, hnamed, -, -, -, -, -, -, -, hW₁, st1⟩ := Steps.initColdArgs (e := e) X.here hx X.warmed hpl M.1 m8 ⟨m3, m4⟩ (C.1 _ (List.mem_of_getElem? hlk) rfl args) (C.wd m7 rfl args) hcode (f := F0 m pc ls (st.map (cv w.b w.base))) rfl hlen hstk (by rw [M.2.1]; exact hdg)
          cases hn.symm.trans hnamed
          obtain ⟨t, h1, h2⟩ := fin vm₁ hW₁
          exact ⟨t, st1 t h1, h2⟩
        · rename_i o9 i9 y9 host9 hlk
          simp only [Bool.and_eq_true, decide_eq_true_eq] at o1
          obtain ⟨⟨rfl, rfl⟩, rfl⟩ := o1
          obtain ⟨mk', methM, cM, kP, vm₁, hnamed, -, -, -, -, -, -, -, hW₁, st1⟩ := Steps.initColdArgsNest (e := e) X.here hx X.warmed hpl M.1 m8 ⟨m3, m4⟩ (C.1 _ (List.mem_of_getElem? hlk) rfl args) (C.wd m7 rfl args) hcode (f := F0 m pc ls (st.map (cv w.b w.base))) rfl hlen hstk (by rw [M.2.1]; exact hdg)
          cases hn.symm.trans hnamed
          obtain ⟨t, h1, h2⟩ := fin vm₁ hW₁
          exact ⟨t, st1 t h1, h2⟩
        · cases o1
      · cases h
    · cases h
  · cases h
/-- not caught: it goes on to the caller -/
theorem so_leave {rest : List Value} {q : Nat × Nat} {hs : Hp × Nat} (B : Bx p l R s m meth c w mi sh0 sl0) (hh : hnd mi pc q.2 = some none) (hTe : hT mi = (hXl.getD mi []).map (fun z => (z.1, z.2.1, z.2.2.1, z.2.2.2.2.1))) (h1 : hs.1.1[q.1]? = some (10 + q.2, 0)) (h2 : q.1 ≠ 0) (h3 : q.2 < 3) : KT p l e R s m args below meth c w sh0 sl0 (QQ w below s sh0 sl0 (.inr q, hs)) mi pc lc ls rest q hs := by
  intro T locs I hz X
  have B' := B
  obtain ⟨hx, -, C, M, -, -, -⟩ := B
  have hout : ∀ x ∈ c.exceptionTable.toList, covers x (F0 m pc ls rest).pc = false := by
    intro x hx9
    have h9 : (x.startPc, x.endPc, x.handlerPc, x.catchType) ∈ hX mi := by
      rw [← M.2.2.2.2.2.2]
      exact List.mem_map.mpr ⟨x, hx9, rfl⟩
    obtain ⟨z, hz9, he⟩ := List.mem_map.mp h9
    unfold hnd at hh
    split at hh
    · cases hf : (hT mi).find? (fun q' => cvr pc q' && q'.2.2.2 == q.2) with
      | none => rw [hf] at hh; cases hh
      | some y => rw [hf] at hh; cases hh
    · rename_i hany
      have hz8 : (z.1, z.2.1, z.2.2.1, z.2.2.2.2.1) ∈ hT mi := by rw [hTe]; exact List.mem_map.mpr ⟨z, hz9, rfl⟩
      have h8 : cvr pc (z.1, z.2.1, z.2.2.1, z.2.2.2.2.1) = false := by
        cases h7 : cvr pc (z.1, z.2.1, z.2.2.1, z.2.2.2.2.1)
        · rfl
        · exact absurd (List.any_eq_true.mpr ⟨_, hz8, h7⟩) hany
      have e1 : z.1 = x.startPc := congrArg (fun q => q.1) he
      have e2 : z.2.1 = x.endPc := congrArg (fun q => q.2.1) he
      simp only [cvr, e1, e2] at h8
      exact h8
  obtain ⟨st1, hrun, hend, hW, hsame⟩ := X.leaveThrown (ad w.b w.base q.1) (g := F0 m pc ls rest) rfl rfl rfl hout M.2.2.2.2.1
  obtain ⟨⟨sh, gi, gl, gr⟩, sl⟩ := hs
  refine ⟨_, st1, QQ.of (o := (.inr q, (sh, gi, gl, gr), sl)) B' I hz rfl ⟨h1, h2, h3⟩ hrun hend hW rfl I.2.1.2.2 hsame⟩
theorem ct_of {pl : Platform} (hpl : pl.magicAccessors = ({} : Platform).magicAccessors) {d : ClassId} {own : String} (C : Cx w s) (hown : s.vm.findClass own = some d) {E : Nat} (hE : E < 3) {pc' : Nat} : ∀ (hs : List (Nat × Nat × Nat × Nat × Nat × Nat)) (tb : List ExceptionTableEntry), tb.map (fun h => (h.startPc, h.endPc, h.handlerPc, h.catchType)) = hs.map (fun q => (q.1, q.2.1, q.2.2.1, q.2.2.2.1)) →
    (∀ q ∈ hs, q.2.2.2.1 ≠ 0 ∧ q.2.2.2.2.1 < 3 ∧ wAt q.2.2.2.2.2 (.classLink own q.2.2.2.1 (exN q.2.2.2.2.1)) = true) → ((hs.map (fun z => (z.1, z.2.1, z.2.2.1, z.2.2.2.2.1))).find? (fun q => cvr pc q && q.2.2.2 == E)).map (fun q => q.2.2.1) = some pc' → ctF pl s d (w.D.1 (10 + E)) pc pc' tb
  | [], tb, _, _, hf => by cases hf
  | z :: t, [], he, _, _ => by cases he
  | z :: t, x :: tb, he, hok, hf => by
    obtain ⟨h1, h2, h3⟩ := hok z List.mem_cons_self
    simp only [List.map_cons, List.cons.injEq] at he
    obtain ⟨he1, he2⟩ := he
    have e1 : x.startPc = z.1 := congrArg (fun q => q.1) he1
    have e2 : x.endPc = z.2.1 := congrArg (fun q => q.2.1) he1
    have e3 : x.handlerPc = z.2.2.1 := congrArg (fun q => q.2.2.1) he1
    have e4 : x.catchType = z.2.2.2.1 := congrArg (fun q => q.2.2.2) he1
    have hcv : covers x pc = cvr pc (z.1, z.2.1, z.2.2.1, z.2.2.2.2.1) := by
      simp only [covers, cvr, e1, e2]
    have ih := ct_of hpl C hown hE t tb he2 (fun q hq => hok q (List.mem_cons_of_mem _ hq)) (pc' := pc')
    obtain ⟨cT, hcT, hlk⟩ := Cond.classLink_spec hown (C.wd h3 rfl #[]) pl hpl
    have hown9 : ∀ i, i < 3 → s.vm.findClass (exN i) = some (w.D.1 (10 + i)) := fun i hi => (C.2.1.1 (10 + i) _ (ex_kCl i hi)).2.1
    rw [List.map_cons, List.find?_cons] at hf
    by_cases hc : cvr pc (z.1, z.2.1, z.2.2.1, z.2.2.2.2.1) = true
    · by_cases hEE : z.2.2.2.2.1 = E
      · have hp : (cvr pc (z.1, z.2.1, z.2.2.1, z.2.2.2.2.1) && (z.1, z.2.1, z.2.2.1, z.2.2.2.2.1).2.2.2 == E) = true := by rw [hc]; simp [hEE]
        rw [hp] at hf
        have hpc : z.2.2.1 = pc' := Option.some.inj hf
        refine Or.inr (Or.inl ⟨by rw [hcv]; exact hc, ⟨by rw [e4]; exact h1, cT, by rw [e4]; exact hlk, ?_⟩, by rw [e3]; exact hpc⟩)
        rw [hEE] at hcT
        cases Option.some.inj (hcT.symm.trans (hown9 E hE))
        exact va_assign (C.2.1.1 (10 + E) _ (ex_kCl E hE)).2
      · have hp : (cvr pc (z.1, z.2.1, z.2.2.1, z.2.2.2.2.1) && (z.1, z.2.1, z.2.2.1, z.2.2.2.2.1).2.2.2 == E) = false := by rw [hc]; simp [hEE]
        rw [hp] at hf
        refine Or.inr (Or.inr ⟨by rw [hcv]; exact hc, ⟨by rw [e4]; exact h1, cT, by rw [e4]; exact hlk, ?_⟩, ih hf⟩)
        obtain ⟨u1, u2, g1, g2, g3⟩ := C.2.2.2.2.2.2.2.2 E hE _ h2 (fun q => hEE q.symm)
        cases Option.some.inj (g1.symm.trans (hown9 E hE))
        cases Option.some.inj (g2.symm.trans hcT)
        exact g3
    · have hp : (cvr pc (z.1, z.2.1, z.2.2.1, z.2.2.2.2.1) && (z.1, z.2.1, z.2.2.1, z.2.2.2.2.1).2.2.2 == E) = false := by
        cases h9 : cvr pc (z.1, z.2.1, z.2.2.1, z.2.2.2.2.1)
        · rfl
        · exact absurd h9 hc
      rw [hp] at hf
      exact Or.inl ⟨by rw [hcv]; simpa using hc, ih hf⟩
theorem so_caught {rest : List Value} {q : Nat × Nat} {hs : Hp × Nat} {pc' : Nat} (B : Bx p l R s m meth c w mi sh0 sl0) (hh : hnd mi pc q.2 = some (some pc')) (hTe : hT mi = (hXl.getD mi []).map (fun z => (z.1, z.2.1, z.2.2.1, z.2.2.2.2.1)))
    (hok : ∀ z ∈ hXl.getD mi [], z.2.2.2.1 ≠ 0 ∧ z.2.2.2.2.1 < 3 ∧ wAt z.2.2.2.2.2 (.classLink (mY mi).cls z.2.2.2.1 (exN z.2.2.2.2.1)) = true) (h1 : hs.1.1[q.1]? = some (10 + q.2, 0)) (h2 : q.1 ≠ 0) (h3 : q.2 < 3)
    (K : KK p l e R s m args below meth c w sh0 sl0 Q (mi, pc', lc, [.ref q.1], hs)) : KT p l e R s m args below meth c w sh0 sl0 Q mi pc lc ls rest q hs := by
  intro T locs I hz X
  obtain ⟨hx, -, C, M, -, -, -⟩ := B
  have hpl : e.platform.magicAccessors = ({} : Platform).magicAccessors := by rw [X.admits.platform]
  have hf : ((hT mi).find? (fun z => cvr pc z && z.2.2.2 == q.2)).map (fun z => z.2.2.1) = some pc' := by
    unfold hnd at hh
    split at hh
    · cases hf : (hT mi).find? (fun z => cvr pc z && z.2.2.2 == q.2) with
      | none => rw [hf] at hh; cases hh
      | some y =>
        rw [hf] at hh
        exact congrArg _ (Option.some.inj (Option.some.inj hh))
    · cases hh
  rw [hTe] at hf
  obtain ⟨k, hk⟩ : ∃ k, q.1 = k + 1 := ⟨q.1 - 1, by omega⟩
  have h1' := h1
  rw [hk] at h1'
  have hw := wo (gi := hs.1.2.1) (gl := hs.1.2.2.1) (gr := hs.1.2.2.2) (b := w.b) (base := w.base) (aC := w.aC) (show 10 + q.2 < 100 by omega) h1'
  obtain ⟨rc, hrc, cell, g1, g2, g3, -⟩ := I.1.2.1 k _ hw
  have hka : ad w.b w.base q.1 = w.base + k := by rw [hk]; rfl
  have g2' : cell.cls = w.D.1 (10 + q.2) := g2
  obtain ⟨vm', X', st1⟩ := ct_caught X (ad w.b w.base q.1) (g := F0 m pc ls rest) rfl (cell := cell) (pc' := pc') (by rw [hka]; exact g1) g3 (by
    rw [g2']
    obtain ⟨-, kC, hkC, -⟩ := (C.2.1.1 (10 + q.2) _ (ex_kCl q.2 h3)).2
    exact ⟨kC, hkC⟩) (by
    rw [g2']
    exact ct_of hpl C M.1 h3 (hXl.getD mi []) c.exceptionTable.toList M.2.2.2.2.2.2 hok hf)
  obtain ⟨t, s1, hq⟩ := K T.heap locs ls I (T.setVm vm') rfl X'
  exact ⟨t, st1 t s1, hq⟩
end
end
section
/-! the tables' check of one entry, and the soundness of the small machine -/
def ntOk (t : ArrayType) (a : Nat) : Bool := decide (a < 3) && decide (newarray.typeOf t = (match a with | 0 => FieldType.int | 1 => .boolean | _ => .long))
def okE (mi pc : Nat) (q : En) : Bool := match q with
  | (i, len, a, b, c, p) => match i with
    | .iconst _ => len == 1
    | .bipush _ => len == 2
    | .sipush _ => len == 3
    | .lconst _ => len == 1
    | .iload _ => len == 2
    | .iload_n _ => len == 1
    | .aload _ => len == 2
    | .aload_n _ => len == 1
    | .istore _ => len == 2
    | .istore_n _ => len == 1
    | .astore _ => len == 2
    | .astore_n _ => len == 1
    | .iinc _ _ => len == 3
    | .iadd => len == 1
    | .isub => len == 1
    | .imul => len == 1
    | .iand => len == 1
    | .ior => len == 1
    | .ixor => len == 1
    | .ishl => len == 1
    | .ishr => len == 1
    | .idiv => len == 1
    | .irem => len == 1
    | .i2l => len == 1
    | .lcmp => len == 1
    | .dup => len == 1
    | .dup2 => len == 1
    | .pop => len == 1
    | .goto o => len == 3 && decide ((pc : Int) + o = (a : Int))
    | .ifCond _ o => len == 3 && decide ((pc : Int) + o = (a : Int))
    | .if_icmp _ o => len == 3 && decide ((pc : Int) + o = (a : Int))
    | .tableswitch d _ _ offs => decide (0 ≤ (pc : Int) + d) && offs.toList.all (fun o => decide (0 ≤ (pc : Int) + o))
    | .lookupswitch d ps => decide (0 ≤ (pc : Int) + d) && ps.toList.all (fun o => decide (0 ≤ (pc : Int) + o.2)) && (ps.toList.zip (ps.toList.drop 1)).all (fun (a, next) => a.1 < next.1)
    | .getfield ix => len == 3 && okF mi ix a b c p
    | .putfield ix => len == 3 && okF mi ix a b c p && okP mi a b
    | .iaload => len == 1
    | .baload => len == 1
    | .laload => len == 1
    | .aaload => len == 1
    | .iastore => len == 1
    | .bastore => len == 1
    | .lastore => len == 1
    | .aastore => len == 1
    | .arraylength => len == 1
    | .newarray t => len == 2 && ntOk t a
    | .anewarray ix => len == 3 && decide (3 ≤ a) && decide (a < 6) && wAt p (.classLink (mY mi).cls ix (arN.getD (a - 3) "")) && wAt b (.arrayOver (.object (arN.getD (a - 3) "")))
    | .new ix => len == 3 && (if 900 ≤ a then okT mi pc ix a b c p else okN mi ix a b p)
    | .invokestatic ix => len == 3 && (if a = 9002 then wAt p (.methodLink (mY mi).cls ix Lib.Math.min.name) && decide (1 ≤ nF mi) && decide (21 ≤ nW mi) else if a = 9003 then wAt p (.methodLink (mY mi).cls ix arraycopyName) && decide (1 ≤ nF mi) && decide (8 + (nativeFrameWords "java/lang/System" "arraycopy" 5 + 11) ≤ nW mi) else okC mi ix a b 0 p)
    | .invokevirtual ix => len == 3 && okC mi ix a b 1 p
    | .invokespecial ix => len == 3 && (if a = 9001 then wAt p (.methodLink (mY mi).cls ix Lib.objectInit) && decide (1 ≤ nF mi) && decide (20 ≤ nW mi) else if 9000 ≤ a then true else okC mi ix a b 2 p)
    | .ireturn => len == 1
    | .areturn => len == 1
    | .return_ => len == 1
    | _ => true
def okQ (k : Nat) (z : Nat × En) : Bool := decide (decode (mB k) z.1 = .ok (z.2.1, z.2.2.1)) && okE k z.1 z.2
def okB : Bool := wAt (bP.getD 0 0) (.instanceMethod Lib.objectInit) && wAt (bP.getD 1 0) (.code Lib.objectInit ⟨#[0xb1]⟩ 1 none) && wAt (bP.getD 2 0) (.static Lib.Math.min.name) && wAt (bP.getD 3 0) (.initialized "java/lang/Math") && wAt (bP.getD 4 0) (.code Lib.Math.min.name Lib.Math.min.code 2 (some .int)) &&
  wAt (bP.getD 5 0) (.native arraycopyName) && wAt (bP.getD 6 0) (.static arraycopyName) && wAt (bP.getD 7 0) (.initialized "java/lang/System")
/-- all that the tables owe -/
def TB : Prop := (∀ k, k < mYl.length → ∀ z ∈ cds.getD k [], okQ k z = true) ∧ (∀ x, x < 10 → okK x = true) ∧ (∀ E, E < 3 → ∀ v ∈ exWs E, v ∈ lw_tbl ∧ okw v = true) ∧ okB = true ∧ (∀ x, x ∈ [FieldType.int, .boolean, .long] → Cond.arrayClass x ∈ lw_tbl) ∧
  (∀ j, j < arN.length → elc (103 + j) < 10 ∧ ∃ r, kCl[elc (103 + j)]? = some r ∧ r.1 = arN.getD j "") ∧ (∀ a, a < mYl.length → 0 < a → okM a = true) ∧ (∀ a, hT a = (hXl.getD a []).map (fun z => (z.1, z.2.1, z.2.2.1, z.2.2.2.2.1))) ∧ hXl.getD 0 [] = [] ∧ cds.length = mYl.length
theorem cd_ok (tb : TB) {mi pc : Nat} {q : En} (h : cd mi pc = some q) : decode (mB mi) pc = .ok (q.1, q.2.1) ∧ okE mi pc q = true := by
  unfold cd at h
  split at h
  · rename_i li hl
    obtain ⟨z, hz, rfl⟩ := Option.map_eq_some_iff.mp h
    have h1 := List.mem_of_find?_eq_some hz
    have h2 : z.1 = pc := by simpa using List.find?_some hz
    have hlt := (List.getElem?_eq_some_iff.mp hl).1
    rw [tb.2.2.2.2.2.2.2.2.2] at hlt
    have h3 := tb.1 mi hlt z (by rw [List.getD_eq_getElem?_getD, hl]; exact h1)
    unfold okQ at h3
    rw [Bool.and_eq_true, decide_eq_true_eq] at h3
    rw [← h2]
    exact h3
  · cases h
theorem hX_ok (tb : TB) (mi : Nat) (hm : mi < mYl.length) : ∀ z ∈ hXl.getD mi [], z.2.2.2.1 ≠ 0 ∧ z.2.2.2.2.1 < 3 ∧ wAt z.2.2.2.2.2 (.classLink (mY mi).cls z.2.2.2.1 (exN z.2.2.2.2.1)) = true := by
  by_cases h0 : mi = 0
  · subst h0
    rw [tb.2.2.2.2.2.2.2.2.1]
    intro z hz
    cases hz
  · have h1 := tb.2.2.2.2.2.2.1 mi hm (by omega)
    unfold okM at h1
    simp only [Bool.and_eq_true, List.all_eq_true, decide_eq_true_eq] at h1
    intro z hz
    have h2 := h1.1.2 z hz
    exact ⟨h2.1.1, h2.1.2, h2.2⟩
section
variable {p : Program} {l : Launch} {e : Env} {R : Room} {s : State} {m : MethodId} {args : Array Value} {below : List Frame} {meth : Method} {c : Code} {Q : State → Prop}
variable {w : Wd} {mi sh0 sl0 pc : Nat} {lc : Lc} {st : List Value} {sh : List (Nat × Nat)} {gi : Nat → Nat → Int32} {gl : Nat → Nat → Int64} {gr : Nat → Nat → Option Nat} {sl : Nat} {H : Heap} {locs : List Loc} {ls : Array Slot}
set_option maxHeartbeats 4000000 in
theorem so_step (tb : TB) {y : Cg} {i : Instr} {len a b k z : Nat} (B : Bx p l R s m meth c w mi sh0 sl0) (hcd : cd mi pc = some (i, len, a, b, k, z)) (h : stI i len a b k mi pc lc st sh gi gl gr sl = some y) (I : In w s sh0 sl0 mi lc (sh, gi, gl, gr) sl H locs ls) (K : KK p l e R s m args below meth c w sh0 sl0 Q (mi, y)) :
    W p l e R s m args below meth c H locs (sh.length - sh0) (sl - sl0) Q (F0 m pc ls (st.map (cv w.b w.base))) := by
  obtain ⟨hdg, hok⟩ := cd_ok tb hcd
  simp only at hdg
  have hx := B.1
  have hb := B.2.2.2.1.2.1
  have bb := tb.2.2.2.1
  unfold okB at bb
  simp only [Bool.and_eq_true] at bb
  obtain ⟨⟨⟨⟨⟨⟨⟨b0, b1⟩, b2⟩, b3⟩, b4⟩, b5⟩, b6⟩, b7⟩ := bb
  unfold stI at h
  split at h
  · obtain rfl : len = 1 := by simpa [okE] using hok
    exact lv_iconst hx hb hdg rfl (so_push h rfl I K)
  · obtain rfl : len = 2 := by simpa [okE] using hok
    exact lv_bipush hx hb hdg rfl (so_push h rfl I K)
  · obtain rfl : len = 3 := by simpa [okE] using hok
    exact lv_sipush hx hb hdg rfl (so_push h rfl I K)
  · obtain rfl : len = 1 := by simpa [okE] using hok
    exact lv_lconst hx hb hdg rfl (so_push h rfl I K)
  · obtain rfl : len = 2 := by simpa [okE] using hok
    obtain ⟨x, h1, h2⟩ := so_iload h I K
    exact lv_iload hx hb hdg h1 h2
  · obtain rfl : len = 1 := by simpa [okE] using hok
    obtain ⟨x, h1, h2⟩ := so_iload h I K
    exact lv_iload_n hx hb hdg rfl h1 h2
  · obtain rfl : len = 2 := by simpa [okE] using hok
    obtain ⟨x, h1, h2⟩ := so_aload h I K
    exact lv_aload hx hb hdg h1 h2
  · obtain rfl : len = 1 := by simpa [okE] using hok
    obtain ⟨x, h1, h2⟩ := so_aload h I K
    exact lv_aload_n hx hb hdg rfl h1 h2
  · obtain rfl : len = 2 := by simpa [okE] using hok
    obtain ⟨x, r, lc', e1, e2, e3, e4⟩ := so_istore h I K
    rw [e1]
    exact lv_istore hx hb hdg I.2.2.1 e2 e3 e4
  · obtain rfl : len = 1 := by simpa [okE] using hok
    obtain ⟨x, r, lc', e1, e2, e3, e4⟩ := so_istore h I K
    rw [e1]
    exact lv_istore_n hx hb hdg rfl I.2.2.1 e2 e3 e4
  · obtain rfl : len = 2 := by simpa [okE] using hok
    obtain ⟨x, r, lc', e1, e2, e3, e4⟩ := so_astore h I K
    rw [e1]
    exact lv_astore hx hb hdg I.2.2.1 e2 e3 e4
  · obtain rfl : len = 1 := by simpa [okE] using hok
    obtain ⟨x, r, lc', e1, e2, e3, e4⟩ := so_astore h I K
    rw [e1]
    exact lv_astore_n hx hb hdg rfl I.2.2.1 e2 e3 e4
  · obtain rfl : len = 3 := by simpa [okE] using hok
    exact so_iinc hx hb hdg h I K
  · obtain rfl : len = 1 := by simpa [okE] using hok
    obtain ⟨x, y, r, e1, e2⟩ := so_bin h I K
    rw [e1]
    exact lv_iadd hx hb hdg e2
  · obtain rfl : len = 1 := by simpa [okE] using hok
    obtain ⟨x, y, r, e1, e2⟩ := so_bin h I K
    rw [e1]
    exact lv_isub hx hb hdg e2
  · obtain rfl : len = 1 := by simpa [okE] using hok
    obtain ⟨x, y, r, e1, e2⟩ := so_bin h I K
    rw [e1]
    exact lv_imul hx hb hdg e2
  · obtain rfl : len = 1 := by simpa [okE] using hok
    obtain ⟨x, y, r, e1, e2⟩ := so_bin h I K
    rw [e1]
    exact lv_iand hx hb hdg e2
  · obtain rfl : len = 1 := by simpa [okE] using hok
    obtain ⟨x, y, r, e1, e2⟩ := so_bin h I K
    rw [e1]
    exact lv_ior hx hb hdg e2
  · obtain rfl : len = 1 := by simpa [okE] using hok
    obtain ⟨x, y, r, e1, e2⟩ := so_bin h I K
    rw [e1]
    exact lv_ixor hx hb hdg e2
  · obtain rfl : len = 1 := by simpa [okE] using hok
    obtain ⟨x, y, r, e1, e2⟩ := so_bin h I K
    rw [e1]
    exact lv_ishl hx hb hdg e2
  · obtain rfl : len = 1 := by simpa [okE] using hok
    obtain ⟨x, y, r, e1, e2⟩ := so_bin h I K
    rw [e1]
    exact lv_ishr hx hb hdg e2
  · obtain rfl : len = 1 := by simpa [okE] using hok
    obtain ⟨x, y, r, e1, e2, e3⟩ := so_div h I K
    rw [e1]
    exact lv_idiv hx hb hdg e2 e3
  · obtain rfl : len = 1 := by simpa [okE] using hok
    obtain ⟨x, y, r, e1, e2, e3⟩ := so_div h I K
    rw [e1]
    exact lv_irem hx hb hdg e2 e3
  · obtain rfl : len = 1 := by simpa [okE] using hok
    exact so_i2l hx hb hdg h I K
  · obtain rfl : len = 1 := by simpa [okE] using hok
    exact so_lcmp hx hb hdg h I K
  · obtain rfl : len = 1 := by simpa [okE] using hok
    exact so_dup hx hb hdg h I K
  · obtain rfl : len = 1 := by simpa [okE] using hok
    exact so_dup2 hx hb hdg h I K
  · obtain rfl : len = 1 := by simpa [okE] using hok
    exact so_pop hx hb hdg h I K
  · obtain ⟨rfl, ha⟩ : len = 3 ∧ _ := by simpa [okE] using hok
    obtain rfl := go_inv h
    exact lv_goto hx hb hdg ha (K H locs ls I)
  · obtain ⟨rfl, ha⟩ : len = 3 ∧ _ := by simpa [okE] using hok
    exact so_if hx hb hdg ha h I K
  · obtain ⟨rfl, ha⟩ : len = 3 ∧ _ := by simpa [okE] using hok
    exact so_icmp hx hb hdg ha h I K
  · simp only [okE, Bool.and_eq_true, decide_eq_true_eq, List.all_eq_true] at hok
    exact so_tab hx hb hdg hok.1 hok.2 h I K
  · simp only [okE, Bool.and_eq_true, decide_eq_true_eq] at hok
    exact so_look hx hb hdg hok.1.1 (fun o ho => by simpa using List.all_eq_true.mp hok.1.2 o ho) hok.2 h I K
  · simp only [okE, Bool.and_eq_true, beq_iff_eq] at hok
    obtain ⟨rfl, ho⟩ := hok
    exact so_get tb.2.1 B hdg ho h I K
  · simp only [okE, Bool.and_eq_true, beq_iff_eq] at hok
    obtain ⟨⟨rfl, ho⟩, hp⟩ := hok
    exact so_put tb.2.1 B hdg ho hp h I K
  · obtain rfl : len = 1 := by simpa [okE] using hok
    exact so_iald B hdg h I K
  · obtain rfl : len = 1 := by simpa [okE] using hok
    exact so_zald B hdg h I K
  · obtain rfl : len = 1 := by simpa [okE] using hok
    exact so_lald B hdg h I K
  · obtain rfl : len = 1 := by simpa [okE] using hok
    exact so_aald B hdg h I K
  · obtain rfl : len = 1 := by simpa [okE] using hok
    exact so_iast B hdg h I K
  · obtain rfl : len = 1 := by simpa [okE] using hok
    exact so_zast B hdg h I K
  · obtain rfl : len = 1 := by simpa [okE] using hok
    exact so_last B hdg h I K
  · obtain rfl : len = 1 := by simpa [okE] using hok
    exact so_aast tb.2.2.2.2.2.1 B hdg h I K
  · obtain rfl : len = 1 := by simpa [okE] using hok
    exact so_len B hdg h I K
  · simp only [okE, ntOk, Bool.and_eq_true, beq_iff_eq, decide_eq_true_eq] at hok
    obtain ⟨rfl, h1, h2⟩ := hok
    exact so_newa h2 h1 tb.2.2.2.2.1 B hdg h I K
  · simp only [okE, Bool.and_eq_true, beq_iff_eq, decide_eq_true_eq] at hok
    obtain ⟨⟨⟨⟨rfl, h1⟩, h2⟩, h3⟩, h4⟩ := hok
    obtain ⟨j, rfl⟩ : ∃ j, a = 3 + j := ⟨a - 3, by omega⟩
    rw [show 3 + j - 3 = j by omega] at h3 h4
    exact so_anew (show j < 3 by omega) h3 h4 B hdg h I K
  · split at h
    · cases h
    · rename_i ha
      simp only [okE, Bool.and_eq_true, beq_iff_eq] at hok
      obtain ⟨rfl, ho⟩ := hok
      rw [if_neg ha] at ho
      exact so_new tb.2.1 B hdg ho h I K
  · simp only [okE, Bool.and_eq_true, beq_iff_eq] at hok
    obtain ⟨rfl, ho⟩ := hok
    split at h
    · rename_i ha
      rw [if_pos ha] at ho
      simp only [Bool.and_eq_true, decide_eq_true_eq] at ho
      exact so_min ho.1.1 b2 b3 b4 ho.1.2 ho.2 B hdg h I K
    · rename_i ha
      rw [if_neg ha] at ho
      split at h
      · rename_i ha2
        rw [if_pos ha2] at ho
        simp only [Bool.and_eq_true, decide_eq_true_eq] at ho
        exact so_copy ho.1.1 b5 b6 b7 ho.1.2 ho.2 B hdg h I K
      · cases h
  · simp only [okE, Bool.and_eq_true, beq_iff_eq] at hok
    obtain ⟨rfl, ho⟩ := hok
    split at h
    · rename_i ha
      rw [if_pos ha] at ho
      simp only [Bool.and_eq_true, decide_eq_true_eq] at ho
      exact so_obj ho.1.1 b0 b1 ho.1.2 ho.2 B hdg h I K
    · cases h
  · cases h
theorem so_end (tb : TB) {i : Instr} {len a b k z : Nat} {o : Out} (B : Bx p l R s m meth c w mi sh0 sl0) (hcd : cd mi pc = some (i, len, a, b, k, z)) (h : enI i a mi st sh gi gl gr sl = some o) (I : In w s sh0 sl0 mi lc (sh, gi, gl, gr) sl H locs ls) :
    W p l e R s m args below meth c H locs (sh.length - sh0) (sl - sl0) (QQ w below s sh0 sl0 o) (F0 m pc ls (st.map (cv w.b w.base))) := by
  obtain ⟨hdg, hok⟩ := cd_ok tb hcd
  simp only at hdg
  unfold enI at h
  split at h
  · obtain rfl : len = 1 := by simpa [okE] using hok
    exact so_iret B hdg h I
  · obtain rfl : len = 1 := by simpa [okE] using hok
    exact so_aret B hdg h I
  · obtain rfl : len = 1 := by simpa [okE] using hok
    exact so_vret B hdg h I
  · split at h
    · rename_i ha
      simp only [okE, Bool.and_eq_true, beq_iff_eq] at hok
      obtain ⟨rfl, ho⟩ := hok
      rw [if_pos ha] at ho
      exact so_throw tb.2.2.1 B hdg ho h I
    · cases h
  · cases h
theorem call_lt {a b k : Nat} {q : Nat × List Value × Cg} (h : s_call a b pc lc st sh gi gl gr sl k = some q) : a < 9000 := by
  unfold s_call at h
  split at h
  · cases h
  · omega
theorem so_call (tb : TB) {y : Cg} {as : List Value} {mj : Nat} {r : Out} {i : Instr} {len a b k z : Nat} (B : Bx p l R s m meth c w mi sh0 sl0) (hcd : cd mi pc = some (i, len, a, b, k, z)) (h : caI i a b pc lc st sh gi gl gr sl = some (mj, as, y)) (I : In w s sh0 sl0 mi lc (sh, gi, gl, gr) sl H locs ls)
    (IH : IHc p l e w mj as (sh, gi, gl, gr) sl r) (Kr : ∀ v, r.1 = .inl v → KK p l e R s m args below meth c w sh0 sl0 Q (mi, y.1 + 3, y.2.1, v.toList ++ y.2.2.1, r.2))
    (Kt : ∀ q, r.1 = .inr q → r.2.1.1[q.1]? = some (10 + q.2, 0) → q.1 ≠ 0 → q.2 < 3 → KT p l e R s m args below meth c w sh0 sl0 Q mi y.1 y.2.1 ls (y.2.2.1.map (cv w.b w.base)) q r.2) :
    W p l e R s m args below meth c H locs (sh.length - sh0) (sl - sl0) Q (F0 m pc ls (st.map (cv w.b w.base))) := by
  obtain ⟨hdg, hok⟩ := cd_ok tb hcd
  simp only at hdg
  have okc : ∀ {ix n : Nat}, okC mi ix a b n z = true → okM a = true := fun {ix n} ho => by
    unfold okC at ho
    simp only [Bool.and_eq_true, decide_eq_true_eq] at ho
    exact tb.2.2.2.2.2.2.1 a ho.1.2 ho.2
  unfold caI at h
  split at h
  · simp only [okE, Bool.and_eq_true, beq_iff_eq] at hok
    obtain ⟨rfl, ho⟩ := hok
    have ha := call_lt h
    rw [if_neg (by omega), if_neg (by omega)] at ho
    exact so_callS B I hdg ho (okc ho) h IH Kr Kt ha
  · simp only [okE, Bool.and_eq_true, beq_iff_eq] at hok
    obtain ⟨rfl, ho⟩ := hok
    exact so_callV B I hdg ho (okc ho) h IH Kr Kt (call_lt h)
  · simp only [okE, Bool.and_eq_true, beq_iff_eq] at hok
    obtain ⟨rfl, ho⟩ := hok
    have ha := call_lt h
    rw [if_neg (by omega), if_neg (by omega)] at ho
    exact so_callI B I hdg ho (okc ho) h IH Kr Kt ha
  · cases h
end
theorem call_as {i : Instr} {a b pc sl : Nat} {lc : Lc} {st : List Value} {sh : List (Nat × Nat)} {gi : Nat → Nat → Int32} {gl : Nat → Nat → Int64} {gr : Nat → Nat → Option Nat} {q : Nat × List Value × Cg} (h : caI i a b pc lc st sh gi gl gr sl = some q) : q.2.2.2.2.2 = ((sh, gi, gl, gr), sl) := by
  have key : ∀ k, s_call a b pc lc st sh gi gl gr sl k = some q → q.2.2.2.2.2 = ((sh, gi, gl, gr), sl) := by
    intro k h
    unfold s_call at h
    split at h
    · cases h
    · split at h
      · split at h
        · cases h; rfl
        · cases h
      · split at h
        · split at h
          · split at h
            · cases h; rfl
            · cases h
          · cases h
        · cases h
  unfold caI at h
  split at h
  · exact key _ h
  · exact key _ h
  · exact key _ h
  · cases h
theorem cd_lt (tb : TB) {mi pc : Nat} {q : En} (h : cd mi pc = some q) : mi < mYl.length := by
  unfold cd at h
  split at h
  · rename_i li hl
    have := (List.getElem?_eq_some_iff.mp hl).1
    rw [tb.2.2.2.2.2.2.2.2.2] at this
    exact this
  · cases h
theorem snd (tb : TB) {p : Program} {l : Launch} {e : Env} {w : Wd} : ∀ (n : Nat) (x : Cf) (r : Out), exe n x = some r → ∀ (R : Room) (s : State) (m : MethodId) (args : Array Value) (below : List Frame) (meth : Method) (c : Code) (sh0 sl0 : Nat), Bx p l R s m meth c w x.1 sh0 sl0 → KK p l e R s m args below meth c w sh0 sl0 (QQ w below s sh0 sl0 r) x := by
  intro n
  induction n with
  | zero => intro x r h; cases h
  | succ n ih =>
    intro x r h R s m args below meth c sh0 sl0 B H locs ls I
    obtain ⟨mi, pc, lc, st, ⟨sh, gi, gl, gr⟩, sl⟩ := x
    rw [exe] at h
    unfold sx at h
    simp only at h
    cases hcd : cd mi pc with
    | none => rw [hcd] at h; cases h
    | some q =>
      obtain ⟨i, len, a, b, k, z⟩ := q
      rw [hcd] at h
      simp only at h
      cases hst : stI i len a b k mi pc lc st sh gi gl gr sl with
      | some y =>
        rw [hst] at h
        simp only at h
        exact so_step tb B hcd hst I (ih _ _ h R s m args below meth c sh0 sl0 B)
      | none =>
        rw [hst] at h
        simp only at h
        cases hen : enI i a mi st sh gi gl gr sl with
        | some o =>
          rw [hen] at h
          simp only at h
          cases h
          exact so_end tb B hcd hen I
        | none =>
          rw [hen] at h
          simp only at h
          cases hca : caI i a b pc lc st sh gi gl gr sl with
          | none => rw [hca] at h; cases h
          | some q =>
            obtain ⟨mj, as, y⟩ := q
            rw [hca] at h
            simp only [Option.map_some] at h
            have hy : y.2.2.2 = ((sh, gi, gl, gr), sl) := call_as hca
            rw [hy] at h
            cases hr : exe n (mj, 0, lv_args 0 as, [], (sh, gi, gl, gr), sl) with
            | none => rw [hr] at h; cases h
            | some r2 =>
              rw [hr] at h
              have IH : IHc p l e w mj as (sh, gi, gl, gr) sl r2 := fun R' s' m' args' below' meth' c' H' locs' ls' B' I' => ih _ _ hr R' s' m' args' below' meth' c' sh.length sl B' H' locs' ls' I'
              obtain ⟨v | ⟨k9, E⟩, hs⟩ := r2
              · simp only at h
                refine so_call tb B hcd hca I IH (fun v' hv => ?_) (fun q hq => by cases hq)
                cases hv
                exact ih _ _ h R s m args below meth c sh0 sl0 B
              · simp only at h
                refine so_call tb B hcd hca I IH (fun v' hv => by cases hv) (fun q hq h1 h2 h3 => ?_)
                cases hq
                cases hh : hnd mi y.1 E with
                | none => rw [hh] at h; cases h
                | some z9 =>
                  rw [hh] at h
                  cases z9 with
                  | none =>
                    simp only at h
                    cases h
                    exact so_leave B hh (tb.2.2.2.2.2.2.2.1 mi) h1 h2 h3
                  | some pc' =>
                    simp only at h
                    exact so_caught B hh (tb.2.2.2.2.2.2.2.1 mi) (hX_ok tb mi (cd_lt tb hcd)) h1 h2 h3 (ih _ _ h R s m args below meth c sh0 sl0 B)
end
section
/-! the tables, checked -/
def zipA : List Cond → List Nat → Bool
  | [], _ => true
  | v :: t, p :: ps => wAt p v && okw v && zipA t ps
  | _ :: _, [] => false
theorem zipA_spec : ∀ (vs : List Cond) (ps : List Nat), zipA vs ps = true → ∀ v ∈ vs, v ∈ lw_tbl ∧ okw v = true
  | [], _, _, v, hv => by cases hv
  | x :: t, [], h, _, _ => by cases h
  | x :: t, p :: ps, h, v, hv => by
    unfold zipA at h
    rw [Bool.and_eq_true, Bool.and_eq_true] at h
    rcases List.mem_cons.mp hv with rfl | hv
    · exact ⟨List.mem_of_getElem? (of_decide_eq_true h.1.1), h.1.2⟩
    · exact zipA_spec t ps h.2 v hv
theorem tb_E : ∀ E, E < 3 → zipA (exWs E) (exQl.getD E []) = true := by decide +kernel
theorem tb_B : okB = true := by decide +kernel
theorem tb_K : ∀ x, x < 10 → okK x = true := by decide +kernel
theorem tb_A : zipA [.arrayClass .int, .arrayClass .boolean, .arrayClass .long] acP = true := by decide +kernel
theorem tbM1 : okM 1 = true := by decide +kernel
theorem tbM2 : okM 2 = true := by decide +kernel
theorem tbM3 : okM 3 = true := by decide +kernel
theorem tbM4 : okM 4 = true := by decide +kernel
theorem tbM5 : okM 5 = true := by decide +kernel
theorem tbM6 : okM 6 = true := by decide +kernel
theorem tbM7 : okM 7 = true := by decide +kernel
theorem tbM8 : okM 8 = true := by decide +kernel
theorem tbM9 : okM 9 = true := by decide +kernel
theorem tbM10 : okM 10 = true := by decide +kernel
theorem tbM11 : okM 11 = true := by decide +kernel
theorem tbM12 : okM 12 = true := by decide +kernel
theorem tbM13 : okM 13 = true := by decide +kernel
theorem tbM14 : okM 14 = true := by decide +kernel
theorem tbM15 : okM 15 = true := by decide +kernel
theorem tbM16 : okM 16 = true := by decide +kernel
theorem tbM17 : okM 17 = true := by decide +kernel
theorem tbM18 : okM 18 = true := by decide +kernel
theorem tbM19 : okM 19 = true := by decide +kernel
theorem tbM20 : okM 20 = true := by decide +kernel
theorem tbM21 : okM 21 = true := by decide +kernel
theorem tbM22 : okM 22 = true := by decide +kernel
theorem tbM23 : okM 23 = true := by decide +kernel
theorem tbM24 : okM 24 = true := by decide +kernel
theorem tbM25 : okM 25 = true := by decide +kernel
theorem tbM26 : okM 26 = true := by decide +kernel
theorem tbM27 : okM 27 = true := by decide +kernel
theorem tbM28 : okM 28 = true := by decide +kernel
theorem tbM29 : okM 29 = true := by decide +kernel
theorem tbM30 : okM 30 = true := by decide +kernel
theorem tbM31 : okM 31 = true := by decide +kernel
theorem tbM32 : okM 32 = true := by decide +kernel
theorem tbM33 : okM 33 = true := by decide +kernel
theorem tbM34 : okM 34 = true := by decide +kernel
theorem tbM35 : okM 35 = true := by decide +kernel
theorem tbM36 : okM 36 = true := by decide +kernel
theorem tbM37 : okM 37 = true := by decide +kernel
theorem tbM38 : okM 38 = true := by decide +kernel
theorem tbM39 : okM 39 = true := by decide +kernel
theorem tbM40 : okM 40 = true := by decide +kernel
theorem tbM41 : okM 41 = true := by decide +kernel
theorem tbM42 : okM 42 = true := by decide +kernel
theorem tbM43 : okM 43 = true := by decide +kernel
theorem tbM44 : okM 44 = true := by decide +kernel
theorem tbM45 : okM 45 = true := by decide +kernel
theorem tbM46 : okM 46 = true := by decide +kernel
theorem tbM47 : okM 47 = true := by decide +kernel
theorem tbM48 : okM 48 = true := by decide +kernel
theorem tbM49 : okM 49 = true := by decide +kernel
theorem tbM50 : okM 50 = true := by decide +kernel
theorem tbM51 : okM 51 = true := by decide +kernel
theorem tbM52 : okM 52 = true := by decide +kernel
theorem tbM53 : okM 53 = true := by decide +kernel
theorem tbM54 : okM 54 = true := by decide +kernel
theorem tbM55 : okM 55 = true := by decide +kernel
theorem tbM56 : okM 56 = true := by decide +kernel
theorem tbM57 : okM 57 = true := by decide +kernel
theorem tbM58 : okM 58 = true := by decide +kernel
theorem tbM59 : okM 59 = true := by decide +kernel
theorem tbM60 : okM 60 = true := by decide +kernel
theorem tbM61 : okM 61 = true := by decide +kernel
theorem tbM62 : okM 62 = true := by decide +kernel
theorem tbM63 : okM 63 = true := by decide +kernel
theorem tbM64 : okM 64 = true := by decide +kernel
theorem tbM65 : okM 65 = true := by decide +kernel
theorem tbM66 : okM 66 = true := by decide +kernel
theorem tbM67 : okM 67 = true := by decide +kernel
theorem tbM68 : okM 68 = true := by decide +kernel
theorem tbM69 : okM 69 = true := by decide +kernel
theorem tbM70 : okM 70 = true := by decide +kernel
theorem tbM71 : okM 71 = true := by decide +kernel
theorem tbM72 : okM 72 = true := by decide +kernel
theorem tbM73 : okM 73 = true := by decide +kernel
theorem tbM74 : okM 74 = true := by decide +kernel
theorem tbM75 : okM 75 = true := by decide +kernel
theorem tbM76 : okM 76 = true := by decide +kernel
theorem tbM77 : okM 77 = true := by decide +kernel
theorem tbM78 : okM 78 = true := by decide +kernel
theorem tbM79 : okM 79 = true := by decide +kernel
theorem tbM80 : okM 80 = true := by decide +kernel
theorem tbM81 : okM 81 = true := by decide +kernel
theorem tbM82 : okM 82 = true := by decide +kernel
theorem tbM83 : okM 83 = true := by decide +kernel
theorem tbM84 : okM 84 = true := by decide +kernel
theorem tbM85 : okM 85 = true := by decide +kernel
theorem tbM86 : okM 86 = true := by decide +kernel
theorem tbM87 : okM 87 = true := by decide +kernel
theorem tbM88 : okM 88 = true := by decide +kernel
theorem tbM89 : okM 89 = true := by decide +kernel
theorem tbM90 : okM 90 = true := by decide +kernel
theorem tbM91 : okM 91 = true := by decide +kernel
theorem tbM92 : okM 92 = true := by decide +kernel
theorem tbM93 : okM 93 = true := by decide +kernel
theorem tbM94 : okM 94 = true := by decide +kernel
theorem tbM95 : okM 95 = true := by decide +kernel
theorem tbM96 : okM 96 = true := by decide +kernel
theorem tbM97 : okM 97 = true := by decide +kernel
theorem tbM98 : okM 98 = true := by decide +kernel
theorem tbM99 : okM 99 = true := by decide +kernel
theorem tbM100 : okM 100 = true := by decide +kernel
theorem tbM101 : okM 101 = true := by decide +kernel
theorem tbM102 : okM 102 = true := by decide +kernel
theorem tbM103 : okM 103 = true := by decide +kernel
theorem tbM104 : okM 104 = true := by decide +kernel
theorem tbM105 : okM 105 = true := by decide +kernel
theorem tbM106 : okM 106 = true := by decide +kernel
theorem tbM107 : okM 107 = true := by decide +kernel
theorem tbM108 : okM 108 = true := by decide +kernel
theorem tbM109 : okM 109 = true := by decide +kernel
theorem tbM110 : okM 110 = true := by decide +kernel
theorem tbM111 : okM 111 = true := by decide +kernel
theorem tbM112 : okM 112 = true := by decide +kernel
theorem tbM113 : okM 113 = true := by decide +kernel
theorem tbM114 : okM 114 = true := by decide +kernel
theorem tbM115 : okM 115 = true := by decide +kernel
theorem tbM116 : okM 116 = true := by decide +kernel
theorem tbM117 : okM 117 = true := by decide +kernel
theorem tbM118 : okM 118 = true := by decide +kernel
theorem tbM119 : okM 119 = true := by decide +kernel
theorem tbM120 : okM 120 = true := by decide +kernel
theorem tbM121 : okM 121 = true := by decide +kernel
theorem tbM122 : okM 122 = true := by decide +kernel
theorem tbM123 : okM 123 = true := by decide +kernel
theorem tbM124 : okM 124 = true := by decide +kernel
theorem tbM125 : okM 125 = true := by decide +kernel
theorem tbM126 : okM 126 = true := by decide +kernel
theorem tbM127 : okM 127 = true := by decide +kernel
theorem tbM128 : okM 128 = true := by decide +kernel
theorem tbM129 : okM 129 = true := by decide +kernel
theorem tbM130 : okM 130 = true := by decide +kernel
theorem tbM131 : okM 131 = true := by decide +kernel
theorem tbM132 : okM 132 = true := by decide +kernel
theorem tbM133 : okM 133 = true := by decide +kernel
theorem tbM134 : okM 134 = true := by decide +kernel
theorem tbM135 : okM 135 = true := by decide +kernel
theorem tbM136 : okM 136 = true := by decide +kernel
theorem tbM137 : okM 137 = true := by decide +kernel
theorem tbM138 : okM 138 = true := by decide +kernel
theorem tbM139 : okM 139 = true := by decide +kernel
theorem tbM140 : okM 140 = true := by decide +kernel
theorem tbM141 : okM 141 = true := by decide +kernel
theorem tbM142 : okM 142 = true := by decide +kernel
theorem tbM143 : okM 143 = true := by decide +kernel
theorem tbM144 : okM 144 = true := by decide +kernel
theorem tbM145 : okM 145 = true := by decide +kernel
theorem tbM146 : okM 146 = true := by decide +kernel
theorem tbM147 : okM 147 = true := by decide +kernel
theorem tbM148 : okM 148 = true := by decide +kernel
theorem tbM149 : okM 149 = true := by decide +kernel
theorem tbM150 : okM 150 = true := by decide +kernel
theorem tbM151 : okM 151 = true := by decide +kernel
theorem tbM152 : okM 152 = true := by decide +kernel
theorem tbM153 : okM 153 = true := by decide +kernel
theorem tbM154 : okM 154 = true := by decide +kernel
theorem tbM155 : okM 155 = true := by decide +kernel
theorem tbM156 : okM 156 = true := by decide +kernel
theorem tbM157 : okM 157 = true := by decide +kernel
theorem tbM158 : okM 158 = true := by decide +kernel
theorem tbM159 : okM 159 = true := by decide +kernel
theorem tbM160 : okM 160 = true := by decide +kernel
theorem tbM161 : okM 161 = true := by decide +kernel
theorem tbM162 : okM 162 = true := by decide +kernel
theorem tbM163 : okM 163 = true := by decide +kernel
theorem tbM164 : okM 164 = true := by decide +kernel
theorem tbM165 : okM 165 = true := by decide +kernel
theorem tbQ0_0 : ∀ z ∈ c0_0, okQ 0 z = true := by decide +kernel
theorem tbQ0_1 : ∀ z ∈ c0_1, okQ 0 z = true := by decide +kernel
theorem tbQ0_2 : ∀ z ∈ c0_2, okQ 0 z = true := by decide +kernel
theorem tbQ0_3 : ∀ z ∈ c0_3, okQ 0 z = true := by decide +kernel
theorem tbQ0_4 : ∀ z ∈ c0_4, okQ 0 z = true := by decide +kernel
theorem tbQ0_5 : ∀ z ∈ c0_5, okQ 0 z = true := by decide +kernel
theorem tbQ0_6 : ∀ z ∈ c0_6, okQ 0 z = true := by decide +kernel
theorem tbQ0_7 : ∀ z ∈ c0_7, okQ 0 z = true := by decide +kernel
theorem tbQ0_8 : ∀ z ∈ c0_8, okQ 0 z = true := by decide +kernel
theorem tbQ0_9 : ∀ z ∈ c0_9, okQ 0 z = true := by decide +kernel
theorem tbQ0_10 : ∀ z ∈ c0_10, okQ 0 z = true := by decide +kernel
theorem tbQ0_11 : ∀ z ∈ c0_11, okQ 0 z = true := by decide +kernel
theorem tbQ0_12 : ∀ z ∈ c0_12, okQ 0 z = true := by decide +kernel
theorem tbQ0_13 : ∀ z ∈ c0_13, okQ 0 z = true := by decide +kernel
theorem tbQ0_14 : ∀ z ∈ c0_14, okQ 0 z = true := by decide +kernel
theorem tbQ0_15 : ∀ z ∈ c0_15, okQ 0 z = true := by decide +kernel
theorem tbQ0_16 : ∀ z ∈ c0_16, okQ 0 z = true := by decide +kernel
theorem tbQ0_17 : ∀ z ∈ c0_17, okQ 0 z = true := by decide +kernel
theorem tbQ0_18 : ∀ z ∈ c0_18, okQ 0 z = true := by decide +kernel
theorem tbQ0_19 : ∀ z ∈ c0_19, okQ 0 z = true := by decide +kernel
theorem tbQ0_20 : ∀ z ∈ c0_20, okQ 0 z = true := by decide +kernel
theorem tbQ0_21 : ∀ z ∈ c0_21, okQ 0 z = true := by decide +kernel
theorem tbQ0_22 : ∀ z ∈ c0_22, okQ 0 z = true := by decide +kernel
theorem tbQ0_23 : ∀ z ∈ c0_23, okQ 0 z = true := by decide +kernel
theorem tbQ0_24 : ∀ z ∈ c0_24, okQ 0 z = true := by decide +kernel
theorem tbQ0_25 : ∀ z ∈ c0_25, okQ 0 z = true := by decide +kernel
theorem tbQ0_26 : ∀ z ∈ c0_26, okQ 0 z = true := by decide +kernel
theorem tbQ0 : ∀ z ∈ c0, okQ 0 z = true := List.forall_mem_append.mpr ⟨tbQ0_0, List.forall_mem_append.mpr ⟨tbQ0_1, List.forall_mem_append.mpr ⟨tbQ0_2, List.forall_mem_append.mpr ⟨tbQ0_3, List.forall_mem_append.mpr ⟨tbQ0_4, List.forall_mem_append.mpr ⟨tbQ0_5, List.forall_mem_append.mpr ⟨tbQ0_6, List.forall_mem_append.mpr ⟨tbQ0_7, List.forall_mem_append.mpr ⟨tbQ0_8, List.forall_mem_append.mpr ⟨tbQ0_9, List.forall_mem_append.mpr ⟨tbQ0_10, List.forall_mem_append.mpr ⟨tbQ0_11, List.forall_mem_append.mpr ⟨tbQ0_12, List.forall_mem_append.mpr ⟨tbQ0_13, List.forall_mem_append.mpr ⟨tbQ0_14, List.forall_mem_append.mpr ⟨tbQ0_15, List.forall_mem_append.mpr ⟨tbQ0_16, List.forall_mem_append.mpr ⟨tbQ0_17, List.forall_mem_append.mpr ⟨tbQ0_18, List.forall_mem_append.mpr ⟨tbQ0_19, List.forall_mem_append.mpr ⟨tbQ0_20, List.forall_mem_append.mpr ⟨tbQ0_21, List.forall_mem_append.mpr ⟨tbQ0_22, List.forall_mem_append.mpr ⟨tbQ0_23, List.forall_mem_append.mpr ⟨tbQ0_24, List.forall_mem_append.mpr ⟨tbQ0_25, tbQ0_26⟩⟩⟩⟩⟩⟩⟩⟩⟩⟩⟩⟩⟩⟩⟩⟩⟩⟩⟩⟩⟩⟩⟩⟩⟩⟩
theorem tbQ1 : ∀ z ∈ c1, okQ 1 z = true := by decide +kernel
theorem tbQ2_0 : ∀ z ∈ c2_0, okQ 2 z = true := by decide +kernel
theorem tbQ2_1 : ∀ z ∈ c2_1, okQ 2 z = true := by decide +kernel
theorem tbQ2 : ∀ z ∈ c2, okQ 2 z = true := List.forall_mem_append.mpr ⟨tbQ2_0, tbQ2_1⟩
theorem tbQ3 : ∀ z ∈ c3, okQ 3 z = true := by decide +kernel
theorem tbQ4 : ∀ z ∈ c4, okQ 4 z = true := by decide +kernel
theorem tbQ5 : ∀ z ∈ c5, okQ 5 z = true := by decide +kernel
theorem tbQ6 : ∀ z ∈ c6, okQ 6 z = true := by decide +kernel
theorem tbQ7 : ∀ z ∈ c7, okQ 7 z = true := by decide +kernel
theorem tbQ8 : ∀ z ∈ c8, okQ 8 z = true := by decide +kernel
theorem tbQ9 : ∀ z ∈ c9, okQ 9 z = true := by decide +kernel
theorem tbQ10_0 : ∀ z ∈ c10_0, okQ 10 z = true := by decide +kernel
theorem tbQ10_1 : ∀ z ∈ c10_1, okQ 10 z = true := by decide +kernel
theorem tbQ10 : ∀ z ∈ c10, okQ 10 z = true := List.forall_mem_append.mpr ⟨tbQ10_0, tbQ10_1⟩
theorem tbQ11 : ∀ z ∈ c11, okQ 11 z = true := by decide +kernel
theorem tbQ12 : ∀ z ∈ c12, okQ 12 z = true := by decide +kernel
theorem tbQ13 : ∀ z ∈ c13, okQ 13 z = true := by decide +kernel
theorem tbQ14 : ∀ z ∈ c14, okQ 14 z = true := by decide +kernel
theorem tbQ15 : ∀ z ∈ c15, okQ 15 z = true := by decide +kernel
theorem tbQ16 : ∀ z ∈ c16, okQ 16 z = true := by decide +kernel
theorem tbQ17 : ∀ z ∈ c17, okQ 17 z = true := by decide +kernel
theorem tbQ18 : ∀ z ∈ c18, okQ 18 z = true := by decide +kernel
theorem tbQ19 : ∀ z ∈ c19, okQ 19 z = true := by decide +kernel
theorem tbQ20 : ∀ z ∈ c20, okQ 20 z = true := by decide +kernel
theorem tbQ21 : ∀ z ∈ c21, okQ 21 z = true := by decide +kernel
theorem tbQ22 : ∀ z ∈ c22, okQ 22 z = true := by decide +kernel
theorem tbQ23 : ∀ z ∈ c23, okQ 23 z = true := by decide +kernel
theorem tbQ24 : ∀ z ∈ c24, okQ 24 z = true := by decide +kernel
theorem tbQ25 : ∀ z ∈ c25, okQ 25 z = true := by decide +kernel
theorem tbQ26 : ∀ z ∈ c26, okQ 26 z = true := by decide +kernel
theorem tbQ27 : ∀ z ∈ c27, okQ 27 z = true := by decide +kernel
theorem tbQ28 : ∀ z ∈ c28, okQ 28 z = true := by decide +kernel
theorem tbQ29 : ∀ z ∈ c29, okQ 29 z = true := by decide +kernel
theorem tbQ30 : ∀ z ∈ c30, okQ 30 z = true := by decide +kernel
theorem tbQ31 : ∀ z ∈ c31, okQ 31 z = true := by decide +kernel
theorem tbQ32 : ∀ z ∈ c32, okQ 32 z = true := by decide +kernel
theorem tbQ33 : ∀ z ∈ c33, okQ 33 z = true := by decide +kernel
theorem tbQ34 : ∀ z ∈ c34, okQ 34 z = true := by decide +kernel
theorem tbQ35 : ∀ z ∈ c35, okQ 35 z = true := by decide +kernel
theorem tbQ36 : ∀ z ∈ c36, okQ 36 z = true := by decide +kernel
theorem tbQ37 : ∀ z ∈ c37, okQ 37 z = true := by decide +kernel
theorem tbQ38 : ∀ z ∈ c38, okQ 38 z = true := by decide +kernel
theorem tbQ39 : ∀ z ∈ c39, okQ 39 z = true := by decide +kernel
theorem tbQ40 : ∀ z ∈ c40, okQ 40 z = true := by decide +kernel
theorem tbQ41 : ∀ z ∈ c41, okQ 41 z = true := by decide +kernel
theorem tbQ42 : ∀ z ∈ c42, okQ 42 z = true := by decide +kernel
theorem tbQ43 : ∀ z ∈ c43, okQ 43 z = true := by decide +kernel
theorem tbQ44 : ∀ z ∈ c44, okQ 44 z = true := by decide +kernel
theorem tbQ45 : ∀ z ∈ c45, okQ 45 z = true := by decide +kernel
theorem tbQ46 : ∀ z ∈ c46, okQ 46 z = true := by decide +kernel
theorem tbQ47 : ∀ z ∈ c47, okQ 47 z = true := by decide +kernel
theorem tbQ48 : ∀ z ∈ c48, okQ 48 z = true := by decide +kernel
theorem tbQ49 : ∀ z ∈ c49, okQ 49 z = true := by decide +kernel
theorem tbQ50 : ∀ z ∈ c50, okQ 50 z = true := by decide +kernel
theorem tbQ51 : ∀ z ∈ c51, okQ 51 z = true := by decide +kernel
theorem tbQ52 : ∀ z ∈ c52, okQ 52 z = true := by decide +kernel
theorem tbQ53 : ∀ z ∈ c53, okQ 53 z = true := by decide +kernel
theorem tbQ54 : ∀ z ∈ c54, okQ 54 z = true := by decide +kernel
theorem tbQ55 : ∀ z ∈ c55, okQ 55 z = true := by decide +kernel
theorem tbQ56 : ∀ z ∈ c56, okQ 56 z = true := by decide +kernel
theorem tbQ57 : ∀ z ∈ c57, okQ 57 z = true := by decide +kernel
theorem tbQ58 : ∀ z ∈ c58, okQ 58 z = true := by decide +kernel
theorem tbQ59 : ∀ z ∈ c59, okQ 59 z = true := by decide +kernel
theorem tbQ60 : ∀ z ∈ c60, okQ 60 z = true := by decide +kernel
theorem tbQ61 : ∀ z ∈ c61, okQ 61 z = true := by decide +kernel
theorem tbQ62 : ∀ z ∈ c62, okQ 62 z = true := by decide +kernel
theorem tbQ63 : ∀ z ∈ c63, okQ 63 z = true := by decide +kernel
theorem tbQ64 : ∀ z ∈ c64, okQ 64 z = true := by decide +kernel
theorem tbQ65 : ∀ z ∈ c65, okQ 65 z = true := by decide +kernel
theorem tbQ66 : ∀ z ∈ c66, okQ 66 z = true := by decide +kernel
theorem tbQ67 : ∀ z ∈ c67, okQ 67 z = true := by decide +kernel
theorem tbQ68 : ∀ z ∈ c68, okQ 68 z = true := by decide +kernel
theorem tbQ69 : ∀ z ∈ c69, okQ 69 z = true := by decide +kernel
theorem tbQ70 : ∀ z ∈ c70, okQ 70 z = true := by decide +kernel
theorem tbQ71 : ∀ z ∈ c71, okQ 71 z = true := by decide +kernel
theorem tbQ72 : ∀ z ∈ c72, okQ 72 z = true := by decide +kernel
theorem tbQ73 : ∀ z ∈ c73, okQ 73 z = true := by decide +kernel
theorem tbQ74 : ∀ z ∈ c74, okQ 74 z = true := by decide +kernel
theorem tbQ75_0 : ∀ z ∈ c75_0, okQ 75 z = true := by decide +kernel
theorem tbQ75_1 : ∀ z ∈ c75_1, okQ 75 z = true := by decide +kernel
theorem tbQ75 : ∀ z ∈ c75, okQ 75 z = true := List.forall_mem_append.mpr ⟨tbQ75_0, tbQ75_1⟩
theorem tbQ76 : ∀ z ∈ c76, okQ 76 z = true := by decide +kernel
theorem tbQ77 : ∀ z ∈ c77, okQ 77 z = true := by decide +kernel
theorem tbQ78_0 : ∀ z ∈ c78_0, okQ 78 z = true := by decide +kernel
theorem tbQ78_1 : ∀ z ∈ c78_1, okQ 78 z = true := by decide +kernel
theorem tbQ78 : ∀ z ∈ c78, okQ 78 z = true := List.forall_mem_append.mpr ⟨tbQ78_0, tbQ78_1⟩
theorem tbQ79 : ∀ z ∈ c79, okQ 79 z = true := by decide +kernel
theorem tbQ80 : ∀ z ∈ c80, okQ 80 z = true := by decide +kernel
theorem tbQ81 : ∀ z ∈ c81, okQ 81 z = true := by decide +kernel
theorem tbQ82 : ∀ z ∈ c82, okQ 82 z = true := by decide +kernel
theorem tbQ83 : ∀ z ∈ c83, okQ 83 z = true := by decide +kernel
theorem tbQ84 : ∀ z ∈ c84, okQ 84 z = true := by decide +kernel
theorem tbQ85 : ∀ z ∈ c85, okQ 85 z = true := by decide +kernel
theorem tbQ86 : ∀ z ∈ c86, okQ 86 z = true := by decide +kernel
theorem tbQ87 : ∀ z ∈ c87, okQ 87 z = true := by decide +kernel
theorem tbQ88 : ∀ z ∈ c88, okQ 88 z = true := by decide +kernel
theorem tbQ89 : ∀ z ∈ c89, okQ 89 z = true := by decide +kernel
theorem tbQ90 : ∀ z ∈ c90, okQ 90 z = true := by decide +kernel
theorem tbQ91 : ∀ z ∈ c91, okQ 91 z = true := by decide +kernel
theorem tbQ92 : ∀ z ∈ c92, okQ 92 z = true := by decide +kernel
theorem tbQ93 : ∀ z ∈ c93, okQ 93 z = true := by decide +kernel
theorem tbQ94 : ∀ z ∈ c94, okQ 94 z = true := by decide +kernel
theorem tbQ95 : ∀ z ∈ c95, okQ 95 z = true := by decide +kernel
theorem tbQ96 : ∀ z ∈ c96, okQ 96 z = true := by decide +kernel
theorem tbQ97 : ∀ z ∈ c97, okQ 97 z = true := by decide +kernel
theorem tbQ98 : ∀ z ∈ c98, okQ 98 z = true := by decide +kernel
theorem tbQ99 : ∀ z ∈ c99, okQ 99 z = true := by decide +kernel
theorem tbQ100 : ∀ z ∈ c100, okQ 100 z = true := by decide +kernel
theorem tbQ101 : ∀ z ∈ c101, okQ 101 z = true := by decide +kernel
theorem tbQ102 : ∀ z ∈ c102, okQ 102 z = true := by decide +kernel
theorem tbQ103 : ∀ z ∈ c103, okQ 103 z = true := by decide +kernel
theorem tbQ104 : ∀ z ∈ c104, okQ 104 z = true := by decide +kernel
theorem tbQ105 : ∀ z ∈ c105, okQ 105 z = true := by decide +kernel
theorem tbQ106 : ∀ z ∈ c106, okQ 106 z = true := by decide +kernel
theorem tbQ107 : ∀ z ∈ c107, okQ 107 z = true := by decide +kernel
theorem tbQ108 : ∀ z ∈ c108, okQ 108 z = true := by decide +kernel
theorem tbQ109 : ∀ z ∈ c109, okQ 109 z = true := by decide +kernel
theorem tbQ110 : ∀ z ∈ c110, okQ 110 z = true := by decide +kernel
theorem tbQ111 : ∀ z ∈ c111, okQ 111 z = true := by decide +kernel
theorem tbQ112 : ∀ z ∈ c112, okQ 112 z = true := by decide +kernel
theorem tbQ113_0 : ∀ z ∈ c113_0, okQ 113 z = true := by decide +kernel
theorem tbQ113_1 : ∀ z ∈ c113_1, okQ 113 z = true := by decide +kernel
theorem tbQ113 : ∀ z ∈ c113, okQ 113 z = true := List.forall_mem_append.mpr ⟨tbQ113_0, tbQ113_1⟩
theorem tbQ114_0 : ∀ z ∈ c114_0, okQ 114 z = true := by decide +kernel
theorem tbQ114_1 : ∀ z ∈ c114_1, okQ 114 z = true := by decide +kernel
theorem tbQ114_2 : ∀ z ∈ c114_2, okQ 114 z = true := by decide +kernel
theorem tbQ114 : ∀ z ∈ c114, okQ 114 z = true := List.forall_mem_append.mpr ⟨tbQ114_0, List.forall_mem_append.mpr ⟨tbQ114_1, tbQ114_2⟩⟩
theorem tbQ115 : ∀ z ∈ c115, okQ 115 z = true := by decide +kernel
theorem tbQ116 : ∀ z ∈ c116, okQ 116 z = true := by decide +kernel
theorem tbQ117 : ∀ z ∈ c117, okQ 117 z = true := by decide +kernel
theorem tbQ118_0 : ∀ z ∈ c118_0, okQ 118 z = true := by decide +kernel
theorem tbQ118_1 : ∀ z ∈ c118_1, okQ 118 z = true := by decide +kernel
theorem tbQ118 : ∀ z ∈ c118, okQ 118 z = true := List.forall_mem_append.mpr ⟨tbQ118_0, tbQ118_1⟩
theorem tbQ119 : ∀ z ∈ c119, okQ 119 z = true := by decide +kernel
theorem tbQ120 : ∀ z ∈ c120, okQ 120 z = true := by decide +kernel
theorem tbQ121 : ∀ z ∈ c121, okQ 121 z = true := by decide +kernel
theorem tbQ122 : ∀ z ∈ c122, okQ 122 z = true := by decide +kernel
theorem tbQ123_0 : ∀ z ∈ c123_0, okQ 123 z = true := by decide +kernel
theorem tbQ123_1 : ∀ z ∈ c123_1, okQ 123 z = true := by decide +kernel
theorem tbQ123 : ∀ z ∈ c123, okQ 123 z = true := List.forall_mem_append.mpr ⟨tbQ123_0, tbQ123_1⟩
theorem tbQ124_0 : ∀ z ∈ c124_0, okQ 124 z = true := by decide +kernel
theorem tbQ124_1 : ∀ z ∈ c124_1, okQ 124 z = true := by decide +kernel
theorem tbQ124 : ∀ z ∈ c124, okQ 124 z = true := List.forall_mem_append.mpr ⟨tbQ124_0, tbQ124_1⟩
theorem tbQ125 : ∀ z ∈ c125, okQ 125 z = true := by decide +kernel
theorem tbQ126 : ∀ z ∈ c126, okQ 126 z = true := by decide +kernel
theorem tbQ127 : ∀ z ∈ c127, okQ 127 z = true := by decide +kernel
theorem tbQ128 : ∀ z ∈ c128, okQ 128 z = true := by decide +kernel
theorem tbQ129 : ∀ z ∈ c129, okQ 129 z = true := by decide +kernel
theorem tbQ130 : ∀ z ∈ c130, okQ 130 z = true := by decide +kernel
theorem tbQ131 : ∀ z ∈ c131, okQ 131 z = true := by decide +kernel
theorem tbQ132 : ∀ z ∈ c132, okQ 132 z = true := by decide +kernel
theorem tbQ133 : ∀ z ∈ c133, okQ 133 z = true := by decide +kernel
theorem tbQ134 : ∀ z ∈ c134, okQ 134 z = true := by decide +kernel
theorem tbQ135 : ∀ z ∈ c135, okQ 135 z = true := by decide +kernel
theorem tbQ136_0 : ∀ z ∈ c136_0, okQ 136 z = true := by decide +kernel
theorem tbQ136_1 : ∀ z ∈ c136_1, okQ 136 z = true := by decide +kernel
theorem tbQ136 : ∀ z ∈ c136, okQ 136 z = true := List.forall_mem_append.mpr ⟨tbQ136_0, tbQ136_1⟩
theorem tbQ137 : ∀ z ∈ c137, okQ 137 z = true := by decide +kernel
theorem tbQ138_0 : ∀ z ∈ c138_0, okQ 138 z = true := by decide +kernel
theorem tbQ138_1 : ∀ z ∈ c138_1, okQ 138 z = true := by decide +kernel
theorem tbQ138_2 : ∀ z ∈ c138_2, okQ 138 z = true := by decide +kernel
theorem tbQ138 : ∀ z ∈ c138, okQ 138 z = true := List.forall_mem_append.mpr ⟨tbQ138_0, List.forall_mem_append.mpr ⟨tbQ138_1, tbQ138_2⟩⟩
theorem tbQ139_0 : ∀ z ∈ c139_0, okQ 139 z = true := by decide +kernel
theorem tbQ139_1 : ∀ z ∈ c139_1, okQ 139 z = true := by decide +kernel
theorem tbQ139 : ∀ z ∈ c139, okQ 139 z = true := List.forall_mem_append.mpr ⟨tbQ139_0, tbQ139_1⟩
theorem tbQ140 : ∀ z ∈ c140, okQ 140 z = true := by decide +kernel
theorem tbQ141 : ∀ z ∈ c141, okQ 141 z = true := by decide +kernel
theorem tbQ142 : ∀ z ∈ c142, okQ 142 z = true := by decide +kernel
theorem tbQ143 : ∀ z ∈ c143, okQ 143 z = true := by decide +kernel
theorem tbQ144 : ∀ z ∈ c144, okQ 144 z = true := by decide +kernel
theorem tbQ145 : ∀ z ∈ c145, okQ 145 z = true := by decide +kernel
theorem tbQ146 : ∀ z ∈ c146, okQ 146 z = true := by decide +kernel
theorem tbQ147 : ∀ z ∈ c147, okQ 147 z = true := by decide +kernel
theorem tbQ148 : ∀ z ∈ c148, okQ 148 z = true := by decide +kernel
theorem tbQ149_0 : ∀ z ∈ c149_0, okQ 149 z = true := by decide +kernel
theorem tbQ149_1 : ∀ z ∈ c149_1, okQ 149 z = true := by decide +kernel
theorem tbQ149 : ∀ z ∈ c149, okQ 149 z = true := List.forall_mem_append.mpr ⟨tbQ149_0, tbQ149_1⟩
theorem tbQ150 : ∀ z ∈ c150, okQ 150 z = true := by decide +kernel
theorem tbQ151 : ∀ z ∈ c151, okQ 151 z = true := by decide +kernel
theorem tbQ152 : ∀ z ∈ c152, okQ 152 z = true := by decide +kernel
theorem tbQ153 : ∀ z ∈ c153, okQ 153 z = true := by decide +kernel
theorem tbQ154 : ∀ z ∈ c154, okQ 154 z = true := by decide +kernel
theorem tbQ155 : ∀ z ∈ c155, okQ 155 z = true := by decide +kernel
theorem tbQ156 : ∀ z ∈ c156, okQ 156 z = true := by decide +kernel
theorem tbQ157 : ∀ z ∈ c157, okQ 157 z = true := by decide +kernel
theorem tbQ158 : ∀ z ∈ c158, okQ 158 z = true := by decide +kernel
theorem tbQ159 : ∀ z ∈ c159, okQ 159 z = true := by decide +kernel
theorem tbQ160 : ∀ z ∈ c160, okQ 160 z = true := by decide +kernel
theorem tbQ161 : ∀ z ∈ c161, okQ 161 z = true := by decide +kernel
theorem tbQ162 : ∀ z ∈ c162, okQ 162 z = true := by decide +kernel
theorem tbQ163_0 : ∀ z ∈ c163_0, okQ 163 z = true := by decide +kernel
theorem tbQ163_1 : ∀ z ∈ c163_1, okQ 163 z = true := by decide +kernel
theorem tbQ163_2 : ∀ z ∈ c163_2, okQ 163 z = true := by decide +kernel
theorem tbQ163 : ∀ z ∈ c163, okQ 163 z = true := List.forall_mem_append.mpr ⟨tbQ163_0, List.forall_mem_append.mpr ⟨tbQ163_1, tbQ163_2⟩⟩
theorem tbQ164_0 : ∀ z ∈ c164_0, okQ 164 z = true := by decide +kernel
theorem tbQ164_1 : ∀ z ∈ c164_1, okQ 164 z = true := by decide +kernel
theorem tbQ164_2 : ∀ z ∈ c164_2, okQ 164 z = true := by decide +kernel
theorem tbQ164 : ∀ z ∈ c164, okQ 164 z = true := List.forall_mem_append.mpr ⟨tbQ164_0, List.forall_mem_append.mpr ⟨tbQ164_1, tbQ164_2⟩⟩
theorem tbQ165 : ∀ z ∈ c165, okQ 165 z = true := by decide +kernel
def allL {α : Type} (P : Nat → α → Prop) : Nat → List α → Prop
  | _, [] => True
  | k, x :: t => P k x ∧ allL P (k + 1) t
theorem allL_spec {α : Type} {P : Nat → α → Prop} : ∀ (l : List α) (k i : Nat) (x : α), allL P k l → l[i]? = some x → P (k + i) x
  | [], _, i, x, _, h => by cases i <;> cases h
  | y :: t, k, 0, x, ha, h => by cases h; exact ha.1
  | y :: t, k, i + 1, x, ha, h => by
    have := allL_spec t (k + 1) i x ha.2 h
    rw [show k + (i + 1) = k + 1 + i by omega]
    exact this
theorem tbQa : allL (fun k l => ∀ z ∈ l, okQ k z = true) 0 cds := ⟨tbQ0, tbQ1, tbQ2, tbQ3, tbQ4, tbQ5, tbQ6, tbQ7, tbQ8, tbQ9, tbQ10, tbQ11, tbQ12, tbQ13, tbQ14, tbQ15, tbQ16, tbQ17, tbQ18, tbQ19, tbQ20, tbQ21, tbQ22, tbQ23, tbQ24, tbQ25, tbQ26, tbQ27, tbQ28, tbQ29, tbQ30, tbQ31, tbQ32, tbQ33, tbQ34, tbQ35, tbQ36, tbQ37, tbQ38, tbQ39, tbQ40, tbQ41, tbQ42, tbQ43, tbQ44, tbQ45, tbQ46, tbQ47, tbQ48, tbQ49, tbQ50, tbQ51, tbQ52, tbQ53, tbQ54, tbQ55, tbQ56, tbQ57, tbQ58, tbQ59, tbQ60, tbQ61, tbQ62, tbQ63, tbQ64, tbQ65, tbQ66, tbQ67, tbQ68, tbQ69, tbQ70, tbQ71, tbQ72, tbQ73, tbQ74, tbQ75, tbQ76, tbQ77, tbQ78, tbQ79, tbQ80, tbQ81, tbQ82, tbQ83, tbQ84, tbQ85, tbQ86, tbQ87, tbQ88, tbQ89, tbQ90, tbQ91, tbQ92, tbQ93, tbQ94, tbQ95, tbQ96, tbQ97, tbQ98, tbQ99, tbQ100, tbQ101, tbQ102, tbQ103, tbQ104, tbQ105, tbQ106, tbQ107, tbQ108, tbQ109, tbQ110, tbQ111, tbQ112, tbQ113, tbQ114, tbQ115, tbQ116, tbQ117, tbQ118, tbQ119, tbQ120, tbQ121, tbQ122, tbQ123, tbQ124, tbQ125, tbQ126, tbQ127, tbQ128, tbQ129, tbQ130, tbQ131, tbQ132, tbQ133, tbQ134, tbQ135, tbQ136, tbQ137, tbQ138, tbQ139, tbQ140, tbQ141, tbQ142, tbQ143, tbQ144, tbQ145, tbQ146, tbQ147, tbQ148, tbQ149, tbQ150, tbQ151, tbQ152, tbQ153, tbQ154, tbQ155, tbQ156, tbQ157, tbQ158, tbQ159, tbQ160, tbQ161, tbQ162, tbQ163, tbQ164, tbQ165, trivial⟩
theorem tbMa : allL (fun k (_ : MethodName) => 0 < k → okM k = true) 0 mYl := ⟨fun h => absurd h (Nat.lt_irrefl 0), fun _ => tbM1, fun _ => tbM2, fun _ => tbM3, fun _ => tbM4, fun _ => tbM5, fun _ => tbM6, fun _ => tbM7, fun _ => tbM8, fun _ => tbM9, fun _ => tbM10, fun _ => tbM11, fun _ => tbM12, fun _ => tbM13, fun _ => tbM14, fun _ => tbM15, fun _ => tbM16, fun _ => tbM17, fun _ => tbM18, fun _ => tbM19, fun _ => tbM20, fun _ => tbM21, fun _ => tbM22, fun _ => tbM23, fun _ => tbM24, fun _ => tbM25, fun _ => tbM26, fun _ => tbM27, fun _ => tbM28, fun _ => tbM29, fun _ => tbM30, fun _ => tbM31, fun _ => tbM32, fun _ => tbM33, fun _ => tbM34, fun _ => tbM35, fun _ => tbM36, fun _ => tbM37, fun _ => tbM38, fun _ => tbM39, fun _ => tbM40, fun _ => tbM41, fun _ => tbM42, fun _ => tbM43, fun _ => tbM44, fun _ => tbM45, fun _ => tbM46, fun _ => tbM47, fun _ => tbM48, fun _ => tbM49, fun _ => tbM50, fun _ => tbM51, fun _ => tbM52, fun _ => tbM53, fun _ => tbM54, fun _ => tbM55, fun _ => tbM56, fun _ => tbM57, fun _ => tbM58, fun _ => tbM59, fun _ => tbM60, fun _ => tbM61, fun _ => tbM62, fun _ => tbM63, fun _ => tbM64, fun _ => tbM65, fun _ => tbM66, fun _ => tbM67, fun _ => tbM68, fun _ => tbM69, fun _ => tbM70, fun _ => tbM71, fun _ => tbM72, fun _ => tbM73, fun _ => tbM74, fun _ => tbM75, fun _ => tbM76, fun _ => tbM77, fun _ => tbM78, fun _ => tbM79, fun _ => tbM80, fun _ => tbM81, fun _ => tbM82, fun _ => tbM83, fun _ => tbM84, fun _ => tbM85, fun _ => tbM86, fun _ => tbM87, fun _ => tbM88, fun _ => tbM89, fun _ => tbM90, fun _ => tbM91, fun _ => tbM92, fun _ => tbM93, fun _ => tbM94, fun _ => tbM95, fun _ => tbM96, fun _ => tbM97, fun _ => tbM98, fun _ => tbM99, fun _ => tbM100, fun _ => tbM101, fun _ => tbM102, fun _ => tbM103, fun _ => tbM104, fun _ => tbM105, fun _ => tbM106, fun _ => tbM107, fun _ => tbM108, fun _ => tbM109, fun _ => tbM110, fun _ => tbM111, fun _ => tbM112, fun _ => tbM113, fun _ => tbM114, fun _ => tbM115, fun _ => tbM116, fun _ => tbM117, fun _ => tbM118, fun _ => tbM119, fun _ => tbM120, fun _ => tbM121, fun _ => tbM122, fun _ => tbM123, fun _ => tbM124, fun _ => tbM125, fun _ => tbM126, fun _ => tbM127, fun _ => tbM128, fun _ => tbM129, fun _ => tbM130, fun _ => tbM131, fun _ => tbM132, fun _ => tbM133, fun _ => tbM134, fun _ => tbM135, fun _ => tbM136, fun _ => tbM137, fun _ => tbM138, fun _ => tbM139, fun _ => tbM140, fun _ => tbM141, fun _ => tbM142, fun _ => tbM143, fun _ => tbM144, fun _ => tbM145, fun _ => tbM146, fun _ => tbM147, fun _ => tbM148, fun _ => tbM149, fun _ => tbM150, fun _ => tbM151, fun _ => tbM152, fun _ => tbM153, fun _ => tbM154, fun _ => tbM155, fun _ => tbM156, fun _ => tbM157, fun _ => tbM158, fun _ => tbM159, fun _ => tbM160, fun _ => tbM161, fun _ => tbM162, fun _ => tbM163, fun _ => tbM164, fun _ => tbM165, trivial⟩
theorem tb_M : ∀ a, a < mYl.length → 0 < a → okM a = true := fun a ha h0 => by
  have h := allL_spec mYl 0 a mYl[a] tbMa (List.getElem?_eq_getElem ha)
  rw [Nat.zero_add] at h
  exact h h0
theorem tb_Q : ∀ k, k < mYl.length → ∀ z ∈ cds.getD k [], okQ k z = true := fun k hk z hz => by
  have hl : k < cds.length := hk
  have h := allL_spec cds 0 k cds[k] tbQa (List.getElem?_eq_getElem hl)
  rw [Nat.zero_add] at h
  rw [List.getD_eq_getElem?_getD, List.getElem?_eq_getElem hl] at hz
  exact h z hz
theorem tb_all : TB := by
  refine ⟨tb_Q, tb_K, fun E hE v hv => zipA_spec _ _ (tb_E E hE) v hv, tb_B, fun x hx => ?_, fun j hj => ?_, tb_M, fun _ => rfl, rfl, rfl⟩
  · refine (zipA_spec _ _ tb_A _ ?_).1
    rcases List.mem_cons.mp hx with rfl | hx
    · exact List.mem_cons_self
    · rcases List.mem_cons.mp hx with rfl | hx
      · exact List.mem_cons_of_mem _ List.mem_cons_self
      · rcases List.mem_cons.mp hx with rfl | hx
        · exact List.mem_cons_of_mem _ (List.mem_cons_of_mem _ List.mem_cons_self)
        · cases hx
  · have hj3 : j < 3 := hj
    obtain rfl | rfl | rfl : j = 0 ∨ j = 1 ∨ j = 2 := by omega
    · exact ⟨by decide, _, rfl, rfl⟩
    · exact ⟨by decide, _, rfl, rfl⟩
    · exact ⟨by decide, _, rfl, rfl⟩
theorem aoP_in : ∀ j, j < arN.length → Cond.arrayOver (.object (arN.getD j "")) ∈ lw_tbl := by
  intro j hj
  have hj3 : j < 3 := hj
  have h : zipA ((List.range 3).map (fun j => Cond.arrayOver (.object (arN.getD j "")))) aoP = true := by decide +kernel
  exact (zipA_spec _ _ h _ (List.mem_map.mpr ⟨j, List.mem_range.mpr hj3, rfl⟩)).1
end
section
/-! the law's entry: the world is empty but for the script -/
theorem en_K {s : State} {args : Array Value} (hts : ∀ z, z ∈ lw_tbl → okw z = true → ∀ a : Array Value, z.before a s = true) : ∃ (D : va_G) (aC : Nat → ClassId), va_K D kCl (tyl aC) s := by
  have h1 : ∀ x : Nat, ∃ (cC : ClassId) (iS : Nat → Nat), ∀ q, kCl[x]? = some q → u_Kn s q.1 q.2.1 q.2.2 cC iS := by
    intro x
    by_cases hx : x < 10
    · cases hq : kCl[x]? with
      | none => exact ⟨0, fun _ => 0, fun q h => by cases h⟩
      | some q =>
        obtain ⟨C, T, N⟩ := q
        obtain ⟨-, -, -, -, k5, k6, -⟩ := okK_spec hq (tb_K x hx)
        obtain ⟨cC, iS, h⟩ := u_known (ws := tbG) (args := args) (fun z hz => hts z (List.mem_filter.mp hz).1 (List.mem_filter.mp hz).2 args) k5 (hts _ (List.mem_of_getElem? (of_decide_eq_true k6)) rfl args)
        exact ⟨cC, iS, fun q hq' => by cases hq'; exact h⟩
    · by_cases hx2 : x < 13
      · obtain ⟨E, rfl⟩ : ∃ E, x = 10 + E := ⟨x - 10, by omega⟩
        have hE : E < 3 := by omega
        have hw := zipA_spec _ _ (tb_E E hE) (.instantiable (exN E) 6) (by simp [exWs, xAt])
        obtain ⟨cC, iS, h⟩ := u_known (ws := tbG) (args := args) (C := exN E) (T := kFE) (N := 0) (n := 6) (fun z hz => hts z (List.mem_filter.mp hz).1 (List.mem_filter.mp hz).2 args) (fun z hz => by cases hz) (hts _ hw.1 hw.2 args)
        exact ⟨cC, iS, fun q hq' => by rw [ex_kCl E hE] at hq'; cases hq'; exact h⟩
      · exact ⟨0, fun _ => 0, fun q h => by
          have := (List.getElem?_eq_some_iff.mp h).1
          have h9 : kCl.length = 13 := rfl
          omega⟩
  have h2 : ∀ x : Nat, ∃ cA : ClassId, ∀ ty, (tyl (fun _ => cA))[x]? = some (cA, ty) → ArrOfT s cA ty ∧ va_RA s cA ty := by
    intro x
    have prim : ∀ ty : FieldType, Cond.arrayClass ty ∈ lw_tbl → (∀ (u : State) (cA : ClassId), u.vm.findClass ("[" ++ ty.toString) = some cA → va_RA u cA ty) → ∃ cA : ClassId, ArrOfT s cA ty ∧ va_RA s cA ty := by
      intro ty hty hra
      obtain ⟨cA, k, comp, g1, g2, g3⟩ := Cond.arrayClass_spec (hts _ hty rfl args)
      exact ⟨cA, fun n z => ⟨(fun k h => by cases h), k, g2, comp, g3⟩, hra s cA g1⟩
    have hm : ∀ t, t ∈ [FieldType.int, .boolean, .long] → Cond.arrayClass t ∈ lw_tbl := tb_all.2.2.2.2.1
    by_cases h0 : x = 0
    · subst h0
      obtain ⟨cA, g⟩ := prim .int (hm _ (by simp)) (fun _ _ h => h)
      exact ⟨cA, fun ty h => by cases h; exact g⟩
    · by_cases h1 : x = 1
      · subst h1
        obtain ⟨cA, g⟩ := prim .boolean (hm _ (by simp)) (fun _ _ h => h)
        exact ⟨cA, fun ty h => by cases h; exact g⟩
      · by_cases h2 : x = 2
        · subst h2
          obtain ⟨cA, g⟩ := prim .long (hm _ (by simp)) (fun _ _ h => h)
          exact ⟨cA, fun ty h => by cases h; exact g⟩
        · by_cases h3 : x < 6
          · obtain ⟨j, rfl⟩ : ∃ j, x = 3 + j := ⟨x - 3, by omega⟩
            have hj : j < arN.length := by
              show j < 3
              omega
            have hao := aoP_in j hj
            obtain ⟨comp, cA, k, g1, -, g3, g4, g5⟩ := Cond.arrayOver_spec (hts _ hao rfl args)
            refine ⟨cA, fun ty h => ?_⟩
            rw [tyl3 _ hj] at h
            cases h
            exact ⟨fun n z => ⟨(fun k h => by cases h), k, g3, comp, g4⟩, k, comp, g3, g4, g1, g5⟩
          · exact ⟨0, fun ty h => by
              have := (List.getElem?_eq_some_iff.mp h).1
              have h9 : (tyl (fun _ => (0 : ClassId))).length = 6 := rfl
              omega⟩
  refine ⟨(fun x => Classical.choose (h1 x), fun x => Classical.choose (Classical.choose_spec (h1 x))), fun x => Classical.choose (h2 x), fun x q hq => Classical.choose_spec (Classical.choose_spec (h1 x)) q hq, fun x q hq => ?_⟩
  have hsp := Classical.choose_spec (h2 x)
  generalize hfe : (fun x => Classical.choose (h2 x)) = f at hq
  have hfx : Classical.choose (h2 x) = f x := by rw [← hfe]
  rw [hfx] at hsp
  have hlt : x < 6 := (List.getElem?_eq_some_iff.mp hq).1
  have hty : ∃ ty, q = (f x, ty) ∧ (tyl (fun _ => f x))[x]? = some (f x, ty) := by
    obtain rfl | rfl | rfl | rfl | rfl | rfl : x = 0 ∨ x = 1 ∨ x = 2 ∨ x = 3 ∨ x = 4 ∨ x = 5 := by omega
    · cases hq; exact ⟨_, rfl, rfl⟩
    · cases hq; exact ⟨_, rfl, rfl⟩
    · cases hq; exact ⟨_, rfl, rfl⟩
    · cases hq; exact ⟨_, rfl, rfl⟩
    · cases hq; exact ⟨_, rfl, rfl⟩
    · cases hq; exact ⟨_, rfl, rfl⟩
  obtain ⟨ty, rfl, h9⟩ := hty
  exact hsp ty h9
/-- from a run of the small machine to the law's own end -/
theorem en_law {p : Program} {l : Launch} {e : Env} {s : State} {m : MethodId} {below : List Frame} {meth : Method} {c : Code} {b L : Nat} {xs : Nat → Int32} {hs : Hp × Nat} (hl : l.stackTraces = false)
    (hx : p.tables.exec = Jvm.exec) (hM : MC 0 s m meth c) (hts : ∀ z ∈ lw_tbl, z.before #[Value.ref b] s = true) (hX : va_X b L xs s s.heap) (hb : b < s.heap.size)
    (z1 : ZL Bundle.tN "UNASSIGNED_STACK" Bundle.steD s.heap.size s s.heap) (z2 : ZL Bundle.tN "SUPPRESSED_SENTINEL" Bundle.listD s.heap.size s s.heap) (hn : ∀ i, i < 3 → ∀ j, j < 3 → i ≠ j → NCs (exN i) (exN j) s) {R : Room} (hR : RM R 0 1 0)
    (hev : Ev (0, 0, [(0, .ref 0)], [], ([(100, L)], fun _ j => xs j, fun _ _ => 0, fun _ _ => none), 0) (.inl (some (.int 1)), hs)) :
    W p l e R s m #[Value.ref b] below meth c s.heap [] 0 0 (fun t => t.status = .running ∧ Ended t below (.returned (some (.int 1))) ∧ s.WarmedH t.vm ∧ s.sameButNew ({ t with vm := s.vm } : State) [] R.cells R.slots) (entryFrame m ([Value.ref b] : List Value).toArray (mL 0)) := by
  have hw : ∀ z, z ∈ lw_tbl → okw z = true → ∀ a : Array Value, z.before a s = true := fun z hz hk a => okw_at (State.WarmedH.refl s) hk (hts z hz)
  obtain ⟨D, aC, hK⟩ := en_K (args := #[]) hw
  obtain ⟨n, hn9⟩ := hev
  have C : Cx (D, aC, b, s.heap.size, L, xs) s := ⟨hw, hK, hX, hb, Nat.le_refl _, fun q cell hq hc => absurd (Array.getElem?_eq_some_iff.mp hc).1 (Nat.not_lt.mpr hq), z1, z2, hn⟩
  have B : Bx p l R s m meth c (D, aC, b, s.heap.size, L, xs) 0 1 0 := ⟨hx, hl, C, hM, hR, Nat.one_pos, rfl⟩
  have k := snd tb_all (p := p) (l := l) (e := e) (w := (D, aC, b, s.heap.size, L, xs)) n _ _ hn9 R s m #[Value.ref b] below meth c 1 0 B
  rw [lg_entry_eq]
  have hlv := lv_entry [Value.ref b] (n := mL 0) (by rw [sl_len]; exact (by decide : 1 ≤ 7))
  refine W.mono (fun t ht => ?_) (k s.heap [] _ ⟨⟨Nat.one_pos, (fun k q hq => by cases hq), rfl, fun j _ => rfl⟩, va_S.rf, hlv, Nat.le_refl _, (show 1 ≤ mxC + 1 by decide), Nat.le_refl _, Nat.zero_le _⟩)
  obtain ⟨h1, h2, h3, -, -, -, q1, q2, q3, q4, -, L1, hL1, h5⟩ := ht
  refine ⟨h1, h2, h3, h5.weaken (fun y hy hlt => absurd hlt (Nat.not_lt.mpr (hL1 y hy))) ?_ ?_⟩
  · have := hR.2.2.1
    omega
  · have := hR.2.2.2
    omega
end
section
/-! THE CLAIM OUT OF ONE WALK OF THE LAW'S BODY. Your part is whole_start (and what it stands on); all else here is the same for every law, but numbers. -/
def R_law : String := "RotorBenchLaw"
def lw_P (b : Addr) (xs : List Int32) (args : Array Value) (s : State) : Prop := args = #[.ref b] ∧ s.IntsAt b xs ∧ xs.length ≤ 2048 ∧ (Jvm.Cond.and given_1 narrow_1).before args s = true
def lw_Q (_ : Array Value) (s : State) (o : Outcome) (t : State) : Prop := o = .returned (some (.int 1)) ∧ Framed s o t [] 601024 7293034
def lw_Z (below : List Frame) (a : Array Value) (s : State) : State → Prop := fun t => ∃ o, t.status = .running ∧ Ended t below o ∧ lw_Q a s o t
/-- the law's own end, with 1 on the stack, nothing written that was there before, its room as the claim has it -/
theorem lw_ret {p : Program} {l : Launch} {e : Env} {s : State} {m : MethodId} {below : List Frame} {meth : Method} {c : Code} {b : Nat} (hx : p.tables.exec = Jvm.exec) (hb : c.code = code) (hr : meth.sig.returnType = ret) (hlocks : meth.locks = false) {pc : Nat} {H : Heap} {ls : Array Slot} (hdg : decode code pc = .ok (.ireturn, 1)) : W p l e room_1 s m #[Value.ref b] below meth c H [] 601024 7293034 (lw_Z below #[Value.ref b] s) (F0 m pc ls [.int 1]) := by
  intro T hT X
  obtain ⟨fs, hret, hrun, hended, hW, hframe⟩ := X.leave (v := some (.int 1)) (hlocks := hlocks) (fun h => by rw [hr] at h; cases h)
  have hmeth' : T.vm.method? m = some meth := X.method'
  refine ⟨T.setFrames fs, ?_, .returned (some (.int 1)), hrun, hended, rfl, ⟨_, rfl⟩, hW, hframe⟩
  jvm_step X.here [X.here.top, hx, hb, hdg, hmeth', hr, ret, narrow_b1]
  (try refine ⟨rfl, ?_⟩); (try refine ⟨rfl, ?_⟩)
  first | (intro acts; rw [hret _ acts rfl rfl rfl]) | rw [hret _ _ rfl rfl rfl]
  exact Steps.refl _
/-- what holds at the law's entry: the machine, the code, the tables' words (any of lw_tbl by 'hts w (by decide +kernel)'), the script of L ints xs at the cell b, what the Statement gives of the start (any of its parts by flat_of_before) -/
def lw_At (p : Program) (s : State) (m : MethodId) (meth : Method) (c : Code) (b L : Nat) (xs : Nat → Int32) : Prop :=
  p.tables.exec = Jvm.exec ∧ c.code = code ∧ meth.sig.returnType = ret ∧ c.maxLocals = 7 ∧ s.vm.findClass R_law = some m.cls ∧ (∀ w ∈ lw_tbl, w.before #[Value.ref b] s = true) ∧ va_X b L xs s s.heap ∧ b < s.heap.size ∧ meth.locks = false ∧ (Jvm.Cond.and given_1 narrow_1).before #[Value.ref b] s = true ∧ meth.name = "law" ∧ c.exceptionTable.toList = []
/-- the pure part: the small machine's run of the law -/
theorem law_ev (L : Nat) (xs : Nat → Int32) (hL : L ≤ 2048) : ∃ hs : Hp × Nat, Ev (0, 0, [(0, .ref 0)], [], ([(100, L)], fun _ j => xs j, fun _ _ => 0, fun _ _ => none), 0) (.inl (some (.int 1)), hs) := by
  sorry
theorem whole_start {p : Program} {e : Env} {s : State} {m : MethodId} {below : List Frame} {meth : Method} {c : Code} (l : Launch) (hl9 : l.stackTraces = false) {b L : Nat} {xs : Nat → Int32} (hL : L ≤ 2048) (C0 : lw_At p s m meth c b L xs) : W p l e room_1 s m #[Value.ref b] below meth c s.heap [] 0 0 (lw_Z below #[Value.ref b] s) (entryFrame m ([Value.ref b] : List Value).toArray 7) := by
  obtain ⟨hx, hb, hr, hml, hown, hts, hX, hbl, hlk, hgv, hnm, htab⟩ := C0
  obtain ⟨hs, hev⟩ := law_ev L xs hL
  have hfl := flat_of_before _ hgv
  have z1 : ZL Bundle.tN "UNASSIGNED_STACK" Bundle.steD s.heap.size s s.heap := ZL.of (Nat.le_refl _) (args := #[Value.ref b]) (hts _ (List.mem_of_getElem? (i := stP.getD 0 0) (by decide +kernel))) (hfl _ (by decide +kernel))
  have z2 : ZL Bundle.tN "SUPPRESSED_SENTINEL" Bundle.listD s.heap.size s s.heap := ZL.of (Nat.le_refl _) (args := #[Value.ref b]) (hts _ (List.mem_of_getElem? (i := stP.getD 1 0) (by decide +kernel))) (hfl _ (by decide +kernel))
  have hn : ∀ i, i < 3 → ∀ j, j < 3 → i ≠ j → NCs (exN i) (exN j) s := by
    intro i hi j hj hij
    refine NCs.of (hfl _ ?_)
    revert i j
    decide +kernel
  have hM : MC 0 s m meth c := ⟨hown, hb, hml, hr, hlk, hnm, by rw [htab]; rfl⟩
  have k := en_law (R := room_1) (below := below) (e := e) hl9 hx hM hts hX hbl z1 z2 hn ⟨by decide, by decide, rfl, rfl⟩ hev
  refine W.mono (fun t ht => ?_) k
  exact ⟨_, ht.1, ht.2.1, rfl, ⟨_, rfl⟩, ht.2.2.1, ht.2.2.2⟩
-- ===== YOUR PART ENDS =====
set_option maxHeartbeats 4000000 in
theorem lw_walk (l : Launch) (hl9 : l.stackTraces = false) (b : Addr) (xs : List Int32) : MetFree l x (headSpec (Jvm.Cond.code x code maxLocals ret :: tables_1) room_1) (lw_P b xs) (fun _ _ _ _ _ => True) lw_Q := by
  refine MetFree.of_bodyS (code := code) (maxLocals := maxLocals) (ret := ret) (by decide) ?_ ?_
  · intro args s m h hn
    obtain ⟨meth, c, h1, h2, h3, h4, h5, h6, -, -⟩ := Cond.code_spec hn (atoms_spec (ws := Jvm.Cond.code x code maxLocals ret :: tables_1) h _ List.mem_cons_self)
    exact ⟨meth, c, h1, h2, h3, h4, h5, h6⟩
  · intro p e s m args below meth c s₁ B hml0 hP _
    obtain ⟨rfl, hx, hbd, hgv⟩ := hP
    obtain ⟨scr, harrAt, hlist, hof, hsmall⟩ := hx
    obtain ⟨hcb, hkn, -, -⟩ := State.arrayAt?_spec harrAt
    have hown : s.vm.findClass R_law = some m.cls := findClass_of_methodNamed B.named
    have hts0 : ∀ c ∈ (Jvm.Cond.code x code maxLocals ret :: tables_1), c.before #[Value.ref b] s = true := atoms_spec (ws := Jvm.Cond.code x code maxLocals ret :: tables_1) B.pre
    have hts : ∀ w ∈ lw_tbl, w.before #[Value.ref b] s = true := k2_hts_sels lw_privs (fun w hw => hts0 w (List.mem_cons_of_mem _ hw)) lw_privs_ok
    have hml : c.maxLocals = 7 := B.maxLocals_eq (hts0 _ List.mem_cons_self)
    have X₀ : Stand p l e room_1 s m #[Value.ref b] below meth c s₁ [] 0 0 := Stand.of_body B
    have hh0 : s₁.heap = s.heap := by rw [B.state]; rfl
    have hsz : scr.slots.size = xs.length := by rw [← Array.length_toList, hlist, List.length_map]
    have hval : ∀ j : Nat, j < xs.length → scr.slots[j]? = some (.int (xs.getD j 0)) := fun j hj => by
      rw [← Array.getElem?_toList, hlist]
      simp [hj]
    have hbl : b < s.heap.size := (Array.getElem?_eq_some_iff.mp hcb).1
    have hX : va_X b xs.length (fun j => xs.getD j 0) s s.heap := ⟨scr, hcb, hof, hkn, hsz, hval⟩
    have K : W p l e room_1 s m #[Value.ref b] below meth c s₁.heap [] 0 0 (lw_Z below #[Value.ref b] s) (entryFrame m ([Value.ref b] : List Value).toArray 7) := by
      rw [hh0]
      have htab : c.exceptionTable.toList = [] := by
        obtain ⟨meth9, c9, q1, q2, -, -, -, -, q7, -⟩ := Cond.code_spec B.named (hts0 _ List.mem_cons_self)
        cases B.method.symm.trans q1
        cases X₀.code.symm.trans q2
        have h0 : c.exceptionTable.size = 0 := by simpa [Array.isEmpty] using q7
        exact List.eq_nil_of_length_eq_zero (by simpa using h0)
      exact whole_start l hl9 hbd ⟨B.exec, B.bytes, B.returns, hml, hown, hts, hX, hbl, B.notSynchronized, hgv, (name_of_methodNamed B.named B.method).1, htab⟩
    obtain ⟨t, a1, o, b1, b2, b3⟩ := K s₁ rfl X₀
    exact ⟨t, o, a1, b1, b2, b3⟩
theorem lw_pre_spec {args : Array Value} {s : State} (h : (Jvm.Cond.and given_1 narrow_1).before args s = true) (hr : rest_1_c.before args s = true) : ∃ (b : Addr) (xs : List Int32), lw_P b xs args s := by
  have hs := flat_of_before _ h
  have hq := flat_of_before _ hr
  have hc : (Cond.count 1).before args s = true := hs _ (by decide +kernel)
  have harr : (Cond.arrayOf (.arg 0) .int).before args s = true := hs _ (by decide +kernel)
  have hle : (Cond.le (.length (.arg 0)) (.int 2048)).before args s = true := hs _ (by decide +kernel)
  have hlen : (Cond.isInt (.length (.arg 0))).before args s = true := hq _ (by decide +kernel)
  have hall : (Cond.all (.arg 0) (.isInt (.elem (.arg 0) (.index 0)))).before args s = true := hq _ (by decide +kernel)
  obtain ⟨b, xs, hb, hx⟩ := State.ints_of_pre rfl harr hlen hall
  have hsm : xs.length < 2 ^ 31 := hx.choose_spec.2.2.2
  have hev : (Term.length (.arg 0)).eval args s none [] s = some (.int xs.length.toInt32) := hx.length_eval hb
  have hv := Cond.le_ints hev (show (Term.int 2048).eval args s none [] s = some (.int 2048) from rfl)
  have hd : xs.length.toInt32 ≤ 2048 := by
    simpa [Cond.before, Cond.holds, hv] using hle
  have hN : xs.length ≤ 2048 := (Int32.ofNat_le_ofNat hsm (by decide)).mp (show Int32.ofNat xs.length ≤ Int32.ofNat 2048 from hd)
  exact ⟨b, xs, Cond.one_arg hc (show args[0]? = some (.ref b) from hb), hx, hN, h⟩
theorem lw_comes (l : Launch) (hl9 : l.stackTraces = false) : Comes l x (Jvm.Cond.code x code maxLocals ret :: tables_1) room_1 (fun tb e args s => Calls_1 tb e args s ∧ rest_1 tb e args s ∧ Pre_1 tb e args s)
    (fun _ _ args s o t => lw_Q args s o t) := by
  intro p e ha hc hk s m args below hf hfit hheap happ hpre
  obtain ⟨b, xs, hP⟩ := lw_pre_spec hpre.2.2 hpre.2.1
  obtain ⟨k, o, h1, h2, h3, hQ⟩ := lw_walk l hl9 b xs p e ha hc hk s m args below hf ((Spec.applies_iff_loose hf).mp happ).1 hP trivial
  exact ⟨k, o, h1, h2, h3, hQ⟩
theorem lw_frame {s t : State} {o : Outcome} {args : Array Value} (h : Framed s o t [] 601024 7293034) :
    Framed s o t (fieldLocs frame_1_writes args s ++ arrayLocs frame_1_arrays args s ++ staticLocs frame_1_statics s) 601024 7293034 := h
theorem lw_limb (L : Cond) (hL : ∀ (args : Array Value) (s t : State), L.after args s (.returned (some (.int 1))) t = true) :
    ArmFor flags0 classFile x code maxLocals ret World_1 tables_1 room_1 Calls_1 rest_1 Pre_1
      (fun tb e a s o t => postC L tb e a s o t ∧ Framed s o t (fieldLocs frame_1_writes a s ++ arrayLocs frame_1_arrays a s ++ staticLocs frame_1_statics s) 601024 7293034) := by
  intro l hfl _ _ p e ha hc hk s m args below hf hfit hheap happ hpre
  have hl9 : l.stackTraces = false := by
    show (!l.flags.contains Jvm.noTraceFlag) = false
    rw [hfl]
    decide +kernel
  obtain ⟨k, o, h1, h2, h3, rfl, hF⟩ := lw_comes l hl9 p e ha hc hk s m args below hf hfit hheap happ hpre
  exact ⟨k, _, h1, h2, h3, hL args s _, lw_frame hF⟩
theorem i_vc : Claimed_1_1 ∧ Claimed_1_2 := ⟨lw_limb limb_1_1 (fun args s t => by simp [limb_1_1, Cond.after, Cond.holds, Cond.value]), lw_limb limb_1_2 (fun args s t => Cond.after_iff.mpr (by
  first | (rw [show limb_1_2 = Cond.eq .result (.int 1) from rfl, Cond.eq_ints (x := 1) (y := 1) rfl rfl]; simp; done) | (simp [limb_1_2, Cond.value, Term.eval]; done)))⟩
end
