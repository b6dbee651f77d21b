section
/-- a private method of a class that the tables say can be made, by its rows of tables_1 -/
def lw_okq (q : MethodName × Nat) : Prop := (q.1.cls ≠ "java/lang/invoke/MethodHandle" ∧ q.1.cls ≠ "java/lang/invoke/VarHandle") ∧ Cond.instantiable q.1.cls q.2 ∈ tables_1 ∧ Cond.privateMethod q.1 ∈ tables_1 ∧ Cond.instanceMethod q.1 ∈ tables_1
theorem lw_p0 : lw_okq (⟨"RotorBench$Machine", "takePath", "(I)I"⟩, 14) := ⟨⟨by decide +kernel, by decide +kernel⟩, List.mem_of_getElem? (i := 29) (by decide +kernel), List.mem_of_getElem? (i := 279) (by decide +kernel), List.mem_of_getElem? (i := 280) (by decide +kernel)⟩
theorem lw_p1 : lw_okq (⟨"RotorBench$Machine", "intoSlots", "(I)I"⟩, 14) := ⟨⟨by decide +kernel, by decide +kernel⟩, List.mem_of_getElem? (i := 29) (by decide +kernel), List.mem_of_getElem? (i := 283) (by decide +kernel), List.mem_of_getElem? (i := 284) (by decide +kernel)⟩
theorem lw_p2 : lw_okq (⟨"RotorBench$Machine", "fromSlots", "(I)I"⟩, 14) := ⟨⟨by decide +kernel, by decide +kernel⟩, List.mem_of_getElem? (i := 29) (by decide +kernel), List.mem_of_getElem? (i := 294) (by decide +kernel), List.mem_of_getElem? (i := 295) (by decide +kernel)⟩
theorem lw_p3 : lw_okq (⟨"RotorBench$Machine", "turnBits", "(I)I"⟩, 14) := ⟨⟨by decide +kernel, by decide +kernel⟩, List.mem_of_getElem? (i := 29) (by decide +kernel), List.mem_of_getElem? (i := 298) (by decide +kernel), List.mem_of_getElem? (i := 299) (by decide +kernel)⟩
theorem lw_p4 : lw_okq (⟨"RotorBench$Machine", "isUp", "(I)Z"⟩, 14) := ⟨⟨by decide +kernel, by decide +kernel⟩, List.mem_of_getElem? (i := 29) (by decide +kernel), List.mem_of_getElem? (i := 302) (by decide +kernel), List.mem_of_getElem? (i := 303) (by decide +kernel)⟩
theorem lw_p5 : lw_okq (⟨"RotorBench$Machine", "barsTaken", "()I"⟩, 14) := ⟨⟨by decide +kernel, by decide +kernel⟩, List.mem_of_getElem? (i := 29) (by decide +kernel), List.mem_of_getElem? (i := 306) (by decide +kernel), List.mem_of_getElem? (i := 307) (by decide +kernel)⟩
theorem lw_p6 : lw_okq (⟨"RotorBench$Machine", "isLugUp", "(I)Z"⟩, 14) := ⟨⟨by decide +kernel, by decide +kernel⟩, List.mem_of_getElem? (i := 29) (by decide +kernel), List.mem_of_getElem? (i := 310) (by decide +kernel), List.mem_of_getElem? (i := 311) (by decide +kernel)⟩
theorem lw_p7 : lw_okq (⟨"java/lang/Throwable", "fillInStackTrace", "(I)Ljava/lang/Throwable;"⟩, 6) := ⟨⟨by decide +kernel, by decide +kernel⟩, List.mem_of_getElem? (i := 362) (by decide +kernel), List.mem_of_getElem? (i := 360) (by decide +kernel), List.mem_of_getElem? (i := 361) (by decide +kernel)⟩
theorem lw_p8 : lw_okq (⟨"RotorBench", "needNoneOpen", "()V"⟩, 4) := ⟨⟨by decide +kernel, by decide +kernel⟩, List.mem_of_getElem? (i := 21) (by decide +kernel), List.mem_of_getElem? (i := 392) (by decide +kernel), List.mem_of_getElem? (i := 393) (by decide +kernel)⟩
theorem lw_p9 : lw_okq (⟨"RotorBench$Wheel", "join", "(II)V"⟩, 4) := ⟨⟨by decide +kernel, by decide +kernel⟩, List.mem_of_getElem? (i := 71) (by decide +kernel), List.mem_of_getElem? (i := 451) (by decide +kernel), List.mem_of_getElem? (i := 452) (by decide +kernel)⟩
theorem lw_p10 : lw_okq (⟨"RotorBench", "rowOf", "(I)[I"⟩, 4) := ⟨⟨by decide +kernel, by decide +kernel⟩, List.mem_of_getElem? (i := 21) (by decide +kernel), List.mem_of_getElem? (i := 577) (by decide +kernel), List.mem_of_getElem? (i := 578) (by decide +kernel)⟩
theorem lw_p11 : lw_okq (⟨"RotorBench$Machine", "doesStep", "(I)Z"⟩, 14) := ⟨⟨by decide +kernel, by decide +kernel⟩, List.mem_of_getElem? (i := 29) (by decide +kernel), List.mem_of_getElem? (i := 597) (by decide +kernel), List.mem_of_getElem? (i := 598) (by decide +kernel)⟩
theorem lw_p12 : lw_okq (⟨"RotorBench$Machine", "areAtNotchBefore", "(I)Z"⟩, 14) := ⟨⟨by decide +kernel, by decide +kernel⟩, List.mem_of_getElem? (i := 29) (by decide +kernel), List.mem_of_getElem? (i := 601) (by decide +kernel), List.mem_of_getElem? (i := 602) (by decide +kernel)⟩
theorem lw_p13 : lw_okq (⟨"RotorBench$Machine", "isAtNotch", "(I)Z"⟩, 14) := ⟨⟨by decide +kernel, by decide +kernel⟩, List.mem_of_getElem? (i := 29) (by decide +kernel), List.mem_of_getElem? (i := 605) (by decide +kernel), List.mem_of_getElem? (i := 606) (by decide +kernel)⟩
theorem lw_p14 : lw_okq (⟨"RotorBench$Machine", "move", "(II)V"⟩, 14) := ⟨⟨by decide +kernel, by decide +kernel⟩, List.mem_of_getElem? (i := 29) (by decide +kernel), List.mem_of_getElem? (i := 609) (by decide +kernel), List.mem_of_getElem? (i := 610) (by decide +kernel)⟩
theorem lw_p15 : lw_okq (⟨"RotorBench", "stepsTillKept", "(I)I"⟩, 4) := ⟨⟨by decide +kernel, by decide +kernel⟩, List.mem_of_getElem? (i := 21) (by decide +kernel), List.mem_of_getElem? (i := 681) (by decide +kernel), List.mem_of_getElem? (i := 682) (by decide +kernel)⟩
def lw_privs_1 : List (MethodName × Nat) := [(⟨"RotorBench$Machine", "takePath", "(I)I"⟩, 14), (⟨"RotorBench$Machine", "intoSlots", "(I)I"⟩, 14), (⟨"RotorBench$Machine", "fromSlots", "(I)I"⟩, 14), (⟨"RotorBench$Machine", "turnBits", "(I)I"⟩, 14), (⟨"RotorBench$Machine", "isUp", "(I)Z"⟩, 14), (⟨"RotorBench$Machine", "barsTaken", "()I"⟩, 14), (⟨"RotorBench$Machine", "isLugUp", "(I)Z"⟩, 14), (⟨"java/lang/Throwable", "fillInStackTrace", "(I)Ljava/lang/Throwable;"⟩, 6), (⟨"RotorBench", "needNoneOpen", "()V"⟩, 4), (⟨"RotorBench$Wheel", "join", "(II)V"⟩, 4), (⟨"RotorBench", "rowOf", "(I)[I"⟩, 4), (⟨"RotorBench$Machine", "doesStep", "(I)Z"⟩, 14), (⟨"RotorBench$Machine", "areAtNotchBefore", "(I)Z"⟩, 14), (⟨"RotorBench$Machine", "isAtNotch", "(I)Z"⟩, 14), (⟨"RotorBench$Machine", "move", "(II)V"⟩, 14), (⟨"RotorBench", "stepsTillKept", "(I)I"⟩, 4)]
theorem lw_r1 : ∀ q ∈ lw_privs_1, lw_okq q := List.forall_mem_cons.mpr ⟨lw_p0, List.forall_mem_cons.mpr ⟨lw_p1, List.forall_mem_cons.mpr ⟨lw_p2, List.forall_mem_cons.mpr ⟨lw_p3, List.forall_mem_cons.mpr ⟨lw_p4, List.forall_mem_cons.mpr ⟨lw_p5, List.forall_mem_cons.mpr ⟨lw_p6, List.forall_mem_cons.mpr ⟨lw_p7, List.forall_mem_cons.mpr ⟨lw_p8, List.forall_mem_cons.mpr ⟨lw_p9, List.forall_mem_cons.mpr ⟨lw_p10, List.forall_mem_cons.mpr ⟨lw_p11, List.forall_mem_cons.mpr ⟨lw_p12, List.forall_mem_cons.mpr ⟨lw_p13, List.forall_mem_cons.mpr ⟨lw_p14, List.forall_mem_cons.mpr ⟨lw_p15, fun _ h => absurd h List.not_mem_nil⟩⟩⟩⟩⟩⟩⟩⟩⟩⟩⟩⟩⟩⟩⟩⟩
theorem lw_p16 : lw_okq (⟨"RotorBench", "firstOther", "(LRotorBench$Message;)I"⟩, 4) := ⟨⟨by decide +kernel, by decide +kernel⟩, List.mem_of_getElem? (i := 21) (by decide +kernel), List.mem_of_getElem? (i := 739) (by decide +kernel), List.mem_of_getElem? (i := 740) (by decide +kernel)⟩
theorem lw_p17 : lw_okq (⟨"RotorBenchModel", "reset", "()V"⟩, 24) := ⟨⟨by decide +kernel, by decide +kernel⟩, List.mem_of_getElem? (i := 755) (by decide +kernel), List.mem_of_getElem? (i := 761) (by decide +kernel), List.mem_of_getElem? (i := 762) (by decide +kernel)⟩
theorem lw_p18 : lw_okq (⟨"RotorBenchModel", "goes", "(ZZZ)Z"⟩, 24) := ⟨⟨by decide +kernel, by decide +kernel⟩, List.mem_of_getElem? (i := 755) (by decide +kernel), List.mem_of_getElem? (i := 846) (by decide +kernel), List.mem_of_getElem? (i := 847) (by decide +kernel)⟩
theorem lw_p19 : lw_okq (⟨"RotorBenchModel", "isContact", "(I)Z"⟩, 24) := ⟨⟨by decide +kernel, by decide +kernel⟩, List.mem_of_getElem? (i := 755) (by decide +kernel), List.mem_of_getElem? (i := 857) (by decide +kernel), List.mem_of_getElem? (i := 858) (by decide +kernel)⟩
theorem lw_p20 : lw_okq (⟨"RotorBenchModel", "paired", "(II)Z"⟩, 24) := ⟨⟨by decide +kernel, by decide +kernel⟩, List.mem_of_getElem? (i := 755) (by decide +kernel), List.mem_of_getElem? (i := 877) (by decide +kernel), List.mem_of_getElem? (i := 878) (by decide +kernel)⟩
theorem lw_p21 : lw_okq (⟨"RotorBenchModel", "isPart", "(II)Z"⟩, 24) := ⟨⟨by decide +kernel, by decide +kernel⟩, List.mem_of_getElem? (i := 755) (by decide +kernel), List.mem_of_getElem? (i := 916) (by decide +kernel), List.mem_of_getElem? (i := 917) (by decide +kernel)⟩
theorem lw_p22 : lw_okq (⟨"RotorBenchModel", "goOn", "()V"⟩, 24) := ⟨⟨by decide +kernel, by decide +kernel⟩, List.mem_of_getElem? (i := 755) (by decide +kernel), List.mem_of_getElem? (i := 924) (by decide +kernel), List.mem_of_getElem? (i := 925) (by decide +kernel)⟩
theorem lw_p23 : lw_okq (⟨"RotorBenchModel", "step", "()V"⟩, 24) := ⟨⟨by decide +kernel, by decide +kernel⟩, List.mem_of_getElem? (i := 755) (by decide +kernel), List.mem_of_getElem? (i := 928) (by decide +kernel), List.mem_of_getElem? (i := 929) (by decide +kernel)⟩
theorem lw_p24 : lw_okq (⟨"RotorBenchModel", "steps", "(I)Z"⟩, 24) := ⟨⟨by decide +kernel, by decide +kernel⟩, List.mem_of_getElem? (i := 755) (by decide +kernel), List.mem_of_getElem? (i := 932) (by decide +kernel), List.mem_of_getElem? (i := 933) (by decide +kernel)⟩
theorem lw_p25 : lw_okq (⟨"RotorBenchModel", "beside", "(IIZ)I"⟩, 24) := ⟨⟨by decide +kernel, by decide +kernel⟩, List.mem_of_getElem? (i := 755) (by decide +kernel), List.mem_of_getElem? (i := 936) (by decide +kernel), List.mem_of_getElem? (i := 937) (by decide +kernel)⟩
theorem lw_p26 : lw_okq (⟨"RotorBenchModel", "allAhead", "(I)Z"⟩, 24) := ⟨⟨by decide +kernel, by decide +kernel⟩, List.mem_of_getElem? (i := 755) (by decide +kernel), List.mem_of_getElem? (i := 940) (by decide +kernel), List.mem_of_getElem? (i := 941) (by decide +kernel)⟩
theorem lw_p27 : lw_okq (⟨"RotorBenchModel", "atNotch", "(I)Z"⟩, 24) := ⟨⟨by decide +kernel, by decide +kernel⟩, List.mem_of_getElem? (i := 755) (by decide +kernel), List.mem_of_getElem? (i := 944) (by decide +kernel), List.mem_of_getElem? (i := 945) (by decide +kernel)⟩
theorem lw_p28 : lw_okq (⟨"RotorBenchModel", "active", "(I)Z"⟩, 24) := ⟨⟨by decide +kernel, by decide +kernel⟩, List.mem_of_getElem? (i := 755) (by decide +kernel), List.mem_of_getElem? (i := 948) (by decide +kernel), List.mem_of_getElem? (i := 949) (by decide +kernel)⟩
theorem lw_p29 : lw_okq (⟨"RotorBenchModel", "imageOf", "(I)I"⟩, 24) := ⟨⟨by decide +kernel, by decide +kernel⟩, List.mem_of_getElem? (i := 755) (by decide +kernel), List.mem_of_getElem? (i := 952) (by decide +kernel), List.mem_of_getElem? (i := 953) (by decide +kernel)⟩
theorem lw_p30 : lw_okq (⟨"RotorBenchModel", "bySlots", "(I)I"⟩, 24) := ⟨⟨by decide +kernel, by decide +kernel⟩, List.mem_of_getElem? (i := 755) (by decide +kernel), List.mem_of_getElem? (i := 956) (by decide +kernel), List.mem_of_getElem? (i := 957) (by decide +kernel)⟩
theorem lw_p31 : lw_okq (⟨"RotorBenchModel", "through", "(II)I"⟩, 24) := ⟨⟨by decide +kernel, by decide +kernel⟩, List.mem_of_getElem? (i := 755) (by decide +kernel), List.mem_of_getElem? (i := 960) (by decide +kernel), List.mem_of_getElem? (i := 961) (by decide +kernel)⟩
def lw_privs_2 : List (MethodName × Nat) := [(⟨"RotorBench", "firstOther", "(LRotorBench$Message;)I"⟩, 4), (⟨"RotorBenchModel", "reset", "()V"⟩, 24), (⟨"RotorBenchModel", "goes", "(ZZZ)Z"⟩, 24), (⟨"RotorBenchModel", "isContact", "(I)Z"⟩, 24), (⟨"RotorBenchModel", "paired", "(II)Z"⟩, 24), (⟨"RotorBenchModel", "isPart", "(II)Z"⟩, 24), (⟨"RotorBenchModel", "goOn", "()V"⟩, 24), (⟨"RotorBenchModel", "step", "()V"⟩, 24), (⟨"RotorBenchModel", "steps", "(I)Z"⟩, 24), (⟨"RotorBenchModel", "beside", "(IIZ)I"⟩, 24), (⟨"RotorBenchModel", "allAhead", "(I)Z"⟩, 24), (⟨"RotorBenchModel", "atNotch", "(I)Z"⟩, 24), (⟨"RotorBenchModel", "active", "(I)Z"⟩, 24), (⟨"RotorBenchModel", "imageOf", "(I)I"⟩, 24), (⟨"RotorBenchModel", "bySlots", "(I)I"⟩, 24), (⟨"RotorBenchModel", "through", "(II)I"⟩, 24)]
theorem lw_r2 : ∀ q ∈ lw_privs_2, lw_okq q := List.forall_mem_cons.mpr ⟨lw_p16, List.forall_mem_cons.mpr ⟨lw_p17, List.forall_mem_cons.mpr ⟨lw_p18, List.forall_mem_cons.mpr ⟨lw_p19, List.forall_mem_cons.mpr ⟨lw_p20, List.forall_mem_cons.mpr ⟨lw_p21, List.forall_mem_cons.mpr ⟨lw_p22, List.forall_mem_cons.mpr ⟨lw_p23, List.forall_mem_cons.mpr ⟨lw_p24, List.forall_mem_cons.mpr ⟨lw_p25, List.forall_mem_cons.mpr ⟨lw_p26, List.forall_mem_cons.mpr ⟨lw_p27, List.forall_mem_cons.mpr ⟨lw_p28, List.forall_mem_cons.mpr ⟨lw_p29, List.forall_mem_cons.mpr ⟨lw_p30, List.forall_mem_cons.mpr ⟨lw_p31, fun _ h => absurd h List.not_mem_nil⟩⟩⟩⟩⟩⟩⟩⟩⟩⟩⟩⟩⟩⟩⟩⟩
theorem lw_p32 : lw_okq (⟨"RotorBenchModel", "backThrough", "(II)I"⟩, 24) := ⟨⟨by decide +kernel, by decide +kernel⟩, List.mem_of_getElem? (i := 755) (by decide +kernel), List.mem_of_getElem? (i := 964) (by decide +kernel), List.mem_of_getElem? (i := 965) (by decide +kernel)⟩
theorem lw_p33 : lw_okq (⟨"RotorBenchModel", "byBits", "(I)I"⟩, 24) := ⟨⟨by decide +kernel, by decide +kernel⟩, List.mem_of_getElem? (i := 755) (by decide +kernel), List.mem_of_getElem? (i := 968) (by decide +kernel), List.mem_of_getElem? (i := 969) (by decide +kernel)⟩
theorem lw_p34 : lw_okq (⟨"RotorBenchModel", "byBars", "(I)I"⟩, 24) := ⟨⟨by decide +kernel, by decide +kernel⟩, List.mem_of_getElem? (i := 755) (by decide +kernel), List.mem_of_getElem? (i := 972) (by decide +kernel), List.mem_of_getElem? (i := 973) (by decide +kernel)⟩
theorem lw_p35 : lw_okq (⟨"RotorBenchModel", "putAside", "()V"⟩, 24) := ⟨⟨by decide +kernel, by decide +kernel⟩, List.mem_of_getElem? (i := 755) (by decide +kernel), List.mem_of_getElem? (i := 996) (by decide +kernel), List.mem_of_getElem? (i := 997) (by decide +kernel)⟩
theorem lw_p36 : lw_okq (⟨"RotorBenchModel", "isAside", "()Z"⟩, 24) := ⟨⟨by decide +kernel, by decide +kernel⟩, List.mem_of_getElem? (i := 755) (by decide +kernel), List.mem_of_getElem? (i := 1000) (by decide +kernel), List.mem_of_getElem? (i := 1001) (by decide +kernel)⟩
theorem lw_p37 : lw_okq (⟨"RotorBenchModel", "takeBack", "()V"⟩, 24) := ⟨⟨by decide +kernel, by decide +kernel⟩, List.mem_of_getElem? (i := 755) (by decide +kernel), List.mem_of_getElem? (i := 1004) (by decide +kernel), List.mem_of_getElem? (i := 1005) (by decide +kernel)⟩
theorem lw_p38 : lw_okq (⟨"RotorBenchModel", "isMessage", "(I)Z"⟩, 24) := ⟨⟨by decide +kernel, by decide +kernel⟩, List.mem_of_getElem? (i := 755) (by decide +kernel), List.mem_of_getElem? (i := 1024) (by decide +kernel), List.mem_of_getElem? (i := 1025) (by decide +kernel)⟩
theorem lw_p39 : lw_okq (⟨"RotorBenchModel", "halves", "(I)I"⟩, 24) := ⟨⟨by decide +kernel, by decide +kernel⟩, List.mem_of_getElem? (i := 755) (by decide +kernel), List.mem_of_getElem? (i := 1036) (by decide +kernel), List.mem_of_getElem? (i := 1037) (by decide +kernel)⟩
def lw_privs_3 : List (MethodName × Nat) := [(⟨"RotorBenchModel", "backThrough", "(II)I"⟩, 24), (⟨"RotorBenchModel", "byBits", "(I)I"⟩, 24), (⟨"RotorBenchModel", "byBars", "(I)I"⟩, 24), (⟨"RotorBenchModel", "putAside", "()V"⟩, 24), (⟨"RotorBenchModel", "isAside", "()Z"⟩, 24), (⟨"RotorBenchModel", "takeBack", "()V"⟩, 24), (⟨"RotorBenchModel", "isMessage", "(I)Z"⟩, 24), (⟨"RotorBenchModel", "halves", "(I)I"⟩, 24)]
theorem lw_r3 : ∀ q ∈ lw_privs_3, lw_okq q := List.forall_mem_cons.mpr ⟨lw_p32, List.forall_mem_cons.mpr ⟨lw_p33, List.forall_mem_cons.mpr ⟨lw_p34, List.forall_mem_cons.mpr ⟨lw_p35, List.forall_mem_cons.mpr ⟨lw_p36, List.forall_mem_cons.mpr ⟨lw_p37, List.forall_mem_cons.mpr ⟨lw_p38, List.forall_mem_cons.mpr ⟨lw_p39, fun _ h => absurd h List.not_mem_nil⟩⟩⟩⟩⟩⟩⟩⟩
def lw_privs : List (MethodName × Nat) := lw_privs_1 ++ (lw_privs_2 ++ (lw_privs_3))
def lw_tbl : List Cond := k2_sels lw_privs ++ tables_1
theorem lw_privs_ok : ∀ q ∈ lw_privs, lw_okq q := by
  show ∀ q ∈ lw_privs_1 ++ (lw_privs_2 ++ (lw_privs_3)), lw_okq q
  exact List.forall_mem_append.mpr ⟨lw_r1, List.forall_mem_append.mpr ⟨lw_r2, lw_r3⟩⟩
end
section
/-! tables of the small machine, by program out of the Statement (gen_tables.py) -/
def kF0 : u_T := fun k => match k with
  | 0 => ("RotorBench", "machine", "LRotorBench$Machine;", true)
  | 1 => ("RotorBench", "steps", "LRotorBench$Steps;", true)
  | 2 => ("RotorBench", "log", "LRotorBench$Log;", true)
  | _ => ("RotorBench", "kept", "LRotorBench$Stand;", true)
def kY0 : Nat → FieldType := fun k => match k with
  | 0 => .object "RotorBench$Machine"
  | 1 => .object "RotorBench$Steps"
  | 2 => .object "RotorBench$Log"
  | _ => .object "RotorBench$Stand"
def kF1 : u_T := fun k => match k with
  | 0 => ("RotorBench$Log", "messages", "[LRotorBench$Message;", true)
  | 1 => ("RotorBench$Log", "size", "I", false)
  | _ => ("RotorBench$Log", "running", "Z", false)
def kY1 : Nat → FieldType := fun k => match k with
  | 0 => .array (.object "RotorBench$Message")
  | 1 => .int
  | _ => .boolean
def kF2 : u_T := fun k => match k with
  | 0 => ("RotorBench$Machine", "wheels", "[LRotorBench$Wheel;", true)
  | 1 => ("RotorBench$Machine", "slots", "[I", true)
  | 2 => ("RotorBench$Machine", "order", "[I", true)
  | 3 => ("RotorBench$Machine", "pinWheels", "[LRotorBench$PinWheel;", true)
  | 4 => ("RotorBench$Machine", "oneLugs", "[I", true)
  | 5 => ("RotorBench$Machine", "otherLugs", "[I", true)
  | 6 => ("RotorBench$Machine", "plugboard", "LRotorBench$Pairs;", true)
  | 7 => ("RotorBench$Machine", "reflector", "LRotorBench$Pairs;", true)
  | 8 => ("RotorBench$Machine", "stand", "LRotorBench$Stand;", true)
  | 9 => ("RotorBench$Machine", "contacts", "I", false)
  | 10 => ("RotorBench$Machine", "filled", "I", false)
  | 11 => ("RotorBench$Machine", "stepRule", "I", false)
  | 12 => ("RotorBench$Machine", "signPath", "I", false)
  | _ => ("RotorBench$Machine", "reflecting", "Z", false)
def kY2 : Nat → FieldType := fun k => match k with
  | 0 => .array (.object "RotorBench$Wheel")
  | 1 => .array .int
  | 2 => .array .int
  | 3 => .array (.object "RotorBench$PinWheel")
  | 4 => .array .int
  | 5 => .array .int
  | 6 => .object "RotorBench$Pairs"
  | 7 => .object "RotorBench$Pairs"
  | 8 => .object "RotorBench$Stand"
  | 9 => .int
  | 10 => .int
  | 11 => .int
  | 12 => .int
  | _ => .boolean
def kF3 : u_T := fun k => match k with
  | 0 => ("RotorBench$Message", "start", "LRotorBench$Stand;", true)
  | 1 => ("RotorBench$Message", "keyed", "[I", true)
  | 2 => ("RotorBench$Message", "came", "[I", true)
  | _ => ("RotorBench$Message", "size", "I", false)
def kY3 : Nat → FieldType := fun k => match k with
  | 0 => .object "RotorBench$Stand"
  | 1 => .array .int
  | 2 => .array .int
  | _ => .int
def kF4 : u_T := fun k => match k with
  | 0 => ("RotorBench$Pairs", "partners", "[I", true)
  | _ => ("RotorBench$Pairs", "size", "I", false)
def kY4 : Nat → FieldType := fun k => match k with
  | 0 => .array .int
  | _ => .int
def kF5 : u_T := fun k => match k with
  | 0 => ("RotorBench$PinWheel", "ups", "[Z", true)
  | _ => ("RotorBench$PinWheel", "length", "I", false)
def kY5 : Nat → FieldType := fun k => match k with
  | 0 => .array .boolean
  | _ => .int
def kF6 : u_T := fun k => match k with
  | 0 => ("RotorBench$Stand", "positions", "[I", true)
  | _ => ("RotorBench$Stand", "places", "[I", true)
def kY6 : Nat → FieldType := fun k => match k with
  | 0 => .array .int
  | _ => .array .int
def kF7 : u_T := fun k => match k with
  | 0 => ("RotorBench$Steps", "moved", "[I", true)
  | 1 => ("RotorBench$Steps", "next", "I", false)
  | _ => ("RotorBench$Steps", "size", "I", false)
def kY7 : Nat → FieldType := fun k => match k with
  | 0 => .array .int
  | 1 => .int
  | _ => .int
def kF8 : u_T := fun k => match k with
  | 0 => ("RotorBench$Wheel", "leadsTo", "[I", true)
  | 1 => ("RotorBench$Wheel", "comesFrom", "[I", true)
  | 2 => ("RotorBench$Wheel", "notches", "[Z", true)
  | _ => ("RotorBench$Wheel", "ring", "I", false)
def kY8 : Nat → FieldType := fun k => match k with
  | 0 => .array .int
  | 1 => .array .int
  | 2 => .array .boolean
  | _ => .int
def kF9 : u_T := fun k => match k with
  | 0 => ("RotorBenchModel", "thrown", "I", false)
  | 1 => ("RotorBenchModel", "m", "I", false)
  | 2 => ("RotorBenchModel", "wirings", "[I", true)
  | 3 => ("RotorBenchModel", "rings", "[I", true)
  | 4 => ("RotorBenchModel", "notches", "[Z", true)
  | 5 => ("RotorBenchModel", "wheels", "[I", true)
  | 6 => ("RotorBenchModel", "pairs", "[I", true)
  | 7 => ("RotorBenchModel", "reflecting", "Z", false)
  | 8 => ("RotorBenchModel", "lengths", "[I", true)
  | 9 => ("RotorBenchModel", "ups", "[Z", true)
  | 10 => ("RotorBenchModel", "lugs", "[I", true)
  | 11 => ("RotorBenchModel", "stepping", "I", false)
  | 12 => ("RotorBenchModel", "way", "I", false)
  | 13 => ("RotorBenchModel", "state", "[I", true)
  | 14 => ("RotorBenchModel", "aside", "[I", true)
  | 15 => ("RotorBenchModel", "moves", "[Z", true)
  | 16 => ("RotorBenchModel", "undos", "I", false)
  | 17 => ("RotorBenchModel", "old", "[I", true)
  | 18 => ("RotorBenchModel", "messages", "I", false)
  | 19 => ("RotorBenchModel", "isOpen", "Z", false)
  | 20 => ("RotorBenchModel", "signs", "[I", true)
  | 21 => ("RotorBenchModel", "begun", "[I", true)
  | 22 => ("RotorBenchModel", "keyed", "[I", true)
  | _ => ("RotorBenchModel", "came", "[I", true)
def kY9 : Nat → FieldType := fun k => match k with
  | 0 => .int
  | 1 => .int
  | 2 => .array .int
  | 3 => .array .int
  | 4 => .array .boolean
  | 5 => .array .int
  | 6 => .array .int
  | 7 => .boolean
  | 8 => .array .int
  | 9 => .array .boolean
  | 10 => .array .int
  | 11 => .int
  | 12 => .int
  | 13 => .array .int
  | 14 => .array .int
  | 15 => .array .boolean
  | 16 => .int
  | 17 => .array .int
  | 18 => .int
  | 19 => .boolean
  | 20 => .array .int
  | 21 => .array .int
  | 22 => .array .int
  | _ => .array .int
def kFE : u_T := fun _ => ("", "", "", false)
def kCl : List vw_C := [("RotorBench", kF0, 4), ("RotorBench$Log", kF1, 3), ("RotorBench$Machine", kF2, 14), ("RotorBench$Message", kF3, 4), ("RotorBench$Pairs", kF4, 2), ("RotorBench$PinWheel", kF5, 2), ("RotorBench$Stand", kF6, 2), ("RotorBench$Steps", kF7, 3), ("RotorBench$Wheel", kF8, 4), ("RotorBenchModel", kF9, 24), ("java/lang/IllegalArgumentException", kFE, 0), ("java/lang/IllegalStateException", kFE, 0), ("java/util/NoSuchElementException", kFE, 0)]
def kYs : List (Nat → FieldType) := [kY0, kY1, kY2, kY3, kY4, kY5, kY6, kY7, kY8, kY9]
def kKl : List (List Nat) := [[2, 2, 2, 2], [2, 0, 1], [2, 2, 2, 2, 2, 2, 2, 2, 2, 0, 0, 0, 0, 1], [2, 2, 2, 0], [2, 0], [2, 0], [2, 2], [2, 0, 0], [2, 2, 2, 0], [0, 0, 2, 2, 2, 2, 2, 1, 2, 2, 2, 0, 0, 2, 2, 2, 0, 2, 0, 1, 2, 2, 2, 2], [], [], []]
def kWl : List (List Nat) := [[301, 303, 305, 307], [264, 266, 268], [177, 179, 181, 183, 185, 187, 189, 191, 193, 195, 197, 199, 201, 203], [249, 251, 253, 255], [88, 90], [146, 148], [106, 108], [216, 218, 220], [125, 127, 129, 131], [828, 830, 832, 834, 836, 838, 840, 842, 844, 846, 848, 850, 852, 854, 856, 858, 860, 862, 864, 866, 868, 870, 872, 874]]
def kPl : List (Nat × Nat) := [(61, 41), (224, 48), (69, 42), (231, 49), (79, 43), (135, 46), (95, 44), (207, 47), (111, 45), (795, 51)]
def arN : List String := ["RotorBench$Message", "RotorBench$PinWheel", "RotorBench$Wheel"]
def exL : List String := ["java/lang/IllegalArgumentException", "java/lang/IllegalStateException", "java/util/NoSuchElementException"]
def elc (y : Nat) : Nat := match y with
  | 103 => 3
  | 104 => 5
  | 105 => 8
  | _ => 999
def mYl : List MethodName := [⟨"RotorBenchLaw", "law", "([I)Z"⟩, ⟨"RotorBench", "<init>", "()V"⟩, ⟨"RotorBench$Machine", "<init>", "()V"⟩, ⟨"RotorBench$Pairs", "<init>", "()V"⟩, ⟨"RotorBench$Stand", "<init>", "()V"⟩, ⟨"RotorBench$Wheel", "<init>", "()V"⟩, ⟨"RotorBench$PinWheel", "<init>", "()V"⟩, ⟨"RotorBench$Steps", "<init>", "()V"⟩, ⟨"RotorBench$Log", "<init>", "()V"⟩, ⟨"RotorBench$Message", "<init>", "()V"⟩, ⟨"RotorBench$Machine", "clear", "(I)V"⟩, ⟨"RotorBench$Wheel", "clear", "()V"⟩, ⟨"RotorBench$PinWheel", "cut", "(I)V"⟩, ⟨"java/util/Arrays", "fill", "([II)V"⟩, ⟨"RotorBench$Pairs", "clear", "()V"⟩, ⟨"RotorBench$Stand", "clear", "()V"⟩, ⟨"RotorBench", "fixed", "()I"⟩, ⟨"RotorBench$Machine", "send", "(I)I"⟩, ⟨"RotorBench$Machine", "takePath", "(I)I"⟩, ⟨"RotorBench$Machine", "intoSlots", "(I)I"⟩, ⟨"RotorBench$Wheel", "pass", "([IIII)I"⟩, ⟨"RotorBench", "round", "(II)I"⟩, ⟨"RotorBench$Machine", "fromSlots", "(I)I"⟩, ⟨"RotorBench$Machine", "turnBits", "(I)I"⟩, ⟨"RotorBench$Machine", "isUp", "(I)Z"⟩, ⟨"RotorBench$Machine", "barsTaken", "()I"⟩, ⟨"RotorBench$Machine", "isLugUp", "(I)Z"⟩, ⟨"RotorBenchLaw", "contacts", "(LRotorBench;I[J)I"⟩, ⟨"RotorBench", "contacts", "(I)I"⟩, ⟨"RotorBench", "needNoneOpen", "()V"⟩, ⟨"RotorBench$Steps", "clear", "()V"⟩, ⟨"RotorBench$Log", "clear", "()V"⟩, ⟨"RotorBenchLaw", "wire", "(LRotorBench;III[J)I"⟩, ⟨"RotorBench", "wire", "(III)I"⟩, ⟨"RotorBench", "needOneOf", "(II)V"⟩, ⟨"RotorBench$Wheel", "lead", "(II)I"⟩, ⟨"RotorBench$Wheel", "join", "(II)V"⟩, ⟨"RotorBenchLaw", "ring", "(LRotorBench;II[J)I"⟩, ⟨"RotorBench", "ring", "(II)I"⟩, ⟨"RotorBenchLaw", "notch", "(LRotorBench;IIZ[J)I"⟩, ⟨"RotorBench", "notch", "(IIZ)Z"⟩, ⟨"RotorBench", "turn", "([ZIZ)Z"⟩, ⟨"RotorBenchLaw", "fill", "(LRotorBench;II[J)I"⟩, ⟨"RotorBench", "fill", "(II)I"⟩, ⟨"RotorBench", "needOneOfOrNone", "(II)V"⟩, ⟨"RotorBench$Machine", "isInAnother", "(II)Z"⟩, ⟨"RotorBench$Machine", "put", "(II)I"⟩, ⟨"RotorBenchLaw", "plug", "(LRotorBench;III)I"⟩, ⟨"RotorBench", "plug", "(III)V"⟩, ⟨"RotorBench$Machine", "pairsOf", "(I)LRotorBench$Pairs;"⟩, ⟨"RotorBench$Pairs", "holds", "(I)Z"⟩, ⟨"RotorBench$Pairs", "join", "(II)V"⟩, ⟨"RotorBenchLaw", "unplug", "(LRotorBench;II[J)I"⟩, ⟨"RotorBench", "unplug", "(II)I"⟩, ⟨"RotorBench$Pairs", "split", "(I)I"⟩, ⟨"RotorBenchLaw", "reflects", "(LRotorBench;Z[J)I"⟩, ⟨"RotorBench", "reflects", "(Z)Z"⟩, ⟨"RotorBenchLaw", "pins", "(LRotorBench;II[J)I"⟩, ⟨"RotorBench", "pins", "(II)I"⟩, ⟨"RotorBenchLaw", "pin", "(LRotorBench;IIZ[J)I"⟩, ⟨"RotorBench", "pin", "(IIZ)Z"⟩, ⟨"RotorBenchLaw", "lugs", "(LRotorBench;III)I"⟩, ⟨"RotorBench", "lugs", "(III)V"⟩, ⟨"RotorBenchLaw", "rule", "(LRotorBench;I[J)I"⟩, ⟨"RotorBench", "rule", "(I)I"⟩, ⟨"RotorBenchLaw", "path", "(LRotorBench;I[J)I"⟩, ⟨"RotorBench", "path", "(I)I"⟩, ⟨"RotorBenchLaw", "set", "(LRotorBench;III[J)I"⟩, ⟨"RotorBench", "set", "(III)I"⟩, ⟨"RotorBench", "needMover", "(II)V"⟩, ⟨"RotorBench", "rowOf", "(I)[I"⟩, ⟨"RotorBenchLaw", "key", "(LRotorBench;I[J)I"⟩, ⟨"RotorBench", "key", "(I)I"⟩, ⟨"RotorBench$Log", "isFull", "()Z"⟩, ⟨"RotorBench$Machine", "step", "()I"⟩, ⟨"RotorBench$Machine", "doesStep", "(I)Z"⟩, ⟨"RotorBench$Machine", "areAtNotchBefore", "(I)Z"⟩, ⟨"RotorBench$Machine", "isAtNotch", "(I)Z"⟩, ⟨"RotorBench$Machine", "move", "(II)V"⟩, ⟨"RotorBench$Steps", "add", "(I)V"⟩, ⟨"RotorBench$Log", "add", "(II)V"⟩, ⟨"RotorBenchLaw", "back", "(LRotorBench;I[J)I"⟩, ⟨"RotorBench", "back", "(I)I"⟩, ⟨"RotorBench$Machine", "sendBack", "(I)I"⟩, ⟨"RotorBenchLaw", "image", "(LRotorBench;I[J)I"⟩, ⟨"RotorBench", "image", "(I)I"⟩, ⟨"RotorBenchLaw", "at", "(LRotorBench;II[J)I"⟩, ⟨"RotorBench", "at", "(II)I"⟩, ⟨"RotorBenchLaw", "undo", "(LRotorBench;[J)I"⟩, ⟨"RotorBench", "undo", "()I"⟩, ⟨"RotorBench$Steps", "takeLatest", "()I"⟩, ⟨"RotorBench$Machine", "stepBack", "(I)V"⟩, ⟨"RotorBenchLaw", "period", "(LRotorBench;I[J)I"⟩, ⟨"RotorBench", "period", "(I)I"⟩, ⟨"RotorBench$Stand", "copy", "(LRotorBench$Stand;)V"⟩, ⟨"RotorBench", "stepsTillKept", "(I)I"⟩, ⟨"RotorBench$Stand", "isLike", "(LRotorBench$Stand;)Z"⟩, ⟨"RotorBenchLaw", "open", "(LRotorBench;[J)I"⟩, ⟨"RotorBench", "open", "()I"⟩, ⟨"RotorBench$Log", "begin", "(LRotorBench$Stand;)I"⟩, ⟨"RotorBenchLaw", "close", "(LRotorBench;[J)I"⟩, ⟨"RotorBench", "close", "()I"⟩, ⟨"RotorBench$Log", "end", "()I"⟩, ⟨"RotorBenchLaw", "logged", "(LRotorBench;III[J)I"⟩, ⟨"RotorBench", "logged", "(III)I"⟩, ⟨"RotorBenchLaw", "replay", "(LRotorBench;I[J)I"⟩, ⟨"RotorBench", "replay", "(I)I"⟩, ⟨"RotorBench$Log", "isRunning", "(I)Z"⟩, ⟨"RotorBench$Machine", "standAs", "(LRotorBench$Stand;)V"⟩, ⟨"RotorBench", "firstOther", "(LRotorBench$Message;)I"⟩, ⟨"RotorBenchLaw", "count", "(LRotorBench;I[J)I"⟩, ⟨"RotorBench", "count", "(I)I"⟩, ⟨"RotorBench$Machine", "pinWheelsThere", "()I"⟩, ⟨"RotorBenchModel", "<init>", "()V"⟩, ⟨"RotorBenchModel", "reset", "()V"⟩, ⟨"RotorBenchModel", "thrown", "()I"⟩, ⟨"RotorBenchModel", "contacts", "(I)I"⟩, ⟨"RotorBenchModel", "goes", "(ZZZ)Z"⟩, ⟨"RotorBenchModel", "wire", "(III)I"⟩, ⟨"RotorBenchModel", "within", "(III)Z"⟩, ⟨"RotorBenchModel", "isContact", "(I)Z"⟩, ⟨"RotorBenchModel", "ring", "(II)I"⟩, ⟨"RotorBenchModel", "notch", "(IIZ)Z"⟩, ⟨"RotorBenchModel", "fill", "(II)I"⟩, ⟨"RotorBenchModel", "plug", "(III)V"⟩, ⟨"RotorBenchModel", "paired", "(II)Z"⟩, ⟨"RotorBenchModel", "unplug", "(II)I"⟩, ⟨"RotorBenchModel", "reflects", "(Z)Z"⟩, ⟨"RotorBenchModel", "pins", "(II)I"⟩, ⟨"RotorBenchModel", "isPinWheel", "(I)Z"⟩, ⟨"RotorBenchModel", "pin", "(IIZ)Z"⟩, ⟨"RotorBenchModel", "lugs", "(III)V"⟩, ⟨"RotorBenchModel", "rule", "(I)I"⟩, ⟨"RotorBenchModel", "path", "(I)I"⟩, ⟨"RotorBenchModel", "set", "(III)I"⟩, ⟨"RotorBenchModel", "isPart", "(II)Z"⟩, ⟨"RotorBenchModel", "key", "(I)I"⟩, ⟨"RotorBenchModel", "goOn", "()V"⟩, ⟨"RotorBenchModel", "step", "()V"⟩, ⟨"RotorBenchModel", "steps", "(I)Z"⟩, ⟨"RotorBenchModel", "beside", "(IIZ)I"⟩, ⟨"RotorBenchModel", "allAhead", "(I)Z"⟩, ⟨"RotorBenchModel", "atNotch", "(I)Z"⟩, ⟨"RotorBenchModel", "active", "(I)Z"⟩, ⟨"RotorBenchModel", "imageOf", "(I)I"⟩, ⟨"RotorBenchModel", "bySlots", "(I)I"⟩, ⟨"RotorBenchModel", "through", "(II)I"⟩, ⟨"RotorBenchModel", "backThrough", "(II)I"⟩, ⟨"RotorBenchModel", "byBits", "(I)I"⟩, ⟨"RotorBenchModel", "byBars", "(I)I"⟩, ⟨"RotorBenchModel", "back", "(I)I"⟩, ⟨"RotorBenchModel", "image", "(I)I"⟩, ⟨"RotorBenchModel", "at", "(II)I"⟩, ⟨"RotorBenchModel", "undo", "()I"⟩, ⟨"RotorBenchModel", "period", "(I)I"⟩, ⟨"RotorBenchModel", "putAside", "()V"⟩, ⟨"RotorBenchModel", "isAside", "()Z"⟩, ⟨"RotorBenchModel", "takeBack", "()V"⟩, ⟨"RotorBenchModel", "fixed", "()I"⟩, ⟨"RotorBenchModel", "open", "()I"⟩, ⟨"RotorBenchModel", "close", "()I"⟩, ⟨"RotorBenchModel", "logged", "(III)I"⟩, ⟨"RotorBenchModel", "isMessage", "(I)Z"⟩, ⟨"RotorBenchModel", "replay", "(I)I"⟩, ⟨"RotorBenchModel", "count", "(I)I"⟩, ⟨"RotorBenchModel", "halves", "(I)I"⟩]
def mBl : List ByteArray := [code, prog_1_method_1_code, prog_3_method_1_code, prog_5_method_1_code, prog_7_method_1_code, prog_9_method_1_code, prog_6_method_1_code, prog_8_method_1_code, prog_2_method_1_code, prog_4_method_1_code, prog_3_method_2_code, prog_9_method_2_code, prog_6_method_2_code, prog_20_method_103_code, prog_5_method_2_code, prog_7_method_2_code, prog_1_method_22_code, prog_3_method_15_code, prog_3_method_17_code, prog_3_method_18_code, prog_9_method_5_code, prog_1_method_36_code, prog_3_method_19_code, prog_3_method_20_code, prog_3_method_13_code, prog_3_method_21_code, prog_3_method_22_code, method_3_code, prog_1_method_2_code, prog_1_method_31_code, prog_8_method_2_code, prog_2_method_2_code, method_4_code, prog_1_method_3_code, prog_1_method_28_code, prog_9_method_3_code, prog_9_method_4_code, method_5_code, prog_1_method_4_code, method_6_code, prog_1_method_5_code, prog_1_method_33_code, method_7_code, prog_1_method_6_code, prog_1_method_29_code, prog_3_method_4_code, prog_3_method_5_code, method_8_code, prog_1_method_7_code, prog_3_method_3_code, prog_5_method_3_code, prog_5_method_4_code, method_9_code, prog_1_method_8_code, prog_5_method_5_code, method_10_code, prog_1_method_9_code, method_11_code, prog_1_method_10_code, method_12_code, prog_1_method_11_code, method_13_code, prog_1_method_12_code, method_14_code, prog_1_method_13_code, method_15_code, prog_1_method_14_code, method_16_code, prog_1_method_15_code, prog_1_method_30_code, prog_1_method_32_code, method_17_code, prog_1_method_16_code, prog_2_method_4_code, prog_3_method_7_code, prog_3_method_10_code, prog_3_method_11_code, prog_3_method_12_code, prog_3_method_9_code, prog_8_method_3_code, prog_2_method_6_code, method_18_code, prog_1_method_17_code, prog_3_method_16_code, method_19_code, prog_1_method_18_code, method_20_code, prog_1_method_19_code, method_21_code, prog_1_method_20_code, prog_8_method_4_code, prog_3_method_8_code, method_22_code, prog_1_method_21_code, prog_7_method_3_code, prog_1_method_34_code, prog_7_method_4_code, method_23_code, prog_1_method_23_code, prog_2_method_5_code, method_24_code, prog_1_method_24_code, prog_2_method_7_code, method_25_code, prog_1_method_25_code, method_26_code, prog_1_method_26_code, prog_2_method_3_code, prog_3_method_14_code, prog_1_method_35_code, method_27_code, prog_1_method_27_code, prog_3_method_6_code, prog_11_method_1_code, prog_11_method_2_code, prog_11_method_3_code, prog_11_method_7_code, prog_11_method_4_code, prog_11_method_8_code, prog_11_method_5_code, prog_11_method_6_code, prog_11_method_9_code, prog_11_method_10_code, prog_11_method_11_code, prog_11_method_13_code, prog_11_method_12_code, prog_11_method_14_code, prog_11_method_15_code, prog_11_method_17_code, prog_11_method_16_code, prog_11_method_18_code, prog_11_method_19_code, prog_11_method_20_code, prog_11_method_21_code, prog_11_method_23_code, prog_11_method_22_code, prog_11_method_37_code, prog_11_method_30_code, prog_11_method_29_code, prog_11_method_28_code, prog_11_method_26_code, prog_11_method_27_code, prog_11_method_24_code, prog_11_method_25_code, prog_11_method_36_code, prog_11_method_33_code, prog_11_method_31_code, prog_11_method_32_code, prog_11_method_34_code, prog_11_method_35_code, prog_11_method_38_code, prog_11_method_39_code, prog_11_method_40_code, prog_11_method_41_code, prog_11_method_45_code, prog_11_method_42_code, prog_11_method_43_code, prog_11_method_44_code, prog_11_method_46_code, prog_11_method_47_code, prog_11_method_48_code, prog_11_method_50_code, prog_11_method_49_code, prog_11_method_51_code, prog_11_method_53_code, prog_11_method_52_code]
def mLl : List Nat := [7, 1, 2, 1, 1, 1, 1, 1, 2, 1, 3, 2, 3, 4, 2, 1, 3, 2, 2, 5, 6, 2, 5, 4, 4, 3, 2, 4, 3, 1, 1, 1, 6, 4, 2, 5, 3, 5, 4, 6, 4, 4, 5, 3, 2, 4, 5, 5, 5, 2, 2, 3, 5, 4, 3, 4, 3, 5, 4, 6, 4, 5, 4, 4, 3, 4, 3, 6, 6, 2, 2, 4, 3, 1, 3, 3, 3, 3, 4, 2, 4, 4, 2, 4, 4, 2, 5, 3, 3, 1, 1, 2, 4, 3, 2, 3, 3, 3, 1, 2, 3, 1, 1, 6, 4, 4, 3, 2, 4, 3, 4, 2, 3, 1, 2, 1, 3, 4, 5, 3, 2, 4, 5, 5, 5, 3, 4, 3, 5, 1, 5, 4, 3, 3, 7, 3, 4, 2, 2, 5, 6, 4, 2, 2, 3, 4, 4, 4, 4, 6, 3, 2, 3, 2, 4, 2, 3, 2, 3, 2, 1, 4, 2, 4, 5, 4]
def mRl : List (Option FieldType) := [some .boolean, none, none, none, none, none, none, none, none, none, none, none, none, none, none, none, some .int, some .int, some .int, some .int, some .int, some .int, some .int, some .int, some .boolean, some .int, some .boolean, some .int, some .int, none, none, none, some .int, some .int, none, some .int, none, some .int, some .int, some .int, some .boolean, some .boolean, some .int, some .int, none, some .boolean, some .int, some .int, none, some (.object "RotorBench$Pairs"), some .boolean, none, some .int, some .int, some .int, some .int, some .boolean, some .int, some .int, some .int, some .boolean, some .int, none, some .int, some .int, some .int, some .int, some .int, some .int, none, some (.array .int), some .int, some .int, some .boolean, some .int, some .boolean, some .boolean, some .boolean, none, none, none, some .int, some .int, some .int, some .int, some .int, some .int, some .int, some .int, some .int, some .int, none, some .int, some .int, none, some .int, some .boolean, some .int, some .int, some .int, some .int, some .int, some .int, some .int, some .int, some .int, some .int, some .boolean, none, some .int, some .int, some .int, some .int, none, none, some .int, some .int, some .boolean, some .int, some .boolean, some .boolean, some .int, some .boolean, some .int, none, some .boolean, some .int, some .boolean, some .int, some .boolean, some .boolean, none, some .int, some .int, some .int, some .boolean, some .int, none, none, some .boolean, some .int, some .boolean, some .boolean, some .boolean, some .int, some .int, some .int, some .int, some .int, some .int, some .int, some .int, some .int, some .int, some .int, none, some .boolean, none, some .int, some .int, some .int, some .int, some .boolean, some .int, some .int, some .int]
def mR (i : Nat) : Option FieldType := mRl.getD i none
def mZ (i : Nat) : Nat := match mR i with
  | none => 0
  | some .int => 1
  | some .boolean => 2
  | some (.object _) => 3
  | some (.array _) => 3
  | _ => 9
def mKl : List Nat := [99, 0, 2, 4, 6, 8, 5, 7, 1, 3, 2, 8, 5, 99, 4, 6, 0, 2, 2, 2, 8, 0, 2, 2, 2, 2, 2, 99, 0, 0, 7, 1, 99, 0, 0, 8, 8, 99, 0, 99, 0, 0, 99, 0, 0, 2, 2, 99, 0, 2, 4, 4, 99, 0, 4, 99, 0, 99, 0, 99, 0, 99, 0, 99, 0, 99, 0, 99, 0, 0, 0, 99, 0, 1, 2, 2, 2, 2, 2, 7, 1, 99, 0, 2, 99, 0, 99, 0, 99, 0, 7, 2, 99, 0, 6, 0, 6, 99, 0, 1, 99, 0, 1, 99, 0, 99, 0, 1, 2, 0, 99, 0, 2, 9, 9, 9, 9, 9, 9, 9, 9, 9, 9, 9, 9, 9, 9, 9, 9, 9, 9, 9, 9, 9, 9, 9, 9, 9, 9, 9, 9, 9, 9, 9, 9, 9, 9, 9, 9, 9, 9, 9, 9, 9, 9, 9, 9, 9, 9, 9, 9, 9, 9, 9, 9, 9]
def mL (i : Nat) : Nat := mLl.getD i 0
def mK (i : Nat) : Nat := mKl.getD i 99
def mSl : List Nat := [0, 2, 2, 2, 2, 2, 2, 2, 2, 2, 1, 1, 1, 0, 1, 1, 1, 1, 1, 1, 1, 0, 1, 1, 1, 1, 1, 0, 1, 1, 1, 1, 0, 1, 0, 1, 1, 0, 1, 0, 1, 0, 0, 1, 0, 1, 1, 0, 1, 1, 1, 1, 0, 1, 1, 0, 1, 0, 1, 0, 1, 0, 1, 0, 1, 0, 1, 0, 1, 0, 1, 0, 1, 1, 1, 1, 1, 1, 1, 1, 1, 0, 1, 1, 0, 1, 0, 1, 0, 1, 1, 1, 0, 1, 1, 1, 1, 0, 1, 1, 0, 1, 1, 0, 1, 0, 1, 1, 1, 1, 0, 1, 1, 2, 1, 1, 1, 1, 1, 0, 1, 1, 1, 1, 1, 1, 1, 1, 1, 0, 1, 1, 1, 1, 1, 1, 1, 1, 1, 1, 1, 1, 1, 1, 1, 1, 1, 1, 1, 1, 1, 1, 1, 1, 1, 1, 1, 1, 1, 1, 1, 1, 1, 1, 1, 1]
def mAl : List Nat := [1, 0, 0, 0, 0, 0, 0, 0, 0, 0, 1, 0, 1, 2, 0, 0, 0, 1, 1, 1, 4, 2, 1, 1, 1, 0, 1, 3, 1, 0, 0, 0, 5, 3, 2, 2, 2, 4, 2, 5, 3, 3, 4, 2, 2, 2, 2, 4, 3, 1, 1, 2, 4, 2, 1, 3, 1, 4, 2, 5, 3, 4, 3, 3, 1, 3, 1, 5, 3, 2, 1, 3, 1, 0, 0, 1, 1, 1, 2, 1, 2, 3, 1, 1, 3, 1, 4, 2, 2, 0, 0, 1, 3, 1, 1, 1, 1, 2, 0, 1, 2, 0, 0, 5, 3, 3, 1, 1, 1, 1, 3, 1, 0, 0, 0, 0, 1, 3, 3, 3, 1, 2, 3, 2, 3, 2, 2, 1, 2, 1, 3, 3, 1, 1, 3, 2, 1, 0, 0, 1, 3, 1, 1, 1, 1, 1, 2, 2, 1, 1, 1, 1, 2, 0, 1, 0, 0, 0, 0, 0, 0, 3, 1, 1, 1, 1]
def mPl : List (Nat × Nat × Nat × Nat) := [(0, 0, 0, 0), (64, 63, 0, 0), (72, 71, 0, 0), (82, 81, 0, 0), (98, 97, 0, 0), (114, 113, 0, 0), (138, 137, 0, 0), (210, 209, 0, 0), (227, 226, 0, 0), (234, 233, 0, 0), (276, 274, 275, 0), (280, 278, 279, 0), (284, 282, 283, 0), (287, 286, 0, 50), (291, 289, 290, 0), (295, 293, 294, 0), (313, 311, 312, 0), (317, 315, 316, 0), (321, 320, 0, 0), (325, 324, 1, 0), (329, 327, 328, 0), (332, 331, 0, 41), (336, 335, 2, 0), (340, 339, 3, 0), (344, 343, 4, 0), (348, 347, 5, 0), (352, 351, 6, 0), (356, 355, 0, 40), (362, 360, 361, 0), (434, 433, 8, 0), (454, 452, 453, 0), (458, 456, 457, 0), (461, 460, 0, 40), (466, 464, 465, 0), (469, 468, 0, 41), (489, 487, 488, 0), (493, 492, 9, 0), (496, 495, 0, 40), (500, 498, 499, 0), (503, 502, 0, 40), (507, 505, 506, 0), (510, 509, 0, 41), (513, 512, 0, 40), (517, 515, 516, 0), (520, 519, 0, 41), (524, 522, 523, 0), (529, 527, 528, 0), (532, 531, 0, 40), (536, 534, 535, 0), (541, 539, 540, 0), (545, 543, 544, 0), (550, 548, 549, 0), (553, 552, 0, 40), (557, 555, 556, 0), (561, 559, 560, 0), (564, 563, 0, 40), (568, 566, 567, 0), (571, 570, 0, 40), (575, 573, 574, 0), (580, 579, 0, 40), (584, 582, 583, 0), (587, 586, 0, 40), (591, 589, 590, 0), (594, 593, 0, 40), (598, 596, 597, 0), (601, 600, 0, 40), (605, 603, 604, 0), (608, 607, 0, 40), (612, 610, 611, 0), (615, 614, 0, 41), (619, 618, 10, 0), (622, 621, 0, 40), (626, 624, 625, 0), (630, 628, 629, 0), (635, 633, 634, 0), (639, 638, 11, 0), (643, 642, 12, 0), (647, 646, 13, 0), (651, 650, 14, 0), (655, 653, 654, 0), (663, 661, 662, 0), (666, 665, 0, 40), (670, 668, 669, 0), (674, 672, 673, 0), (677, 676, 0, 40), (681, 679, 680, 0), (684, 683, 0, 40), (688, 686, 687, 0), (691, 690, 0, 40), (695, 693, 694, 0), (700, 698, 699, 0), (704, 702, 703, 0), (707, 706, 0, 40), (711, 709, 710, 0), (716, 714, 715, 0), (723, 722, 15, 0), (727, 725, 726, 0), (730, 729, 0, 40), (734, 732, 733, 0), (739, 737, 738, 0), (743, 742, 0, 40), (747, 745, 746, 0), (752, 750, 751, 0), (755, 754, 0, 40), (759, 757, 758, 0), (763, 762, 0, 40), (767, 765, 766, 0), (771, 769, 770, 0), (776, 774, 775, 0), (781, 780, 16, 0), (784, 783, 0, 40), (788, 786, 787, 0), (792, 790, 791, 0), (798, 797, 0, 0), (803, 802, 17, 0), (880, 878, 879, 0), (884, 882, 883, 0), (888, 887, 18, 0), (892, 890, 891, 0), (895, 894, 0, 51), (899, 898, 19, 0), (903, 901, 902, 0), (907, 905, 906, 0), (911, 909, 910, 0), (915, 913, 914, 0), (919, 918, 20, 0), (923, 921, 922, 0), (927, 925, 926, 0), (931, 929, 930, 0), (934, 933, 0, 51), (938, 936, 937, 0), (942, 940, 941, 0), (946, 944, 945, 0), (950, 948, 949, 0), (954, 952, 953, 0), (958, 957, 21, 0), (962, 960, 961, 0), (966, 965, 22, 0), (970, 969, 23, 0), (974, 973, 24, 0), (978, 977, 25, 0), (982, 981, 26, 0), (986, 985, 27, 0), (990, 989, 28, 0), (994, 993, 29, 0), (998, 997, 30, 0), (1002, 1001, 31, 0), (1006, 1005, 32, 0), (1010, 1009, 33, 0), (1014, 1013, 34, 0), (1018, 1016, 1017, 0), (1022, 1020, 1021, 0), (1026, 1024, 1025, 0), (1030, 1028, 1029, 0), (1034, 1032, 1033, 0), (1038, 1037, 35, 0), (1042, 1041, 36, 0), (1046, 1045, 37, 0), (1050, 1048, 1049, 0), (1054, 1052, 1053, 0), (1058, 1056, 1057, 0), (1062, 1060, 1061, 0), (1066, 1065, 38, 0), (1070, 1068, 1069, 0), (1074, 1072, 1073, 0), (1078, 1077, 39, 0)]
def hXl : List (List (Nat × Nat × Nat × Nat × Nat × Nat)) := [[], [], [], [], [], [], [], [], [], [], [], [], [], [], [], [], [], [], [], [], [], [], [], [], [], [], [], [(0, 9, 12, 13, 0, 357), (0, 9, 15, 15, 1, 358)], [], [], [], [], [(0, 12, 15, 21, 2, 462), (0, 12, 19, 15, 1, 358)], [], [], [], [], [(0, 10, 13, 21, 2, 462), (0, 10, 17, 15, 1, 358)], [], [(0, 19, 22, 21, 2, 462), (0, 19, 26, 15, 1, 358)], [], [], [(0, 10, 13, 21, 2, 462), (0, 10, 17, 15, 1, 358)], [], [], [], [], [(0, 7, 10, 21, 2, 462), (0, 7, 14, 13, 0, 357), (0, 7, 18, 15, 1, 358)], [], [], [], [], [(0, 10, 13, 21, 2, 462), (0, 10, 17, 15, 1, 358)], [], [], [(0, 16, 19, 15, 1, 358)], [], [(0, 10, 13, 21, 2, 462), (0, 10, 17, 13, 0, 357), (0, 10, 21, 15, 1, 358)], [], [(0, 19, 22, 21, 2, 462), (0, 19, 26, 15, 1, 358)], [], [(0, 7, 10, 21, 2, 462), (0, 7, 14, 15, 1, 358)], [], [(0, 9, 12, 21, 2, 462), (0, 9, 15, 15, 1, 358)], [], [(0, 9, 12, 21, 2, 462), (0, 9, 15, 15, 1, 358)], [], [(0, 12, 15, 21, 2, 462), (0, 12, 19, 15, 1, 358)], [], [], [], [(0, 9, 12, 21, 2, 462), (0, 9, 15, 15, 1, 358)], [], [], [], [], [], [], [], [], [], [(0, 9, 12, 21, 2, 462), (0, 9, 15, 15, 1, 358)], [], [], [(0, 9, 12, 21, 2, 462)], [], [(0, 10, 13, 21, 2, 462)], [], [(0, 8, 11, 15, 1, 358)], [], [], [], [(0, 9, 12, 13, 0, 357), (0, 9, 15, 15, 1, 358)], [], [], [], [], [(0, 8, 11, 15, 1, 358)], [], [], [(0, 8, 11, 15, 1, 358)], [], [], [(0, 12, 15, 21, 2, 462), (0, 12, 19, 13, 0, 357)], [], [(0, 9, 12, 21, 2, 462), (0, 9, 15, 15, 1, 358)], [], [], [], [], [(0, 9, 12, 13, 0, 357)], [], [], [], [], [], [], [], [], [], [], [], [], [], [], [], [], [], [], [], [], [], [], [], [], [], [], [], [], [], [], [], [], [], [], [], [], [], [], [], [], [], [], [], [], [], [], [], [], [], [], [], [], [], [], []]
def hT (i : Nat) : List (Nat × Nat × Nat × Nat) := (hXl.getD i []).map (fun z => (z.1, z.2.1, z.2.2.1, z.2.2.2.2.1))
def nFl : List Nat := [10, 4, 2, 1, 1, 1, 1, 1, 3, 2, 2, 0, 0, 0, 0, 1, 5, 4, 3, 2, 1, 0, 2, 1, 0, 2, 1, 8, 7, 6, 0, 0, 8, 7, 6, 1, 0, 8, 7, 8, 7, 0, 9, 8, 7, 0, 0, 8, 7, 0, 0, 0, 8, 7, 0, 8, 7, 8, 7, 8, 7, 9, 8, 8, 7, 8, 7, 9, 8, 7, 0, 8, 7, 0, 3, 2, 1, 0, 1, 1, 0, 8, 7, 4, 8, 7, 9, 8, 8, 7, 1, 2, 8, 7, 1, 4, 0, 8, 7, 2, 7, 6, 0, 8, 7, 8, 7, 0, 2, 5, 7, 6, 0, 1, 0, 0, 1, 0, 1, 0, 0, 1, 1, 1, 1, 0, 1, 1, 2, 1, 2, 1, 1, 1, 3, 2, 5, 4, 3, 2, 0, 1, 0, 0, 3, 2, 0, 1, 1, 1, 5, 4, 3, 1, 4, 0, 0, 0, 4, 1, 1, 1, 0, 4, 2, 1]
def nWl : List Nat := [183, 81, 40, 20, 20, 20, 20, 20, 60, 40, 43, 0, 0, 0, 0, 23, 112, 91, 70, 46, 21, 0, 46, 23, 0, 44, 23, 133, 111, 91, 0, 0, 135, 112, 91, 22, 0, 135, 112, 135, 112, 0, 155, 133, 112, 0, 0, 136, 112, 0, 0, 0, 135, 112, 0, 133, 111, 135, 112, 135, 112, 156, 133, 134, 112, 134, 112, 158, 133, 112, 0, 134, 112, 0, 66, 44, 22, 0, 21, 21, 0, 135, 114, 91, 133, 112, 155, 133, 131, 111, 21, 44, 133, 111, 27, 88, 0, 131, 111, 48, 111, 91, 0, 135, 112, 156, 134, 0, 48, 112, 112, 91, 0, 21, 0, 0, 23, 0, 23, 0, 0, 23, 23, 23, 23, 0, 23, 23, 42, 22, 42, 23, 23, 23, 64, 42, 110, 89, 68, 44, 0, 21, 0, 0, 69, 46, 0, 23, 21, 21, 110, 91, 64, 23, 89, 0, 0, 0, 91, 23, 23, 23, 0, 91, 45, 22]
def bP : List Nat := [66, 67, 658, 58, 659, 719, 718, 59]
def acP : List Nat := [93, 134, 1079]
def aoP : List Nat := [230, 77, 75]
def stP : List Nat := [390, 392]
def exQl : List (List Nat) := [[55, 364, 372, 373, 374, 376, 378, 380, 384, 383, 382, 406, 407, 408, 409, 367, 409, 410, 411, 412, 369, 412, 413, 414, 415, 371, 415, 416, 418, 381, 52, 385, 394, 398, 401, 403, 386, 387, 66, 67, 388, 393, 399, 419, 375, 420, 377, 421, 379, 389, 391, 381], [56, 436, 438, 396, 439, 440, 441, 442, 384, 383, 443, 446, 447, 448, 409, 367, 409, 410, 411, 412, 369, 412, 413, 414, 415, 371, 415, 416, 418, 381, 52, 385, 394, 398, 401, 403, 386, 387, 66, 67, 388, 393, 399, 419, 375, 420, 377, 421, 379, 389, 391, 381], [57, 471, 473, 397, 474, 475, 476, 477, 384, 383, 478, 481, 482, 483, 409, 367, 409, 410, 411, 412, 369, 412, 413, 414, 415, 371, 415, 416, 418, 381, 52, 385, 394, 398, 401, 403, 386, 387, 66, 67, 388, 393, 399, 419, 375, 420, 377, 421, 379, 389, 391, 381]]
abbrev En : Type := Instr × Nat × Nat × Nat × Nat × Nat
def c0_0 : List (Nat × En) := [(0, (.new 8), 3, 0, 4, 0, 60), (3, .dup, 1, 0, 0, 0, 0), (4, (.invokespecial 97), 3, 1, 0, 2, 62), (7, (.astore_n 1), 1, 0, 0, 0, 0), (8, (.new 98), 3, 9, 24, 0, 794), (11, .dup, 1, 0, 0, 0, 0), (12, (.invokespecial 100), 3, 113, 0, 2, 796), (15, (.astore_n 2), 1, 0, 0, 0, 0), (16, (.iconst 1), 1, 0, 0, 0, 0), (17, (.newarray .long), 2, 2, 0, 0, 0), (19, (.astore_n 3), 1, 0, 0, 0, 0), (20, (.iconst 0), 1, 0, 0, 0, 0), (21, (.istore 4), 2, 0, 0, 0, 0), (23, (.iload 4), 2, 0, 0, 0, 0), (25, (.aload_n 0), 1, 0, 0, 0, 0), (26, .arraylength, 1, 0, 0, 0, 0), (27, (.iconst 4), 1, 0, 0, 0, 0), (28, .isub, 1, 0, 0, 0, 0), (29, (.if_icmp .gt 1767), 3, 1796, 0, 0, 0), (32, (.aload_n 0), 1, 0, 0, 0, 0), (33, (.iload 4), 2, 0, 0, 0, 0), (35, .iaload, 1, 0, 0, 0, 0), (36, (.bipush 31), 2, 0, 0, 0, 0), (38, .iand, 1, 0, 0, 0, 0), (39, (.tableswitch 1751 0 25 #[117, 173, 253, 321, 424, 492, 552, 620, 699, 767, 870, 930, 986, 1042, 1122, 1178, 1234, 1290, 1358, 1402, 1458, 1471, 1515, 1559, 1639, 1695]), 117, 0, 0, 0, 0), (156, (.aload_n 1), 1, 0, 0, 0, 0), (157, (.aload_n 0), 1, 0, 0, 0, 0), (158, (.iload 4), 2, 0, 0, 0, 0), (160, (.iconst 1), 1, 0, 0, 0, 0), (161, .iadd, 1, 0, 0, 0, 0), (162, .iaload, 1, 0, 0, 0, 0), (163, (.aload_n 3), 1, 0, 0, 0, 0), (164, (.invokestatic 101), 3, 27, 3, 0, 354), (167, (.istore 5), 2, 0, 0, 0, 0), (169, (.aload_n 2), 1, 0, 0, 0, 0), (170, (.aload_n 0), 1, 0, 0, 0, 0), (171, (.iload 4), 2, 0, 0, 0, 0), (173, (.iconst 1), 1, 0, 0, 0, 0), (174, .iadd, 1, 0, 0, 0, 0), (175, .iaload, 1, 0, 0, 0, 0)]
def c0_1 : List (Nat × En) := [(176, (.invokevirtual 106), 3, 116, 1, 1, 881), (179, (.istore 6), 2, 0, 0, 0, 0), (181, (.aload_n 2), 1, 0, 0, 0, 0), (182, (.invokevirtual 107), 3, 115, 0, 1, 877), (185, (.iload 5), 2, 0, 0, 0, 0), (187, (.if_icmp .eq 5), 3, 192, 0, 0, 0), (190, (.iconst 0), 1, 0, 0, 0, 0), (191, .ireturn, 1, 0, 0, 0, 0), (192, (.iload 5), 2, 0, 0, 0, 0), (194, (.ifCond .ne 15), 3, 209, 0, 0, 0), (197, (.aload_n 3), 1, 0, 0, 0, 0), (198, (.iconst 0), 1, 0, 0, 0, 0), (199, .laload, 1, 0, 0, 0, 0), (200, (.iload 6), 2, 0, 0, 0, 0), (202, .i2l, 1, 0, 0, 0, 0), (203, .lcmp, 1, 0, 0, 0, 0), (204, (.ifCond .eq 5), 3, 209, 0, 0, 0), (207, (.iconst 0), 1, 0, 0, 0, 0), (208, .ireturn, 1, 0, 0, 0, 0), (209, (.goto 1581), 3, 1790, 0, 0, 0), (212, (.aload_n 1), 1, 0, 0, 0, 0), (213, (.aload_n 0), 1, 0, 0, 0, 0), (214, (.iload 4), 2, 0, 0, 0, 0), (216, (.iconst 1), 1, 0, 0, 0, 0), (217, .iadd, 1, 0, 0, 0, 0), (218, .iaload, 1, 0, 0, 0, 0), (219, (.aload_n 0), 1, 0, 0, 0, 0), (220, (.iload 4), 2, 0, 0, 0, 0), (222, (.iconst 2), 1, 0, 0, 0, 0), (223, .iadd, 1, 0, 0, 0, 0), (224, .iaload, 1, 0, 0, 0, 0), (225, (.aload_n 0), 1, 0, 0, 0, 0), (226, (.iload 4), 2, 0, 0, 0, 0), (228, (.iconst 3), 1, 0, 0, 0, 0), (229, .iadd, 1, 0, 0, 0, 0), (230, .iaload, 1, 0, 0, 0, 0), (231, (.aload_n 3), 1, 0, 0, 0, 0), (232, (.invokestatic 110), 3, 32, 5, 0, 459), (235, (.istore 5), 2, 0, 0, 0, 0), (237, (.aload_n 2), 1, 0, 0, 0, 0)]
def c0_2 : List (Nat × En) := [(238, (.aload_n 0), 1, 0, 0, 0, 0), (239, (.iload 4), 2, 0, 0, 0, 0), (241, (.iconst 1), 1, 0, 0, 0, 0), (242, .iadd, 1, 0, 0, 0, 0), (243, .iaload, 1, 0, 0, 0, 0), (244, (.aload_n 0), 1, 0, 0, 0, 0), (245, (.iload 4), 2, 0, 0, 0, 0), (247, (.iconst 2), 1, 0, 0, 0, 0), (248, .iadd, 1, 0, 0, 0, 0), (249, .iaload, 1, 0, 0, 0, 0), (250, (.aload_n 0), 1, 0, 0, 0, 0), (251, (.iload 4), 2, 0, 0, 0, 0), (253, (.iconst 3), 1, 0, 0, 0, 0), (254, .iadd, 1, 0, 0, 0, 0), (255, .iaload, 1, 0, 0, 0, 0), (256, (.invokevirtual 113), 3, 118, 3, 1, 889), (259, (.istore 6), 2, 0, 0, 0, 0), (261, (.aload_n 2), 1, 0, 0, 0, 0), (262, (.invokevirtual 107), 3, 115, 0, 1, 877), (265, (.iload 5), 2, 0, 0, 0, 0), (267, (.if_icmp .eq 5), 3, 272, 0, 0, 0), (270, (.iconst 0), 1, 0, 0, 0, 0), (271, .ireturn, 1, 0, 0, 0, 0), (272, (.iload 5), 2, 0, 0, 0, 0), (274, (.ifCond .ne 15), 3, 289, 0, 0, 0), (277, (.aload_n 3), 1, 0, 0, 0, 0), (278, (.iconst 0), 1, 0, 0, 0, 0), (279, .laload, 1, 0, 0, 0, 0), (280, (.iload 6), 2, 0, 0, 0, 0), (282, .i2l, 1, 0, 0, 0, 0), (283, .lcmp, 1, 0, 0, 0, 0), (284, (.ifCond .eq 5), 3, 289, 0, 0, 0), (287, (.iconst 0), 1, 0, 0, 0, 0), (288, .ireturn, 1, 0, 0, 0, 0), (289, (.goto 1501), 3, 1790, 0, 0, 0), (292, (.aload_n 1), 1, 0, 0, 0, 0), (293, (.aload_n 0), 1, 0, 0, 0, 0), (294, (.iload 4), 2, 0, 0, 0, 0), (296, (.iconst 1), 1, 0, 0, 0, 0), (297, .iadd, 1, 0, 0, 0, 0)]
def c0_3 : List (Nat × En) := [(298, .iaload, 1, 0, 0, 0, 0), (299, (.aload_n 0), 1, 0, 0, 0, 0), (300, (.iload 4), 2, 0, 0, 0, 0), (302, (.iconst 2), 1, 0, 0, 0, 0), (303, .iadd, 1, 0, 0, 0, 0), (304, .iaload, 1, 0, 0, 0, 0), (305, (.aload_n 3), 1, 0, 0, 0, 0), (306, (.invokestatic 114), 3, 37, 4, 0, 494), (309, (.istore 5), 2, 0, 0, 0, 0), (311, (.aload_n 2), 1, 0, 0, 0, 0), (312, (.aload_n 0), 1, 0, 0, 0, 0), (313, (.iload 4), 2, 0, 0, 0, 0), (315, (.iconst 1), 1, 0, 0, 0, 0), (316, .iadd, 1, 0, 0, 0, 0), (317, .iaload, 1, 0, 0, 0, 0), (318, (.aload_n 0), 1, 0, 0, 0, 0), (319, (.iload 4), 2, 0, 0, 0, 0), (321, (.iconst 2), 1, 0, 0, 0, 0), (322, .iadd, 1, 0, 0, 0, 0), (323, .iaload, 1, 0, 0, 0, 0), (324, (.invokevirtual 117), 3, 121, 2, 1, 900), (327, (.istore 6), 2, 0, 0, 0, 0), (329, (.aload_n 2), 1, 0, 0, 0, 0), (330, (.invokevirtual 107), 3, 115, 0, 1, 877), (333, (.iload 5), 2, 0, 0, 0, 0), (335, (.if_icmp .eq 5), 3, 340, 0, 0, 0), (338, (.iconst 0), 1, 0, 0, 0, 0), (339, .ireturn, 1, 0, 0, 0, 0), (340, (.iload 5), 2, 0, 0, 0, 0), (342, (.ifCond .ne 15), 3, 357, 0, 0, 0), (345, (.aload_n 3), 1, 0, 0, 0, 0), (346, (.iconst 0), 1, 0, 0, 0, 0), (347, .laload, 1, 0, 0, 0, 0), (348, (.iload 6), 2, 0, 0, 0, 0), (350, .i2l, 1, 0, 0, 0, 0), (351, .lcmp, 1, 0, 0, 0, 0), (352, (.ifCond .eq 5), 3, 357, 0, 0, 0), (355, (.iconst 0), 1, 0, 0, 0, 0), (356, .ireturn, 1, 0, 0, 0, 0), (357, (.goto 1433), 3, 1790, 0, 0, 0)]
def c0_4 : List (Nat × En) := [(360, (.aload_n 1), 1, 0, 0, 0, 0), (361, (.aload_n 0), 1, 0, 0, 0, 0), (362, (.iload 4), 2, 0, 0, 0, 0), (364, (.iconst 1), 1, 0, 0, 0, 0), (365, .iadd, 1, 0, 0, 0, 0), (366, .iaload, 1, 0, 0, 0, 0), (367, (.aload_n 0), 1, 0, 0, 0, 0), (368, (.iload 4), 2, 0, 0, 0, 0), (370, (.iconst 2), 1, 0, 0, 0, 0), (371, .iadd, 1, 0, 0, 0, 0), (372, .iaload, 1, 0, 0, 0, 0), (373, (.aload_n 0), 1, 0, 0, 0, 0), (374, (.iload 4), 2, 0, 0, 0, 0), (376, (.iconst 3), 1, 0, 0, 0, 0), (377, .iadd, 1, 0, 0, 0, 0), (378, .iaload, 1, 0, 0, 0, 0), (379, (.ifCond .eq 7), 3, 386, 0, 0, 0), (382, (.iconst 1), 1, 0, 0, 0, 0), (383, (.goto 4), 3, 387, 0, 0, 0), (386, (.iconst 0), 1, 0, 0, 0, 0), (387, (.aload_n 3), 1, 0, 0, 0, 0), (388, (.invokestatic 118), 3, 39, 5, 0, 501), (391, (.istore 5), 2, 0, 0, 0, 0), (393, (.aload_n 2), 1, 0, 0, 0, 0), (394, (.aload_n 0), 1, 0, 0, 0, 0), (395, (.iload 4), 2, 0, 0, 0, 0), (397, (.iconst 1), 1, 0, 0, 0, 0), (398, .iadd, 1, 0, 0, 0, 0), (399, .iaload, 1, 0, 0, 0, 0), (400, (.aload_n 0), 1, 0, 0, 0, 0), (401, (.iload 4), 2, 0, 0, 0, 0), (403, (.iconst 2), 1, 0, 0, 0, 0), (404, .iadd, 1, 0, 0, 0, 0), (405, .iaload, 1, 0, 0, 0, 0), (406, (.aload_n 0), 1, 0, 0, 0, 0), (407, (.iload 4), 2, 0, 0, 0, 0), (409, (.iconst 3), 1, 0, 0, 0, 0), (410, .iadd, 1, 0, 0, 0, 0), (411, .iaload, 1, 0, 0, 0, 0), (412, (.ifCond .eq 7), 3, 419, 0, 0, 0)]
def c0_5 : List (Nat × En) := [(415, (.iconst 1), 1, 0, 0, 0, 0), (416, (.goto 4), 3, 420, 0, 0, 0), (419, (.iconst 0), 1, 0, 0, 0, 0), (420, (.invokevirtual 121), 3, 122, 3, 1, 904), (423, (.istore 6), 2, 0, 0, 0, 0), (425, (.aload_n 2), 1, 0, 0, 0, 0), (426, (.invokevirtual 107), 3, 115, 0, 1, 877), (429, (.iload 5), 2, 0, 0, 0, 0), (431, (.if_icmp .eq 5), 3, 436, 0, 0, 0), (434, (.iconst 0), 1, 0, 0, 0, 0), (435, .ireturn, 1, 0, 0, 0, 0), (436, (.iload 5), 2, 0, 0, 0, 0), (438, (.ifCond .ne 22), 3, 460, 0, 0, 0), (441, (.aload_n 3), 1, 0, 0, 0, 0), (442, (.iconst 0), 1, 0, 0, 0, 0), (443, .laload, 1, 0, 0, 0, 0), (444, (.iload 6), 2, 0, 0, 0, 0), (446, (.ifCond .eq 7), 3, 453, 0, 0, 0), (449, (.lconst 1), 1, 0, 0, 0, 0), (450, (.goto 4), 3, 454, 0, 0, 0), (453, (.lconst 0), 1, 0, 0, 0, 0), (454, .lcmp, 1, 0, 0, 0, 0), (455, (.ifCond .eq 5), 3, 460, 0, 0, 0), (458, (.iconst 0), 1, 0, 0, 0, 0), (459, .ireturn, 1, 0, 0, 0, 0), (460, (.goto 1330), 3, 1790, 0, 0, 0), (463, (.aload_n 1), 1, 0, 0, 0, 0), (464, (.aload_n 0), 1, 0, 0, 0, 0), (465, (.iload 4), 2, 0, 0, 0, 0), (467, (.iconst 1), 1, 0, 0, 0, 0), (468, .iadd, 1, 0, 0, 0, 0), (469, .iaload, 1, 0, 0, 0, 0), (470, (.aload_n 0), 1, 0, 0, 0, 0), (471, (.iload 4), 2, 0, 0, 0, 0), (473, (.iconst 2), 1, 0, 0, 0, 0), (474, .iadd, 1, 0, 0, 0, 0), (475, .iaload, 1, 0, 0, 0, 0), (476, (.aload_n 3), 1, 0, 0, 0, 0), (477, (.invokestatic 122), 3, 42, 4, 0, 511), (480, (.istore 5), 2, 0, 0, 0, 0)]
def c0_6 : List (Nat × En) := [(482, (.aload_n 2), 1, 0, 0, 0, 0), (483, (.aload_n 0), 1, 0, 0, 0, 0), (484, (.iload 4), 2, 0, 0, 0, 0), (486, (.iconst 1), 1, 0, 0, 0, 0), (487, .iadd, 1, 0, 0, 0, 0), (488, .iaload, 1, 0, 0, 0, 0), (489, (.aload_n 0), 1, 0, 0, 0, 0), (490, (.iload 4), 2, 0, 0, 0, 0), (492, (.iconst 2), 1, 0, 0, 0, 0), (493, .iadd, 1, 0, 0, 0, 0), (494, .iaload, 1, 0, 0, 0, 0), (495, (.invokevirtual 124), 3, 123, 2, 1, 908), (498, (.istore 6), 2, 0, 0, 0, 0), (500, (.aload_n 2), 1, 0, 0, 0, 0), (501, (.invokevirtual 107), 3, 115, 0, 1, 877), (504, (.iload 5), 2, 0, 0, 0, 0), (506, (.if_icmp .eq 5), 3, 511, 0, 0, 0), (509, (.iconst 0), 1, 0, 0, 0, 0), (510, .ireturn, 1, 0, 0, 0, 0), (511, (.iload 5), 2, 0, 0, 0, 0), (513, (.ifCond .ne 15), 3, 528, 0, 0, 0), (516, (.aload_n 3), 1, 0, 0, 0, 0), (517, (.iconst 0), 1, 0, 0, 0, 0), (518, .laload, 1, 0, 0, 0, 0), (519, (.iload 6), 2, 0, 0, 0, 0), (521, .i2l, 1, 0, 0, 0, 0), (522, .lcmp, 1, 0, 0, 0, 0), (523, (.ifCond .eq 5), 3, 528, 0, 0, 0), (526, (.iconst 0), 1, 0, 0, 0, 0), (527, .ireturn, 1, 0, 0, 0, 0), (528, (.goto 1262), 3, 1790, 0, 0, 0), (531, (.aload_n 1), 1, 0, 0, 0, 0), (532, (.aload_n 0), 1, 0, 0, 0, 0), (533, (.iload 4), 2, 0, 0, 0, 0), (535, (.iconst 1), 1, 0, 0, 0, 0), (536, .iadd, 1, 0, 0, 0, 0), (537, .iaload, 1, 0, 0, 0, 0), (538, (.aload_n 0), 1, 0, 0, 0, 0), (539, (.iload 4), 2, 0, 0, 0, 0), (541, (.iconst 2), 1, 0, 0, 0, 0)]
def c0_7 : List (Nat × En) := [(542, .iadd, 1, 0, 0, 0, 0), (543, .iaload, 1, 0, 0, 0, 0), (544, (.aload_n 0), 1, 0, 0, 0, 0), (545, (.iload 4), 2, 0, 0, 0, 0), (547, (.iconst 3), 1, 0, 0, 0, 0), (548, .iadd, 1, 0, 0, 0, 0), (549, .iaload, 1, 0, 0, 0, 0), (550, (.invokestatic 125), 3, 47, 4, 0, 530), (553, (.istore 5), 2, 0, 0, 0, 0), (555, (.aload_n 2), 1, 0, 0, 0, 0), (556, (.aload_n 0), 1, 0, 0, 0, 0), (557, (.iload 4), 2, 0, 0, 0, 0), (559, (.iconst 1), 1, 0, 0, 0, 0), (560, .iadd, 1, 0, 0, 0, 0), (561, .iaload, 1, 0, 0, 0, 0), (562, (.aload_n 0), 1, 0, 0, 0, 0), (563, (.iload 4), 2, 0, 0, 0, 0), (565, (.iconst 2), 1, 0, 0, 0, 0), (566, .iadd, 1, 0, 0, 0, 0), (567, .iaload, 1, 0, 0, 0, 0), (568, (.aload_n 0), 1, 0, 0, 0, 0), (569, (.iload 4), 2, 0, 0, 0, 0), (571, (.iconst 3), 1, 0, 0, 0, 0), (572, .iadd, 1, 0, 0, 0, 0), (573, .iaload, 1, 0, 0, 0, 0), (574, (.invokevirtual 128), 3, 124, 3, 1, 912), (577, (.aload_n 2), 1, 0, 0, 0, 0), (578, (.invokevirtual 107), 3, 115, 0, 1, 877), (581, (.iload 5), 2, 0, 0, 0, 0), (583, (.if_icmp .eq 5), 3, 588, 0, 0, 0), (586, (.iconst 0), 1, 0, 0, 0, 0), (587, .ireturn, 1, 0, 0, 0, 0), (588, (.goto 1202), 3, 1790, 0, 0, 0), (591, (.aload_n 1), 1, 0, 0, 0, 0), (592, (.aload_n 0), 1, 0, 0, 0, 0), (593, (.iload 4), 2, 0, 0, 0, 0), (595, (.iconst 1), 1, 0, 0, 0, 0), (596, .iadd, 1, 0, 0, 0, 0), (597, .iaload, 1, 0, 0, 0, 0), (598, (.aload_n 0), 1, 0, 0, 0, 0)]
def c0_8 : List (Nat × En) := [(599, (.iload 4), 2, 0, 0, 0, 0), (601, (.iconst 2), 1, 0, 0, 0, 0), (602, .iadd, 1, 0, 0, 0, 0), (603, .iaload, 1, 0, 0, 0, 0), (604, (.aload_n 3), 1, 0, 0, 0, 0), (605, (.invokestatic 129), 3, 52, 4, 0, 551), (608, (.istore 5), 2, 0, 0, 0, 0), (610, (.aload_n 2), 1, 0, 0, 0, 0), (611, (.aload_n 0), 1, 0, 0, 0, 0), (612, (.iload 4), 2, 0, 0, 0, 0), (614, (.iconst 1), 1, 0, 0, 0, 0), (615, .iadd, 1, 0, 0, 0, 0), (616, .iaload, 1, 0, 0, 0, 0), (617, (.aload_n 0), 1, 0, 0, 0, 0), (618, (.iload 4), 2, 0, 0, 0, 0), (620, (.iconst 2), 1, 0, 0, 0, 0), (621, .iadd, 1, 0, 0, 0, 0), (622, .iaload, 1, 0, 0, 0, 0), (623, (.invokevirtual 131), 3, 126, 2, 1, 920), (626, (.istore 6), 2, 0, 0, 0, 0), (628, (.aload_n 2), 1, 0, 0, 0, 0), (629, (.invokevirtual 107), 3, 115, 0, 1, 877), (632, (.iload 5), 2, 0, 0, 0, 0), (634, (.if_icmp .eq 5), 3, 639, 0, 0, 0), (637, (.iconst 0), 1, 0, 0, 0, 0), (638, .ireturn, 1, 0, 0, 0, 0), (639, (.iload 5), 2, 0, 0, 0, 0), (641, (.ifCond .ne 15), 3, 656, 0, 0, 0), (644, (.aload_n 3), 1, 0, 0, 0, 0), (645, (.iconst 0), 1, 0, 0, 0, 0), (646, .laload, 1, 0, 0, 0, 0), (647, (.iload 6), 2, 0, 0, 0, 0), (649, .i2l, 1, 0, 0, 0, 0), (650, .lcmp, 1, 0, 0, 0, 0), (651, (.ifCond .eq 5), 3, 656, 0, 0, 0), (654, (.iconst 0), 1, 0, 0, 0, 0), (655, .ireturn, 1, 0, 0, 0, 0), (656, (.goto 1134), 3, 1790, 0, 0, 0), (659, (.aload_n 1), 1, 0, 0, 0, 0), (660, (.aload_n 0), 1, 0, 0, 0, 0)]
def c0_9 : List (Nat × En) := [(661, (.iload 4), 2, 0, 0, 0, 0), (663, (.iconst 1), 1, 0, 0, 0, 0), (664, .iadd, 1, 0, 0, 0, 0), (665, .iaload, 1, 0, 0, 0, 0), (666, (.ifCond .eq 7), 3, 673, 0, 0, 0), (669, (.iconst 1), 1, 0, 0, 0, 0), (670, (.goto 4), 3, 674, 0, 0, 0), (673, (.iconst 0), 1, 0, 0, 0, 0), (674, (.aload_n 3), 1, 0, 0, 0, 0), (675, (.invokestatic 132), 3, 55, 3, 0, 562), (678, (.istore 5), 2, 0, 0, 0, 0), (680, (.aload_n 2), 1, 0, 0, 0, 0), (681, (.aload_n 0), 1, 0, 0, 0, 0), (682, (.iload 4), 2, 0, 0, 0, 0), (684, (.iconst 1), 1, 0, 0, 0, 0), (685, .iadd, 1, 0, 0, 0, 0), (686, .iaload, 1, 0, 0, 0, 0), (687, (.ifCond .eq 7), 3, 694, 0, 0, 0), (690, (.iconst 1), 1, 0, 0, 0, 0), (691, (.goto 4), 3, 695, 0, 0, 0), (694, (.iconst 0), 1, 0, 0, 0, 0), (695, (.invokevirtual 135), 3, 127, 1, 1, 924), (698, (.istore 6), 2, 0, 0, 0, 0), (700, (.aload_n 2), 1, 0, 0, 0, 0), (701, (.invokevirtual 107), 3, 115, 0, 1, 877), (704, (.iload 5), 2, 0, 0, 0, 0), (706, (.if_icmp .eq 5), 3, 711, 0, 0, 0), (709, (.iconst 0), 1, 0, 0, 0, 0), (710, .ireturn, 1, 0, 0, 0, 0), (711, (.iload 5), 2, 0, 0, 0, 0), (713, (.ifCond .ne 22), 3, 735, 0, 0, 0), (716, (.aload_n 3), 1, 0, 0, 0, 0), (717, (.iconst 0), 1, 0, 0, 0, 0), (718, .laload, 1, 0, 0, 0, 0), (719, (.iload 6), 2, 0, 0, 0, 0), (721, (.ifCond .eq 7), 3, 728, 0, 0, 0), (724, (.lconst 1), 1, 0, 0, 0, 0), (725, (.goto 4), 3, 729, 0, 0, 0), (728, (.lconst 0), 1, 0, 0, 0, 0), (729, .lcmp, 1, 0, 0, 0, 0)]
def c0_10 : List (Nat × En) := [(730, (.ifCond .eq 5), 3, 735, 0, 0, 0), (733, (.iconst 0), 1, 0, 0, 0, 0), (734, .ireturn, 1, 0, 0, 0, 0), (735, (.goto 1055), 3, 1790, 0, 0, 0), (738, (.aload_n 1), 1, 0, 0, 0, 0), (739, (.aload_n 0), 1, 0, 0, 0, 0), (740, (.iload 4), 2, 0, 0, 0, 0), (742, (.iconst 1), 1, 0, 0, 0, 0), (743, .iadd, 1, 0, 0, 0, 0), (744, .iaload, 1, 0, 0, 0, 0), (745, (.aload_n 0), 1, 0, 0, 0, 0), (746, (.iload 4), 2, 0, 0, 0, 0), (748, (.iconst 2), 1, 0, 0, 0, 0), (749, .iadd, 1, 0, 0, 0, 0), (750, .iaload, 1, 0, 0, 0, 0), (751, (.aload_n 3), 1, 0, 0, 0, 0), (752, (.invokestatic 136), 3, 57, 4, 0, 569), (755, (.istore 5), 2, 0, 0, 0, 0), (757, (.aload_n 2), 1, 0, 0, 0, 0), (758, (.aload_n 0), 1, 0, 0, 0, 0), (759, (.iload 4), 2, 0, 0, 0, 0), (761, (.iconst 1), 1, 0, 0, 0, 0), (762, .iadd, 1, 0, 0, 0, 0), (763, .iaload, 1, 0, 0, 0, 0), (764, (.aload_n 0), 1, 0, 0, 0, 0), (765, (.iload 4), 2, 0, 0, 0, 0), (767, (.iconst 2), 1, 0, 0, 0, 0), (768, .iadd, 1, 0, 0, 0, 0), (769, .iaload, 1, 0, 0, 0, 0), (770, (.invokevirtual 138), 3, 128, 2, 1, 928), (773, (.istore 6), 2, 0, 0, 0, 0), (775, (.aload_n 2), 1, 0, 0, 0, 0), (776, (.invokevirtual 107), 3, 115, 0, 1, 877), (779, (.iload 5), 2, 0, 0, 0, 0), (781, (.if_icmp .eq 5), 3, 786, 0, 0, 0), (784, (.iconst 0), 1, 0, 0, 0, 0), (785, .ireturn, 1, 0, 0, 0, 0), (786, (.iload 5), 2, 0, 0, 0, 0), (788, (.ifCond .ne 15), 3, 803, 0, 0, 0), (791, (.aload_n 3), 1, 0, 0, 0, 0)]
def c0_11 : List (Nat × En) := [(792, (.iconst 0), 1, 0, 0, 0, 0), (793, .laload, 1, 0, 0, 0, 0), (794, (.iload 6), 2, 0, 0, 0, 0), (796, .i2l, 1, 0, 0, 0, 0), (797, .lcmp, 1, 0, 0, 0, 0), (798, (.ifCond .eq 5), 3, 803, 0, 0, 0), (801, (.iconst 0), 1, 0, 0, 0, 0), (802, .ireturn, 1, 0, 0, 0, 0), (803, (.goto 987), 3, 1790, 0, 0, 0), (806, (.aload_n 1), 1, 0, 0, 0, 0), (807, (.aload_n 0), 1, 0, 0, 0, 0), (808, (.iload 4), 2, 0, 0, 0, 0), (810, (.iconst 1), 1, 0, 0, 0, 0), (811, .iadd, 1, 0, 0, 0, 0), (812, .iaload, 1, 0, 0, 0, 0), (813, (.aload_n 0), 1, 0, 0, 0, 0), (814, (.iload 4), 2, 0, 0, 0, 0), (816, (.iconst 2), 1, 0, 0, 0, 0), (817, .iadd, 1, 0, 0, 0, 0), (818, .iaload, 1, 0, 0, 0, 0), (819, (.aload_n 0), 1, 0, 0, 0, 0), (820, (.iload 4), 2, 0, 0, 0, 0), (822, (.iconst 3), 1, 0, 0, 0, 0), (823, .iadd, 1, 0, 0, 0, 0), (824, .iaload, 1, 0, 0, 0, 0), (825, (.ifCond .eq 7), 3, 832, 0, 0, 0), (828, (.iconst 1), 1, 0, 0, 0, 0), (829, (.goto 4), 3, 833, 0, 0, 0), (832, (.iconst 0), 1, 0, 0, 0, 0), (833, (.aload_n 3), 1, 0, 0, 0, 0), (834, (.invokestatic 139), 3, 59, 5, 0, 578), (837, (.istore 5), 2, 0, 0, 0, 0), (839, (.aload_n 2), 1, 0, 0, 0, 0), (840, (.aload_n 0), 1, 0, 0, 0, 0), (841, (.iload 4), 2, 0, 0, 0, 0), (843, (.iconst 1), 1, 0, 0, 0, 0), (844, .iadd, 1, 0, 0, 0, 0), (845, .iaload, 1, 0, 0, 0, 0), (846, (.aload_n 0), 1, 0, 0, 0, 0), (847, (.iload 4), 2, 0, 0, 0, 0)]
def c0_12 : List (Nat × En) := [(849, (.iconst 2), 1, 0, 0, 0, 0), (850, .iadd, 1, 0, 0, 0, 0), (851, .iaload, 1, 0, 0, 0, 0), (852, (.aload_n 0), 1, 0, 0, 0, 0), (853, (.iload 4), 2, 0, 0, 0, 0), (855, (.iconst 3), 1, 0, 0, 0, 0), (856, .iadd, 1, 0, 0, 0, 0), (857, .iaload, 1, 0, 0, 0, 0), (858, (.ifCond .eq 7), 3, 865, 0, 0, 0), (861, (.iconst 1), 1, 0, 0, 0, 0), (862, (.goto 4), 3, 866, 0, 0, 0), (865, (.iconst 0), 1, 0, 0, 0, 0), (866, (.invokevirtual 141), 3, 130, 3, 1, 935), (869, (.istore 6), 2, 0, 0, 0, 0), (871, (.aload_n 2), 1, 0, 0, 0, 0), (872, (.invokevirtual 107), 3, 115, 0, 1, 877), (875, (.iload 5), 2, 0, 0, 0, 0), (877, (.if_icmp .eq 5), 3, 882, 0, 0, 0), (880, (.iconst 0), 1, 0, 0, 0, 0), (881, .ireturn, 1, 0, 0, 0, 0), (882, (.iload 5), 2, 0, 0, 0, 0), (884, (.ifCond .ne 22), 3, 906, 0, 0, 0), (887, (.aload_n 3), 1, 0, 0, 0, 0), (888, (.iconst 0), 1, 0, 0, 0, 0), (889, .laload, 1, 0, 0, 0, 0), (890, (.iload 6), 2, 0, 0, 0, 0), (892, (.ifCond .eq 7), 3, 899, 0, 0, 0), (895, (.lconst 1), 1, 0, 0, 0, 0), (896, (.goto 4), 3, 900, 0, 0, 0), (899, (.lconst 0), 1, 0, 0, 0, 0), (900, .lcmp, 1, 0, 0, 0, 0), (901, (.ifCond .eq 5), 3, 906, 0, 0, 0), (904, (.iconst 0), 1, 0, 0, 0, 0), (905, .ireturn, 1, 0, 0, 0, 0), (906, (.goto 884), 3, 1790, 0, 0, 0), (909, (.aload_n 1), 1, 0, 0, 0, 0), (910, (.aload_n 0), 1, 0, 0, 0, 0), (911, (.iload 4), 2, 0, 0, 0, 0), (913, (.iconst 1), 1, 0, 0, 0, 0), (914, .iadd, 1, 0, 0, 0, 0)]
def c0_13 : List (Nat × En) := [(915, .iaload, 1, 0, 0, 0, 0), (916, (.aload_n 0), 1, 0, 0, 0, 0), (917, (.iload 4), 2, 0, 0, 0, 0), (919, (.iconst 2), 1, 0, 0, 0, 0), (920, .iadd, 1, 0, 0, 0, 0), (921, .iaload, 1, 0, 0, 0, 0), (922, (.aload_n 0), 1, 0, 0, 0, 0), (923, (.iload 4), 2, 0, 0, 0, 0), (925, (.iconst 3), 1, 0, 0, 0, 0), (926, .iadd, 1, 0, 0, 0, 0), (927, .iaload, 1, 0, 0, 0, 0), (928, (.invokestatic 142), 3, 61, 4, 0, 585), (931, (.istore 5), 2, 0, 0, 0, 0), (933, (.aload_n 2), 1, 0, 0, 0, 0), (934, (.aload_n 0), 1, 0, 0, 0, 0), (935, (.iload 4), 2, 0, 0, 0, 0), (937, (.iconst 1), 1, 0, 0, 0, 0), (938, .iadd, 1, 0, 0, 0, 0), (939, .iaload, 1, 0, 0, 0, 0), (940, (.aload_n 0), 1, 0, 0, 0, 0), (941, (.iload 4), 2, 0, 0, 0, 0), (943, (.iconst 2), 1, 0, 0, 0, 0), (944, .iadd, 1, 0, 0, 0, 0), (945, .iaload, 1, 0, 0, 0, 0), (946, (.aload_n 0), 1, 0, 0, 0, 0), (947, (.iload 4), 2, 0, 0, 0, 0), (949, (.iconst 3), 1, 0, 0, 0, 0), (950, .iadd, 1, 0, 0, 0, 0), (951, .iaload, 1, 0, 0, 0, 0), (952, (.invokevirtual 144), 3, 131, 3, 1, 939), (955, (.aload_n 2), 1, 0, 0, 0, 0), (956, (.invokevirtual 107), 3, 115, 0, 1, 877), (959, (.iload 5), 2, 0, 0, 0, 0), (961, (.if_icmp .eq 5), 3, 966, 0, 0, 0), (964, (.iconst 0), 1, 0, 0, 0, 0), (965, .ireturn, 1, 0, 0, 0, 0), (966, (.goto 824), 3, 1790, 0, 0, 0), (969, (.aload_n 1), 1, 0, 0, 0, 0), (970, (.aload_n 0), 1, 0, 0, 0, 0), (971, (.iload 4), 2, 0, 0, 0, 0)]
def c0_14 : List (Nat × En) := [(973, (.iconst 1), 1, 0, 0, 0, 0), (974, .iadd, 1, 0, 0, 0, 0), (975, .iaload, 1, 0, 0, 0, 0), (976, (.aload_n 3), 1, 0, 0, 0, 0), (977, (.invokestatic 145), 3, 63, 3, 0, 592), (980, (.istore 5), 2, 0, 0, 0, 0), (982, (.aload_n 2), 1, 0, 0, 0, 0), (983, (.aload_n 0), 1, 0, 0, 0, 0), (984, (.iload 4), 2, 0, 0, 0, 0), (986, (.iconst 1), 1, 0, 0, 0, 0), (987, .iadd, 1, 0, 0, 0, 0), (988, .iaload, 1, 0, 0, 0, 0), (989, (.invokevirtual 147), 3, 132, 1, 1, 943), (992, (.istore 6), 2, 0, 0, 0, 0), (994, (.aload_n 2), 1, 0, 0, 0, 0), (995, (.invokevirtual 107), 3, 115, 0, 1, 877), (998, (.iload 5), 2, 0, 0, 0, 0), (1000, (.if_icmp .eq 5), 3, 1005, 0, 0, 0), (1003, (.iconst 0), 1, 0, 0, 0, 0), (1004, .ireturn, 1, 0, 0, 0, 0), (1005, (.iload 5), 2, 0, 0, 0, 0), (1007, (.ifCond .ne 15), 3, 1022, 0, 0, 0), (1010, (.aload_n 3), 1, 0, 0, 0, 0), (1011, (.iconst 0), 1, 0, 0, 0, 0), (1012, .laload, 1, 0, 0, 0, 0), (1013, (.iload 6), 2, 0, 0, 0, 0), (1015, .i2l, 1, 0, 0, 0, 0), (1016, .lcmp, 1, 0, 0, 0, 0), (1017, (.ifCond .eq 5), 3, 1022, 0, 0, 0), (1020, (.iconst 0), 1, 0, 0, 0, 0), (1021, .ireturn, 1, 0, 0, 0, 0), (1022, (.goto 768), 3, 1790, 0, 0, 0), (1025, (.aload_n 1), 1, 0, 0, 0, 0), (1026, (.aload_n 0), 1, 0, 0, 0, 0), (1027, (.iload 4), 2, 0, 0, 0, 0), (1029, (.iconst 1), 1, 0, 0, 0, 0), (1030, .iadd, 1, 0, 0, 0, 0), (1031, .iaload, 1, 0, 0, 0, 0), (1032, (.aload_n 3), 1, 0, 0, 0, 0), (1033, (.invokestatic 148), 3, 65, 3, 0, 599)]
def c0_15 : List (Nat × En) := [(1036, (.istore 5), 2, 0, 0, 0, 0), (1038, (.aload_n 2), 1, 0, 0, 0, 0), (1039, (.aload_n 0), 1, 0, 0, 0, 0), (1040, (.iload 4), 2, 0, 0, 0, 0), (1042, (.iconst 1), 1, 0, 0, 0, 0), (1043, .iadd, 1, 0, 0, 0, 0), (1044, .iaload, 1, 0, 0, 0, 0), (1045, (.invokevirtual 150), 3, 133, 1, 1, 947), (1048, (.istore 6), 2, 0, 0, 0, 0), (1050, (.aload_n 2), 1, 0, 0, 0, 0), (1051, (.invokevirtual 107), 3, 115, 0, 1, 877), (1054, (.iload 5), 2, 0, 0, 0, 0), (1056, (.if_icmp .eq 5), 3, 1061, 0, 0, 0), (1059, (.iconst 0), 1, 0, 0, 0, 0), (1060, .ireturn, 1, 0, 0, 0, 0), (1061, (.iload 5), 2, 0, 0, 0, 0), (1063, (.ifCond .ne 15), 3, 1078, 0, 0, 0), (1066, (.aload_n 3), 1, 0, 0, 0, 0), (1067, (.iconst 0), 1, 0, 0, 0, 0), (1068, .laload, 1, 0, 0, 0, 0), (1069, (.iload 6), 2, 0, 0, 0, 0), (1071, .i2l, 1, 0, 0, 0, 0), (1072, .lcmp, 1, 0, 0, 0, 0), (1073, (.ifCond .eq 5), 3, 1078, 0, 0, 0), (1076, (.iconst 0), 1, 0, 0, 0, 0), (1077, .ireturn, 1, 0, 0, 0, 0), (1078, (.goto 712), 3, 1790, 0, 0, 0), (1081, (.aload_n 1), 1, 0, 0, 0, 0), (1082, (.aload_n 0), 1, 0, 0, 0, 0), (1083, (.iload 4), 2, 0, 0, 0, 0), (1085, (.iconst 1), 1, 0, 0, 0, 0), (1086, .iadd, 1, 0, 0, 0, 0), (1087, .iaload, 1, 0, 0, 0, 0), (1088, (.aload_n 0), 1, 0, 0, 0, 0), (1089, (.iload 4), 2, 0, 0, 0, 0), (1091, (.iconst 2), 1, 0, 0, 0, 0), (1092, .iadd, 1, 0, 0, 0, 0), (1093, .iaload, 1, 0, 0, 0, 0), (1094, (.aload_n 0), 1, 0, 0, 0, 0), (1095, (.iload 4), 2, 0, 0, 0, 0)]
def c0_16 : List (Nat × En) := [(1097, (.iconst 3), 1, 0, 0, 0, 0), (1098, .iadd, 1, 0, 0, 0, 0), (1099, .iaload, 1, 0, 0, 0, 0), (1100, (.aload_n 3), 1, 0, 0, 0, 0), (1101, (.invokestatic 151), 3, 67, 5, 0, 606), (1104, (.istore 5), 2, 0, 0, 0, 0), (1106, (.aload_n 2), 1, 0, 0, 0, 0), (1107, (.aload_n 0), 1, 0, 0, 0, 0), (1108, (.iload 4), 2, 0, 0, 0, 0), (1110, (.iconst 1), 1, 0, 0, 0, 0), (1111, .iadd, 1, 0, 0, 0, 0), (1112, .iaload, 1, 0, 0, 0, 0), (1113, (.aload_n 0), 1, 0, 0, 0, 0), (1114, (.iload 4), 2, 0, 0, 0, 0), (1116, (.iconst 2), 1, 0, 0, 0, 0), (1117, .iadd, 1, 0, 0, 0, 0), (1118, .iaload, 1, 0, 0, 0, 0), (1119, (.aload_n 0), 1, 0, 0, 0, 0), (1120, (.iload 4), 2, 0, 0, 0, 0), (1122, (.iconst 3), 1, 0, 0, 0, 0), (1123, .iadd, 1, 0, 0, 0, 0), (1124, .iaload, 1, 0, 0, 0, 0), (1125, (.invokevirtual 153), 3, 134, 3, 1, 951), (1128, (.istore 6), 2, 0, 0, 0, 0), (1130, (.aload_n 2), 1, 0, 0, 0, 0), (1131, (.invokevirtual 107), 3, 115, 0, 1, 877), (1134, (.iload 5), 2, 0, 0, 0, 0), (1136, (.if_icmp .eq 5), 3, 1141, 0, 0, 0), (1139, (.iconst 0), 1, 0, 0, 0, 0), (1140, .ireturn, 1, 0, 0, 0, 0), (1141, (.iload 5), 2, 0, 0, 0, 0), (1143, (.ifCond .ne 15), 3, 1158, 0, 0, 0), (1146, (.aload_n 3), 1, 0, 0, 0, 0), (1147, (.iconst 0), 1, 0, 0, 0, 0), (1148, .laload, 1, 0, 0, 0, 0), (1149, (.iload 6), 2, 0, 0, 0, 0), (1151, .i2l, 1, 0, 0, 0, 0), (1152, .lcmp, 1, 0, 0, 0, 0), (1153, (.ifCond .eq 5), 3, 1158, 0, 0, 0), (1156, (.iconst 0), 1, 0, 0, 0, 0)]
def c0_17 : List (Nat × En) := [(1157, .ireturn, 1, 0, 0, 0, 0), (1158, (.goto 632), 3, 1790, 0, 0, 0), (1161, (.aload_n 1), 1, 0, 0, 0, 0), (1162, (.aload_n 0), 1, 0, 0, 0, 0), (1163, (.iload 4), 2, 0, 0, 0, 0), (1165, (.iconst 1), 1, 0, 0, 0, 0), (1166, .iadd, 1, 0, 0, 0, 0), (1167, .iaload, 1, 0, 0, 0, 0), (1168, (.aload_n 3), 1, 0, 0, 0, 0), (1169, (.invokestatic 154), 3, 71, 3, 0, 620), (1172, (.istore 5), 2, 0, 0, 0, 0), (1174, (.aload_n 2), 1, 0, 0, 0, 0), (1175, (.aload_n 0), 1, 0, 0, 0, 0), (1176, (.iload 4), 2, 0, 0, 0, 0), (1178, (.iconst 1), 1, 0, 0, 0, 0), (1179, .iadd, 1, 0, 0, 0, 0), (1180, .iaload, 1, 0, 0, 0, 0), (1181, (.invokevirtual 156), 3, 136, 1, 1, 959), (1184, (.istore 6), 2, 0, 0, 0, 0), (1186, (.aload_n 2), 1, 0, 0, 0, 0), (1187, (.invokevirtual 107), 3, 115, 0, 1, 877), (1190, (.iload 5), 2, 0, 0, 0, 0), (1192, (.if_icmp .eq 5), 3, 1197, 0, 0, 0), (1195, (.iconst 0), 1, 0, 0, 0, 0), (1196, .ireturn, 1, 0, 0, 0, 0), (1197, (.iload 5), 2, 0, 0, 0, 0), (1199, (.ifCond .ne 15), 3, 1214, 0, 0, 0), (1202, (.aload_n 3), 1, 0, 0, 0, 0), (1203, (.iconst 0), 1, 0, 0, 0, 0), (1204, .laload, 1, 0, 0, 0, 0), (1205, (.iload 6), 2, 0, 0, 0, 0), (1207, .i2l, 1, 0, 0, 0, 0), (1208, .lcmp, 1, 0, 0, 0, 0), (1209, (.ifCond .eq 5), 3, 1214, 0, 0, 0), (1212, (.iconst 0), 1, 0, 0, 0, 0), (1213, .ireturn, 1, 0, 0, 0, 0), (1214, (.goto 576), 3, 1790, 0, 0, 0), (1217, (.aload_n 1), 1, 0, 0, 0, 0), (1218, (.aload_n 0), 1, 0, 0, 0, 0), (1219, (.iload 4), 2, 0, 0, 0, 0)]
def c0_18 : List (Nat × En) := [(1221, (.iconst 1), 1, 0, 0, 0, 0), (1222, .iadd, 1, 0, 0, 0, 0), (1223, .iaload, 1, 0, 0, 0, 0), (1224, (.aload_n 3), 1, 0, 0, 0, 0), (1225, (.invokestatic 157), 3, 81, 3, 0, 664), (1228, (.istore 5), 2, 0, 0, 0, 0), (1230, (.aload_n 2), 1, 0, 0, 0, 0), (1231, (.aload_n 0), 1, 0, 0, 0, 0), (1232, (.iload 4), 2, 0, 0, 0, 0), (1234, (.iconst 1), 1, 0, 0, 0, 0), (1235, .iadd, 1, 0, 0, 0, 0), (1236, .iaload, 1, 0, 0, 0, 0), (1237, (.invokevirtual 159), 3, 150, 1, 1, 1015), (1240, (.istore 6), 2, 0, 0, 0, 0), (1242, (.aload_n 2), 1, 0, 0, 0, 0), (1243, (.invokevirtual 107), 3, 115, 0, 1, 877), (1246, (.iload 5), 2, 0, 0, 0, 0), (1248, (.if_icmp .eq 5), 3, 1253, 0, 0, 0), (1251, (.iconst 0), 1, 0, 0, 0, 0), (1252, .ireturn, 1, 0, 0, 0, 0), (1253, (.iload 5), 2, 0, 0, 0, 0), (1255, (.ifCond .ne 15), 3, 1270, 0, 0, 0), (1258, (.aload_n 3), 1, 0, 0, 0, 0), (1259, (.iconst 0), 1, 0, 0, 0, 0), (1260, .laload, 1, 0, 0, 0, 0), (1261, (.iload 6), 2, 0, 0, 0, 0), (1263, .i2l, 1, 0, 0, 0, 0), (1264, .lcmp, 1, 0, 0, 0, 0), (1265, (.ifCond .eq 5), 3, 1270, 0, 0, 0), (1268, (.iconst 0), 1, 0, 0, 0, 0), (1269, .ireturn, 1, 0, 0, 0, 0), (1270, (.goto 520), 3, 1790, 0, 0, 0), (1273, (.aload_n 1), 1, 0, 0, 0, 0), (1274, (.aload_n 0), 1, 0, 0, 0, 0), (1275, (.iload 4), 2, 0, 0, 0, 0), (1277, (.iconst 1), 1, 0, 0, 0, 0), (1278, .iadd, 1, 0, 0, 0, 0), (1279, .iaload, 1, 0, 0, 0, 0), (1280, (.aload_n 3), 1, 0, 0, 0, 0), (1281, (.invokestatic 160), 3, 84, 3, 0, 675)]
def c0_19 : List (Nat × En) := [(1284, (.istore 5), 2, 0, 0, 0, 0), (1286, (.aload_n 2), 1, 0, 0, 0, 0), (1287, (.aload_n 0), 1, 0, 0, 0, 0), (1288, (.iload 4), 2, 0, 0, 0, 0), (1290, (.iconst 1), 1, 0, 0, 0, 0), (1291, .iadd, 1, 0, 0, 0, 0), (1292, .iaload, 1, 0, 0, 0, 0), (1293, (.invokevirtual 162), 3, 151, 1, 1, 1019), (1296, (.istore 6), 2, 0, 0, 0, 0), (1298, (.aload_n 2), 1, 0, 0, 0, 0), (1299, (.invokevirtual 107), 3, 115, 0, 1, 877), (1302, (.iload 5), 2, 0, 0, 0, 0), (1304, (.if_icmp .eq 5), 3, 1309, 0, 0, 0), (1307, (.iconst 0), 1, 0, 0, 0, 0), (1308, .ireturn, 1, 0, 0, 0, 0), (1309, (.iload 5), 2, 0, 0, 0, 0), (1311, (.ifCond .ne 15), 3, 1326, 0, 0, 0), (1314, (.aload_n 3), 1, 0, 0, 0, 0), (1315, (.iconst 0), 1, 0, 0, 0, 0), (1316, .laload, 1, 0, 0, 0, 0), (1317, (.iload 6), 2, 0, 0, 0, 0), (1319, .i2l, 1, 0, 0, 0, 0), (1320, .lcmp, 1, 0, 0, 0, 0), (1321, (.ifCond .eq 5), 3, 1326, 0, 0, 0), (1324, (.iconst 0), 1, 0, 0, 0, 0), (1325, .ireturn, 1, 0, 0, 0, 0), (1326, (.goto 464), 3, 1790, 0, 0, 0), (1329, (.aload_n 1), 1, 0, 0, 0, 0), (1330, (.aload_n 0), 1, 0, 0, 0, 0), (1331, (.iload 4), 2, 0, 0, 0, 0), (1333, (.iconst 1), 1, 0, 0, 0, 0), (1334, .iadd, 1, 0, 0, 0, 0), (1335, .iaload, 1, 0, 0, 0, 0), (1336, (.aload_n 0), 1, 0, 0, 0, 0), (1337, (.iload 4), 2, 0, 0, 0, 0), (1339, (.iconst 2), 1, 0, 0, 0, 0), (1340, .iadd, 1, 0, 0, 0, 0), (1341, .iaload, 1, 0, 0, 0, 0), (1342, (.aload_n 3), 1, 0, 0, 0, 0), (1343, (.invokestatic 163), 3, 86, 4, 0, 682)]
def c0_20 : List (Nat × En) := [(1346, (.istore 5), 2, 0, 0, 0, 0), (1348, (.aload_n 2), 1, 0, 0, 0, 0), (1349, (.aload_n 0), 1, 0, 0, 0, 0), (1350, (.iload 4), 2, 0, 0, 0, 0), (1352, (.iconst 1), 1, 0, 0, 0, 0), (1353, .iadd, 1, 0, 0, 0, 0), (1354, .iaload, 1, 0, 0, 0, 0), (1355, (.aload_n 0), 1, 0, 0, 0, 0), (1356, (.iload 4), 2, 0, 0, 0, 0), (1358, (.iconst 2), 1, 0, 0, 0, 0), (1359, .iadd, 1, 0, 0, 0, 0), (1360, .iaload, 1, 0, 0, 0, 0), (1361, (.invokevirtual 165), 3, 152, 2, 1, 1023), (1364, (.istore 6), 2, 0, 0, 0, 0), (1366, (.aload_n 2), 1, 0, 0, 0, 0), (1367, (.invokevirtual 107), 3, 115, 0, 1, 877), (1370, (.iload 5), 2, 0, 0, 0, 0), (1372, (.if_icmp .eq 5), 3, 1377, 0, 0, 0), (1375, (.iconst 0), 1, 0, 0, 0, 0), (1376, .ireturn, 1, 0, 0, 0, 0), (1377, (.iload 5), 2, 0, 0, 0, 0), (1379, (.ifCond .ne 15), 3, 1394, 0, 0, 0), (1382, (.aload_n 3), 1, 0, 0, 0, 0), (1383, (.iconst 0), 1, 0, 0, 0, 0), (1384, .laload, 1, 0, 0, 0, 0), (1385, (.iload 6), 2, 0, 0, 0, 0), (1387, .i2l, 1, 0, 0, 0, 0), (1388, .lcmp, 1, 0, 0, 0, 0), (1389, (.ifCond .eq 5), 3, 1394, 0, 0, 0), (1392, (.iconst 0), 1, 0, 0, 0, 0), (1393, .ireturn, 1, 0, 0, 0, 0), (1394, (.goto 396), 3, 1790, 0, 0, 0), (1397, (.aload_n 1), 1, 0, 0, 0, 0), (1398, (.aload_n 3), 1, 0, 0, 0, 0), (1399, (.invokestatic 166), 3, 88, 2, 0, 689), (1402, (.istore 5), 2, 0, 0, 0, 0), (1404, (.aload_n 2), 1, 0, 0, 0, 0), (1405, (.invokevirtual 169), 3, 153, 0, 1, 1027), (1408, (.istore 6), 2, 0, 0, 0, 0), (1410, (.aload_n 2), 1, 0, 0, 0, 0)]
def c0_21 : List (Nat × En) := [(1411, (.invokevirtual 107), 3, 115, 0, 1, 877), (1414, (.iload 5), 2, 0, 0, 0, 0), (1416, (.if_icmp .eq 5), 3, 1421, 0, 0, 0), (1419, (.iconst 0), 1, 0, 0, 0, 0), (1420, .ireturn, 1, 0, 0, 0, 0), (1421, (.iload 5), 2, 0, 0, 0, 0), (1423, (.ifCond .ne 15), 3, 1438, 0, 0, 0), (1426, (.aload_n 3), 1, 0, 0, 0, 0), (1427, (.iconst 0), 1, 0, 0, 0, 0), (1428, .laload, 1, 0, 0, 0, 0), (1429, (.iload 6), 2, 0, 0, 0, 0), (1431, .i2l, 1, 0, 0, 0, 0), (1432, .lcmp, 1, 0, 0, 0, 0), (1433, (.ifCond .eq 5), 3, 1438, 0, 0, 0), (1436, (.iconst 0), 1, 0, 0, 0, 0), (1437, .ireturn, 1, 0, 0, 0, 0), (1438, (.goto 352), 3, 1790, 0, 0, 0), (1441, (.aload_n 1), 1, 0, 0, 0, 0), (1442, (.aload_n 0), 1, 0, 0, 0, 0), (1443, (.iload 4), 2, 0, 0, 0, 0), (1445, (.iconst 1), 1, 0, 0, 0, 0), (1446, .iadd, 1, 0, 0, 0, 0), (1447, .iaload, 1, 0, 0, 0, 0), (1448, (.aload_n 3), 1, 0, 0, 0, 0), (1449, (.invokestatic 170), 3, 92, 3, 0, 705), (1452, (.istore 5), 2, 0, 0, 0, 0), (1454, (.aload_n 2), 1, 0, 0, 0, 0), (1455, (.aload_n 0), 1, 0, 0, 0, 0), (1456, (.iload 4), 2, 0, 0, 0, 0), (1458, (.iconst 1), 1, 0, 0, 0, 0), (1459, .iadd, 1, 0, 0, 0, 0), (1460, .iaload, 1, 0, 0, 0, 0), (1461, (.invokevirtual 172), 3, 154, 1, 1, 1031), (1464, (.istore 6), 2, 0, 0, 0, 0), (1466, (.aload_n 2), 1, 0, 0, 0, 0), (1467, (.invokevirtual 107), 3, 115, 0, 1, 877), (1470, (.iload 5), 2, 0, 0, 0, 0), (1472, (.if_icmp .eq 5), 3, 1477, 0, 0, 0), (1475, (.iconst 0), 1, 0, 0, 0, 0), (1476, .ireturn, 1, 0, 0, 0, 0)]
def c0_22 : List (Nat × En) := [(1477, (.iload 5), 2, 0, 0, 0, 0), (1479, (.ifCond .ne 15), 3, 1494, 0, 0, 0), (1482, (.aload_n 3), 1, 0, 0, 0, 0), (1483, (.iconst 0), 1, 0, 0, 0, 0), (1484, .laload, 1, 0, 0, 0, 0), (1485, (.iload 6), 2, 0, 0, 0, 0), (1487, .i2l, 1, 0, 0, 0, 0), (1488, .lcmp, 1, 0, 0, 0, 0), (1489, (.ifCond .eq 5), 3, 1494, 0, 0, 0), (1492, (.iconst 0), 1, 0, 0, 0, 0), (1493, .ireturn, 1, 0, 0, 0, 0), (1494, (.goto 296), 3, 1790, 0, 0, 0), (1497, (.aload_n 1), 1, 0, 0, 0, 0), (1498, (.invokevirtual 173), 3, 16, 0, 1, 310), (1501, (.aload_n 2), 1, 0, 0, 0, 0), (1502, (.invokevirtual 176), 3, 158, 0, 1, 1047), (1505, (.if_icmp .eq 285), 3, 1790, 0, 0, 0), (1508, (.iconst 0), 1, 0, 0, 0, 0), (1509, .ireturn, 1, 0, 0, 0, 0), (1510, (.aload_n 1), 1, 0, 0, 0, 0), (1511, (.aload_n 3), 1, 0, 0, 0, 0), (1512, (.invokestatic 177), 3, 97, 2, 0, 728), (1515, (.istore 5), 2, 0, 0, 0, 0), (1517, (.aload_n 2), 1, 0, 0, 0, 0), (1518, (.invokevirtual 179), 3, 159, 0, 1, 1051), (1521, (.istore 6), 2, 0, 0, 0, 0), (1523, (.aload_n 2), 1, 0, 0, 0, 0), (1524, (.invokevirtual 107), 3, 115, 0, 1, 877), (1527, (.iload 5), 2, 0, 0, 0, 0), (1529, (.if_icmp .eq 5), 3, 1534, 0, 0, 0), (1532, (.iconst 0), 1, 0, 0, 0, 0), (1533, .ireturn, 1, 0, 0, 0, 0), (1534, (.iload 5), 2, 0, 0, 0, 0), (1536, (.ifCond .ne 15), 3, 1551, 0, 0, 0), (1539, (.aload_n 3), 1, 0, 0, 0, 0), (1540, (.iconst 0), 1, 0, 0, 0, 0), (1541, .laload, 1, 0, 0, 0, 0), (1542, (.iload 6), 2, 0, 0, 0, 0), (1544, .i2l, 1, 0, 0, 0, 0), (1545, .lcmp, 1, 0, 0, 0, 0)]
def c0_23 : List (Nat × En) := [(1546, (.ifCond .eq 5), 3, 1551, 0, 0, 0), (1549, (.iconst 0), 1, 0, 0, 0, 0), (1550, .ireturn, 1, 0, 0, 0, 0), (1551, (.goto 239), 3, 1790, 0, 0, 0), (1554, (.aload_n 1), 1, 0, 0, 0, 0), (1555, (.aload_n 3), 1, 0, 0, 0, 0), (1556, (.invokestatic 180), 3, 100, 2, 0, 741), (1559, (.istore 5), 2, 0, 0, 0, 0), (1561, (.aload_n 2), 1, 0, 0, 0, 0), (1562, (.invokevirtual 182), 3, 160, 0, 1, 1055), (1565, (.istore 6), 2, 0, 0, 0, 0), (1567, (.aload_n 2), 1, 0, 0, 0, 0), (1568, (.invokevirtual 107), 3, 115, 0, 1, 877), (1571, (.iload 5), 2, 0, 0, 0, 0), (1573, (.if_icmp .eq 5), 3, 1578, 0, 0, 0), (1576, (.iconst 0), 1, 0, 0, 0, 0), (1577, .ireturn, 1, 0, 0, 0, 0), (1578, (.iload 5), 2, 0, 0, 0, 0), (1580, (.ifCond .ne 15), 3, 1595, 0, 0, 0), (1583, (.aload_n 3), 1, 0, 0, 0, 0), (1584, (.iconst 0), 1, 0, 0, 0, 0), (1585, .laload, 1, 0, 0, 0, 0), (1586, (.iload 6), 2, 0, 0, 0, 0), (1588, .i2l, 1, 0, 0, 0, 0), (1589, .lcmp, 1, 0, 0, 0, 0), (1590, (.ifCond .eq 5), 3, 1595, 0, 0, 0), (1593, (.iconst 0), 1, 0, 0, 0, 0), (1594, .ireturn, 1, 0, 0, 0, 0), (1595, (.goto 195), 3, 1790, 0, 0, 0), (1598, (.aload_n 1), 1, 0, 0, 0, 0), (1599, (.aload_n 0), 1, 0, 0, 0, 0), (1600, (.iload 4), 2, 0, 0, 0, 0), (1602, (.iconst 1), 1, 0, 0, 0, 0), (1603, .iadd, 1, 0, 0, 0, 0), (1604, .iaload, 1, 0, 0, 0, 0), (1605, (.aload_n 0), 1, 0, 0, 0, 0), (1606, (.iload 4), 2, 0, 0, 0, 0), (1608, (.iconst 2), 1, 0, 0, 0, 0), (1609, .iadd, 1, 0, 0, 0, 0), (1610, .iaload, 1, 0, 0, 0, 0)]
def c0_24 : List (Nat × En) := [(1611, (.aload_n 0), 1, 0, 0, 0, 0), (1612, (.iload 4), 2, 0, 0, 0, 0), (1614, (.iconst 3), 1, 0, 0, 0, 0), (1615, .iadd, 1, 0, 0, 0, 0), (1616, .iaload, 1, 0, 0, 0, 0), (1617, (.aload_n 3), 1, 0, 0, 0, 0), (1618, (.invokestatic 183), 3, 103, 5, 0, 753), (1621, (.istore 5), 2, 0, 0, 0, 0), (1623, (.aload_n 2), 1, 0, 0, 0, 0), (1624, (.aload_n 0), 1, 0, 0, 0, 0), (1625, (.iload 4), 2, 0, 0, 0, 0), (1627, (.iconst 1), 1, 0, 0, 0, 0), (1628, .iadd, 1, 0, 0, 0, 0), (1629, .iaload, 1, 0, 0, 0, 0), (1630, (.aload_n 0), 1, 0, 0, 0, 0), (1631, (.iload 4), 2, 0, 0, 0, 0), (1633, (.iconst 2), 1, 0, 0, 0, 0), (1634, .iadd, 1, 0, 0, 0, 0), (1635, .iaload, 1, 0, 0, 0, 0), (1636, (.aload_n 0), 1, 0, 0, 0, 0), (1637, (.iload 4), 2, 0, 0, 0, 0), (1639, (.iconst 3), 1, 0, 0, 0, 0), (1640, .iadd, 1, 0, 0, 0, 0), (1641, .iaload, 1, 0, 0, 0, 0), (1642, (.invokevirtual 185), 3, 161, 3, 1, 1059), (1645, (.istore 6), 2, 0, 0, 0, 0), (1647, (.aload_n 2), 1, 0, 0, 0, 0), (1648, (.invokevirtual 107), 3, 115, 0, 1, 877), (1651, (.iload 5), 2, 0, 0, 0, 0), (1653, (.if_icmp .eq 5), 3, 1658, 0, 0, 0), (1656, (.iconst 0), 1, 0, 0, 0, 0), (1657, .ireturn, 1, 0, 0, 0, 0), (1658, (.iload 5), 2, 0, 0, 0, 0), (1660, (.ifCond .ne 15), 3, 1675, 0, 0, 0), (1663, (.aload_n 3), 1, 0, 0, 0, 0), (1664, (.iconst 0), 1, 0, 0, 0, 0), (1665, .laload, 1, 0, 0, 0, 0), (1666, (.iload 6), 2, 0, 0, 0, 0), (1668, .i2l, 1, 0, 0, 0, 0), (1669, .lcmp, 1, 0, 0, 0, 0)]
def c0_25 : List (Nat × En) := [(1670, (.ifCond .eq 5), 3, 1675, 0, 0, 0), (1673, (.iconst 0), 1, 0, 0, 0, 0), (1674, .ireturn, 1, 0, 0, 0, 0), (1675, (.goto 115), 3, 1790, 0, 0, 0), (1678, (.aload_n 1), 1, 0, 0, 0, 0), (1679, (.aload_n 0), 1, 0, 0, 0, 0), (1680, (.iload 4), 2, 0, 0, 0, 0), (1682, (.iconst 1), 1, 0, 0, 0, 0), (1683, .iadd, 1, 0, 0, 0, 0), (1684, .iaload, 1, 0, 0, 0, 0), (1685, (.aload_n 3), 1, 0, 0, 0, 0), (1686, (.invokestatic 186), 3, 105, 3, 0, 761), (1689, (.istore 5), 2, 0, 0, 0, 0), (1691, (.aload_n 2), 1, 0, 0, 0, 0), (1692, (.aload_n 0), 1, 0, 0, 0, 0), (1693, (.iload 4), 2, 0, 0, 0, 0), (1695, (.iconst 1), 1, 0, 0, 0, 0), (1696, .iadd, 1, 0, 0, 0, 0), (1697, .iaload, 1, 0, 0, 0, 0), (1698, (.invokevirtual 188), 3, 163, 1, 1, 1067), (1701, (.istore 6), 2, 0, 0, 0, 0), (1703, (.aload_n 2), 1, 0, 0, 0, 0), (1704, (.invokevirtual 107), 3, 115, 0, 1, 877), (1707, (.iload 5), 2, 0, 0, 0, 0), (1709, (.if_icmp .eq 5), 3, 1714, 0, 0, 0), (1712, (.iconst 0), 1, 0, 0, 0, 0), (1713, .ireturn, 1, 0, 0, 0, 0), (1714, (.iload 5), 2, 0, 0, 0, 0), (1716, (.ifCond .ne 15), 3, 1731, 0, 0, 0), (1719, (.aload_n 3), 1, 0, 0, 0, 0), (1720, (.iconst 0), 1, 0, 0, 0, 0), (1721, .laload, 1, 0, 0, 0, 0), (1722, (.iload 6), 2, 0, 0, 0, 0), (1724, .i2l, 1, 0, 0, 0, 0), (1725, .lcmp, 1, 0, 0, 0, 0), (1726, (.ifCond .eq 5), 3, 1731, 0, 0, 0), (1729, (.iconst 0), 1, 0, 0, 0, 0), (1730, .ireturn, 1, 0, 0, 0, 0), (1731, (.goto 59), 3, 1790, 0, 0, 0), (1734, (.aload_n 1), 1, 0, 0, 0, 0)]
def c0_26 : List (Nat × En) := [(1735, (.aload_n 0), 1, 0, 0, 0, 0), (1736, (.iload 4), 2, 0, 0, 0, 0), (1738, (.iconst 1), 1, 0, 0, 0, 0), (1739, .iadd, 1, 0, 0, 0, 0), (1740, .iaload, 1, 0, 0, 0, 0), (1741, (.aload_n 3), 1, 0, 0, 0, 0), (1742, (.invokestatic 189), 3, 110, 3, 0, 782), (1745, (.istore 5), 2, 0, 0, 0, 0), (1747, (.aload_n 2), 1, 0, 0, 0, 0), (1748, (.aload_n 0), 1, 0, 0, 0, 0), (1749, (.iload 4), 2, 0, 0, 0, 0), (1751, (.iconst 1), 1, 0, 0, 0, 0), (1752, .iadd, 1, 0, 0, 0, 0), (1753, .iaload, 1, 0, 0, 0, 0), (1754, (.invokevirtual 191), 3, 164, 1, 1, 1071), (1757, (.istore 6), 2, 0, 0, 0, 0), (1759, (.aload_n 2), 1, 0, 0, 0, 0), (1760, (.invokevirtual 107), 3, 115, 0, 1, 877), (1763, (.iload 5), 2, 0, 0, 0, 0), (1765, (.if_icmp .eq 5), 3, 1770, 0, 0, 0), (1768, (.iconst 0), 1, 0, 0, 0, 0), (1769, .ireturn, 1, 0, 0, 0, 0), (1770, (.iload 5), 2, 0, 0, 0, 0), (1772, (.ifCond .ne 15), 3, 1787, 0, 0, 0), (1775, (.aload_n 3), 1, 0, 0, 0, 0), (1776, (.iconst 0), 1, 0, 0, 0, 0), (1777, .laload, 1, 0, 0, 0, 0), (1778, (.iload 6), 2, 0, 0, 0, 0), (1780, .i2l, 1, 0, 0, 0, 0), (1781, .lcmp, 1, 0, 0, 0, 0), (1782, (.ifCond .eq 5), 3, 1787, 0, 0, 0), (1785, (.iconst 0), 1, 0, 0, 0, 0), (1786, .ireturn, 1, 0, 0, 0, 0), (1787, (.goto 3), 3, 1790, 0, 0, 0), (1790, (.iinc 4 4), 3, 0, 0, 0, 0), (1793, (.goto (-1770)), 3, 23, 0, 0, 0), (1796, (.iconst 1), 1, 0, 0, 0, 0), (1797, .ireturn, 1, 0, 0, 0, 0)]
def c0 : List (Nat × En) := c0_0 ++ (c0_1 ++ (c0_2 ++ (c0_3 ++ (c0_4 ++ (c0_5 ++ (c0_6 ++ (c0_7 ++ (c0_8 ++ (c0_9 ++ (c0_10 ++ (c0_11 ++ (c0_12 ++ (c0_13 ++ (c0_14 ++ (c0_15 ++ (c0_16 ++ (c0_17 ++ (c0_18 ++ (c0_19 ++ (c0_20 ++ (c0_21 ++ (c0_22 ++ (c0_23 ++ (c0_24 ++ (c0_25 ++ (c0_26))))))))))))))))))))))))))
def c1 : List (Nat × En) := [(0, (.aload_n 0), 1, 0, 0, 0, 0), (1, (.invokespecial 1), 3, 9001, 0, 2, 65), (4, (.aload_n 0), 1, 0, 0, 0, 0), (5, (.new 7), 3, 2, 14, 0, 68), (8, .dup, 1, 0, 0, 0, 0), (9, (.invokespecial 9), 3, 2, 0, 2, 70), (12, (.putfield 10), 3, 0, 0, 2, 297), (15, (.aload_n 0), 1, 0, 0, 0, 0), (16, (.new 16), 3, 7, 3, 0, 206), (19, .dup, 1, 0, 0, 0, 0), (20, (.invokespecial 18), 3, 7, 0, 6, 208), (23, (.putfield 19), 3, 0, 1, 2, 298), (26, (.aload_n 0), 1, 0, 0, 0, 0), (27, (.new 23), 3, 1, 3, 0, 223), (30, .dup, 1, 0, 0, 0, 0), (31, (.invokespecial 25), 3, 8, 0, 2, 225), (34, (.putfield 26), 3, 0, 2, 2, 299), (37, (.aload_n 0), 1, 0, 0, 0, 0), (38, (.new 30), 3, 6, 2, 0, 271), (41, .dup, 1, 0, 0, 0, 0), (42, (.invokespecial 32), 3, 4, 0, 6, 272), (45, (.putfield 33), 3, 0, 3, 2, 300), (48, (.aload_n 0), 1, 0, 0, 0, 0), (49, (.getfield 10), 3, 0, 0, 2, 297), (52, (.bipush 26), 2, 0, 0, 0, 0), (54, (.invokevirtual 37), 3, 10, 1, 1, 273), (57, .return_, 1, 0, 0, 0, 0)]
def c2_0 : List (Nat × En) := [(0, (.aload_n 0), 1, 0, 0, 0, 0), (1, (.invokespecial 3), 3, 9001, 0, 2, 73), (4, (.aload_n 0), 1, 0, 0, 0, 0), (5, (.bipush 8), 2, 0, 0, 0, 0), (7, (.anewarray 9), 3, 5, 75, 0, 74), (10, (.putfield 11), 3, 2, 0, 2, 151), (13, (.aload_n 0), 1, 0, 0, 0, 0), (14, (.bipush 6), 2, 0, 0, 0, 0), (16, (.newarray .int), 2, 0, 0, 0, 0), (18, (.putfield 17), 3, 2, 1, 2, 153), (21, (.aload_n 0), 1, 0, 0, 0, 0), (22, (.bipush 6), 2, 0, 0, 0, 0), (24, (.newarray .int), 2, 0, 0, 0, 0), (26, (.putfield 21), 3, 2, 2, 2, 154), (29, (.aload_n 0), 1, 0, 0, 0, 0), (30, (.bipush 12), 2, 0, 0, 0, 0), (32, (.anewarray 24), 3, 4, 77, 0, 76), (35, (.putfield 26), 3, 2, 3, 2, 155), (38, (.aload_n 0), 1, 0, 0, 0, 0), (39, (.bipush 27), 2, 0, 0, 0, 0), (41, (.newarray .int), 2, 0, 0, 0, 0), (43, (.putfield 30), 3, 2, 4, 2, 157), (46, (.aload_n 0), 1, 0, 0, 0, 0), (47, (.bipush 27), 2, 0, 0, 0, 0), (49, (.newarray .int), 2, 0, 0, 0, 0), (51, (.putfield 33), 3, 2, 5, 2, 159), (54, (.aload_n 0), 1, 0, 0, 0, 0), (55, (.new 36), 3, 4, 2, 0, 78), (58, .dup, 1, 0, 0, 0, 0), (59, (.invokespecial 38), 3, 3, 0, 6, 80), (62, (.putfield 39), 3, 2, 6, 2, 161), (65, (.aload_n 0), 1, 0, 0, 0, 0), (66, (.new 36), 3, 4, 2, 0, 78), (69, .dup, 1, 0, 0, 0, 0), (70, (.invokespecial 38), 3, 3, 0, 6, 80), (73, (.putfield 43), 3, 2, 7, 2, 163), (76, (.aload_n 0), 1, 0, 0, 0, 0), (77, (.new 46), 3, 6, 2, 0, 94), (80, .dup, 1, 0, 0, 0, 0), (81, (.invokespecial 48), 3, 4, 0, 6, 96)]
def c2_1 : List (Nat × En) := [(84, (.putfield 49), 3, 2, 8, 2, 165), (87, (.iconst 0), 1, 0, 0, 0, 0), (88, (.istore_n 1), 1, 0, 0, 0, 0), (89, (.iload_n 1), 1, 0, 0, 0, 0), (90, (.bipush 8), 2, 0, 0, 0, 0), (92, (.if_icmp .ge 22), 3, 114, 0, 0, 0), (95, (.aload_n 0), 1, 0, 0, 0, 0), (96, (.getfield 11), 3, 2, 0, 2, 151), (99, (.iload_n 1), 1, 0, 0, 0, 0), (100, (.new 9), 3, 8, 4, 0, 74), (103, .dup, 1, 0, 0, 0, 0), (104, (.invokespecial 53), 3, 5, 0, 6, 112), (107, .aastore, 1, 0, 0, 0, 0), (108, (.iinc 1 1), 3, 0, 0, 0, 0), (111, (.goto (-22)), 3, 89, 0, 0, 0), (114, (.iconst 0), 1, 0, 0, 0, 0), (115, (.istore_n 1), 1, 0, 0, 0, 0), (116, (.iload_n 1), 1, 0, 0, 0, 0), (117, (.bipush 12), 2, 0, 0, 0, 0), (119, (.if_icmp .ge 22), 3, 141, 0, 0, 0), (122, (.aload_n 0), 1, 0, 0, 0, 0), (123, (.getfield 26), 3, 2, 3, 2, 155), (126, (.iload_n 1), 1, 0, 0, 0, 0), (127, (.new 24), 3, 5, 2, 0, 76), (130, .dup, 1, 0, 0, 0, 0), (131, (.invokespecial 54), 3, 6, 0, 6, 136), (134, .aastore, 1, 0, 0, 0, 0), (135, (.iinc 1 1), 3, 0, 0, 0, 0), (138, (.goto (-22)), 3, 116, 0, 0, 0), (141, .return_, 1, 0, 0, 0, 0)]
def c2 : List (Nat × En) := c2_0 ++ (c2_1)
def c3 : List (Nat × En) := [(0, (.aload_n 0), 1, 0, 0, 0, 0), (1, (.invokespecial 3), 3, 9001, 0, 2, 83), (4, (.aload_n 0), 1, 0, 0, 0, 0), (5, (.bipush 32), 2, 0, 0, 0, 0), (7, (.newarray .int), 2, 0, 0, 0, 0), (9, (.putfield 9), 3, 4, 0, 2, 84), (12, .return_, 1, 0, 0, 0, 0)]
def c4 : List (Nat × En) := [(0, (.aload_n 0), 1, 0, 0, 0, 0), (1, (.invokespecial 3), 3, 9001, 0, 2, 99), (4, (.aload_n 0), 1, 0, 0, 0, 0), (5, (.bipush 6), 2, 0, 0, 0, 0), (7, (.newarray .int), 2, 0, 0, 0, 0), (9, (.putfield 9), 3, 6, 0, 2, 100), (12, (.aload_n 0), 1, 0, 0, 0, 0), (13, (.bipush 12), 2, 0, 0, 0, 0), (15, (.newarray .int), 2, 0, 0, 0, 0), (17, (.putfield 15), 3, 6, 1, 2, 103), (20, .return_, 1, 0, 0, 0, 0)]
def c5 : List (Nat × En) := [(0, (.aload_n 0), 1, 0, 0, 0, 0), (1, (.invokespecial 3), 3, 9001, 0, 2, 115), (4, (.aload_n 0), 1, 0, 0, 0, 0), (5, (.bipush 32), 2, 0, 0, 0, 0), (7, (.newarray .int), 2, 0, 0, 0, 0), (9, (.putfield 9), 3, 8, 0, 2, 116), (12, (.aload_n 0), 1, 0, 0, 0, 0), (13, (.bipush 32), 2, 0, 0, 0, 0), (15, (.newarray .int), 2, 0, 0, 0, 0), (17, (.putfield 15), 3, 8, 1, 2, 118), (20, (.aload_n 0), 1, 0, 0, 0, 0), (21, (.bipush 32), 2, 0, 0, 0, 0), (23, (.newarray .boolean), 2, 1, 0, 0, 0), (25, (.putfield 18), 3, 8, 2, 2, 120), (28, .return_, 1, 0, 0, 0, 0)]
def c6 : List (Nat × En) := [(0, (.aload_n 0), 1, 0, 0, 0, 0), (1, (.invokespecial 3), 3, 9001, 0, 2, 139), (4, (.aload_n 0), 1, 0, 0, 0, 0), (5, (.bipush 61), 2, 0, 0, 0, 0), (7, (.newarray .boolean), 2, 1, 0, 0, 0), (9, (.putfield 9), 3, 5, 0, 2, 140), (12, .return_, 1, 0, 0, 0, 0)]
def c7 : List (Nat × En) := [(0, (.aload_n 0), 1, 0, 0, 0, 0), (1, (.invokespecial 3), 3, 9001, 0, 2, 211), (4, (.aload_n 0), 1, 0, 0, 0, 0), (5, (.bipush 40), 2, 0, 0, 0, 0), (7, (.newarray .int), 2, 0, 0, 0, 0), (9, (.putfield 9), 3, 7, 0, 2, 212), (12, .return_, 1, 0, 0, 0, 0)]
def c8 : List (Nat × En) := [(0, (.aload_n 0), 1, 0, 0, 0, 0), (1, (.invokespecial 3), 3, 9001, 0, 2, 228), (4, (.aload_n 0), 1, 0, 0, 0, 0), (5, (.bipush 20), 2, 0, 0, 0, 0), (7, (.anewarray 9), 3, 3, 230, 0, 229), (10, (.putfield 11), 3, 1, 0, 2, 258), (13, (.iconst 0), 1, 0, 0, 0, 0), (14, (.istore_n 1), 1, 0, 0, 0, 0), (15, (.iload_n 1), 1, 0, 0, 0, 0), (16, (.bipush 20), 2, 0, 0, 0, 0), (18, (.if_icmp .ge 22), 3, 40, 0, 0, 0), (21, (.aload_n 0), 1, 0, 0, 0, 0), (22, (.getfield 11), 3, 1, 0, 2, 258), (25, (.iload_n 1), 1, 0, 0, 0, 0), (26, (.new 9), 3, 3, 4, 0, 229), (29, .dup, 1, 0, 0, 0, 0), (30, (.invokespecial 17), 3, 9, 0, 6, 232), (33, .aastore, 1, 0, 0, 0, 0), (34, (.iinc 1 1), 3, 0, 0, 0, 0), (37, (.goto (-22)), 3, 15, 0, 0, 0), (40, .return_, 1, 0, 0, 0, 0)]
def c9 : List (Nat × En) := [(0, (.aload_n 0), 1, 0, 0, 0, 0), (1, (.invokespecial 3), 3, 9001, 0, 2, 235), (4, (.aload_n 0), 1, 0, 0, 0, 0), (5, (.new 9), 3, 6, 2, 0, 236), (8, .dup, 1, 0, 0, 0, 0), (9, (.invokespecial 11), 3, 4, 0, 6, 237), (12, (.putfield 12), 3, 3, 0, 2, 238), (15, (.aload_n 0), 1, 0, 0, 0, 0), (16, (.bipush 60), 2, 0, 0, 0, 0), (18, (.newarray .int), 2, 0, 0, 0, 0), (20, (.putfield 18), 3, 3, 1, 2, 241), (23, (.aload_n 0), 1, 0, 0, 0, 0), (24, (.bipush 60), 2, 0, 0, 0, 0), (26, (.newarray .int), 2, 0, 0, 0, 0), (28, (.putfield 22), 3, 3, 2, 2, 244), (31, .return_, 1, 0, 0, 0, 0)]
def c10_0 : List (Nat × En) := [(0, (.iconst 0), 1, 0, 0, 0, 0), (1, (.istore_n 2), 1, 0, 0, 0, 0), (2, (.iload_n 2), 1, 0, 0, 0, 0), (3, (.bipush 8), 2, 0, 0, 0, 0), (5, (.if_icmp .ge 18), 3, 23, 0, 0, 0), (8, (.aload_n 0), 1, 0, 0, 0, 0), (9, (.getfield 11), 3, 2, 0, 2, 151), (12, (.iload_n 2), 1, 0, 0, 0, 0), (13, .aaload, 1, 0, 0, 0, 0), (14, (.invokevirtual 55), 3, 11, 0, 1, 277), (17, (.iinc 2 1), 3, 0, 0, 0, 0), (20, (.goto (-18)), 3, 2, 0, 0, 0), (23, (.iconst 0), 1, 0, 0, 0, 0), (24, (.istore_n 2), 1, 0, 0, 0, 0), (25, (.iload_n 2), 1, 0, 0, 0, 0), (26, (.bipush 12), 2, 0, 0, 0, 0), (28, (.if_icmp .ge 19), 3, 47, 0, 0, 0), (31, (.aload_n 0), 1, 0, 0, 0, 0), (32, (.getfield 26), 3, 2, 3, 2, 155), (35, (.iload_n 2), 1, 0, 0, 0, 0), (36, .aaload, 1, 0, 0, 0, 0), (37, (.iconst 0), 1, 0, 0, 0, 0), (38, (.invokevirtual 58), 3, 12, 1, 1, 281), (41, (.iinc 2 1), 3, 0, 0, 0, 0), (44, (.goto (-19)), 3, 25, 0, 0, 0), (47, (.aload_n 0), 1, 0, 0, 0, 0), (48, (.getfield 17), 3, 2, 1, 2, 153), (51, (.iconst (-1)), 1, 0, 0, 0, 0), (52, (.invokestatic 62), 3, 13, 2, 0, 285), (55, (.aload_n 0), 1, 0, 0, 0, 0), (56, (.getfield 30), 3, 2, 4, 2, 157), (59, (.iconst (-1)), 1, 0, 0, 0, 0), (60, (.invokestatic 62), 3, 13, 2, 0, 285), (63, (.aload_n 0), 1, 0, 0, 0, 0), (64, (.getfield 33), 3, 2, 5, 2, 159), (67, (.iconst (-1)), 1, 0, 0, 0, 0), (68, (.invokestatic 62), 3, 13, 2, 0, 285), (71, (.aload_n 0), 1, 0, 0, 0, 0), (72, (.getfield 39), 3, 2, 6, 2, 161), (75, (.invokevirtual 68), 3, 14, 0, 1, 288)]
def c10_1 : List (Nat × En) := [(78, (.aload_n 0), 1, 0, 0, 0, 0), (79, (.getfield 43), 3, 2, 7, 2, 163), (82, (.invokevirtual 68), 3, 14, 0, 1, 288), (85, (.aload_n 0), 1, 0, 0, 0, 0), (86, (.getfield 49), 3, 2, 8, 2, 165), (89, (.invokevirtual 69), 3, 15, 0, 1, 292), (92, (.aload_n 0), 1, 0, 0, 0, 0), (93, (.iload_n 1), 1, 0, 0, 0, 0), (94, (.putfield 70), 3, 2, 9, 0, 168), (97, (.aload_n 0), 1, 0, 0, 0, 0), (98, (.iconst 0), 1, 0, 0, 0, 0), (99, (.putfield 74), 3, 2, 10, 0, 169), (102, (.aload_n 0), 1, 0, 0, 0, 0), (103, (.iconst 0), 1, 0, 0, 0, 0), (104, (.putfield 77), 3, 2, 11, 0, 171), (107, (.aload_n 0), 1, 0, 0, 0, 0), (108, (.iconst 0), 1, 0, 0, 0, 0), (109, (.putfield 80), 3, 2, 12, 0, 173), (112, (.aload_n 0), 1, 0, 0, 0, 0), (113, (.iconst 0), 1, 0, 0, 0, 0), (114, (.putfield 83), 3, 2, 13, 1, 175), (117, .return_, 1, 0, 0, 0, 0)]
def c10 : List (Nat × En) := c10_0 ++ (c10_1)
def c11 : List (Nat × En) := [(0, (.iconst 0), 1, 0, 0, 0, 0), (1, (.istore_n 1), 1, 0, 0, 0, 0), (2, (.iload_n 1), 1, 0, 0, 0, 0), (3, (.bipush 32), 2, 0, 0, 0, 0), (5, (.if_icmp .ge 30), 3, 35, 0, 0, 0), (8, (.aload_n 0), 1, 0, 0, 0, 0), (9, (.getfield 9), 3, 8, 0, 2, 116), (12, (.iload_n 1), 1, 0, 0, 0, 0), (13, (.iload_n 1), 1, 0, 0, 0, 0), (14, .iastore, 1, 0, 0, 0, 0), (15, (.aload_n 0), 1, 0, 0, 0, 0), (16, (.getfield 15), 3, 8, 1, 2, 118), (19, (.iload_n 1), 1, 0, 0, 0, 0), (20, (.iload_n 1), 1, 0, 0, 0, 0), (21, .iastore, 1, 0, 0, 0, 0), (22, (.aload_n 0), 1, 0, 0, 0, 0), (23, (.getfield 18), 3, 8, 2, 2, 120), (26, (.iload_n 1), 1, 0, 0, 0, 0), (27, (.iconst 0), 1, 0, 0, 0, 0), (28, .bastore, 1, 0, 0, 0, 0), (29, (.iinc 1 1), 3, 0, 0, 0, 0), (32, (.goto (-30)), 3, 2, 0, 0, 0), (35, (.aload_n 0), 1, 0, 0, 0, 0), (36, (.iconst 0), 1, 0, 0, 0, 0), (37, (.putfield 22), 3, 8, 3, 0, 123), (40, .return_, 1, 0, 0, 0, 0)]
def c12 : List (Nat × En) := [(0, (.iconst 0), 1, 0, 0, 0, 0), (1, (.istore_n 2), 1, 0, 0, 0, 0), (2, (.iload_n 2), 1, 0, 0, 0, 0), (3, (.bipush 61), 2, 0, 0, 0, 0), (5, (.if_icmp .ge 16), 3, 21, 0, 0, 0), (8, (.aload_n 0), 1, 0, 0, 0, 0), (9, (.getfield 9), 3, 5, 0, 2, 140), (12, (.iload_n 2), 1, 0, 0, 0, 0), (13, (.iconst 0), 1, 0, 0, 0, 0), (14, .bastore, 1, 0, 0, 0, 0), (15, (.iinc 2 1), 3, 0, 0, 0, 0), (18, (.goto (-16)), 3, 2, 0, 0, 0), (21, (.aload_n 0), 1, 0, 0, 0, 0), (22, (.iload_n 1), 1, 0, 0, 0, 0), (23, (.putfield 15), 3, 5, 1, 0, 143), (26, .return_, 1, 0, 0, 0, 0)]
def c13 : List (Nat × En) := [(0, (.iconst 0), 1, 0, 0, 0, 0), (1, (.istore_n 2), 1, 0, 0, 0, 0), (2, (.aload_n 0), 1, 0, 0, 0, 0), (3, .arraylength, 1, 0, 0, 0, 0), (4, (.istore_n 3), 1, 0, 0, 0, 0), (5, (.iload_n 2), 1, 0, 0, 0, 0), (6, (.iload_n 3), 1, 0, 0, 0, 0), (7, (.if_icmp .ge 13), 3, 20, 0, 0, 0), (10, (.aload_n 0), 1, 0, 0, 0, 0), (11, (.iload_n 2), 1, 0, 0, 0, 0), (12, (.iload_n 1), 1, 0, 0, 0, 0), (13, .iastore, 1, 0, 0, 0, 0), (14, (.iinc 2 1), 3, 0, 0, 0, 0), (17, (.goto (-12)), 3, 5, 0, 0, 0), (20, .return_, 1, 0, 0, 0, 0)]
def c14 : List (Nat × En) := [(0, (.iconst 0), 1, 0, 0, 0, 0), (1, (.istore_n 1), 1, 0, 0, 0, 0), (2, (.iload_n 1), 1, 0, 0, 0, 0), (3, (.bipush 32), 2, 0, 0, 0, 0), (5, (.if_icmp .ge 16), 3, 21, 0, 0, 0), (8, (.aload_n 0), 1, 0, 0, 0, 0), (9, (.getfield 9), 3, 4, 0, 2, 84), (12, (.iload_n 1), 1, 0, 0, 0, 0), (13, (.iload_n 1), 1, 0, 0, 0, 0), (14, .iastore, 1, 0, 0, 0, 0), (15, (.iinc 1 1), 3, 0, 0, 0, 0), (18, (.goto (-16)), 3, 2, 0, 0, 0), (21, (.aload_n 0), 1, 0, 0, 0, 0), (22, (.iconst 0), 1, 0, 0, 0, 0), (23, (.putfield 15), 3, 4, 1, 0, 86), (26, .return_, 1, 0, 0, 0, 0)]
def c15 : List (Nat × En) := [(0, (.aload_n 0), 1, 0, 0, 0, 0), (1, (.getfield 9), 3, 6, 0, 2, 100), (4, (.iconst 0), 1, 0, 0, 0, 0), (5, (.invokestatic 18), 3, 13, 2, 0, 296), (8, (.aload_n 0), 1, 0, 0, 0, 0), (9, (.getfield 15), 3, 6, 1, 2, 103), (12, (.iconst 0), 1, 0, 0, 0, 0), (13, (.invokestatic 18), 3, 13, 2, 0, 296), (16, .return_, 1, 0, 0, 0, 0)]
def c16 : List (Nat × En) := [(0, (.iconst 0), 1, 0, 0, 0, 0), (1, (.istore_n 1), 1, 0, 0, 0, 0), (2, (.iconst 0), 1, 0, 0, 0, 0), (3, (.istore_n 2), 1, 0, 0, 0, 0), (4, (.iload_n 2), 1, 0, 0, 0, 0), (5, (.aload_n 0), 1, 0, 0, 0, 0), (6, (.getfield 10), 3, 0, 0, 2, 297), (9, (.getfield 51), 3, 2, 9, 0, 167), (12, (.if_icmp .ge 24), 3, 36, 0, 0, 0), (15, (.aload_n 0), 1, 0, 0, 0, 0), (16, (.getfield 10), 3, 0, 0, 2, 297), (19, (.iload_n 2), 1, 0, 0, 0, 0), (20, (.invokevirtual 179), 3, 17, 1, 1, 314), (23, (.iload_n 2), 1, 0, 0, 0, 0), (24, (.if_icmp .ne 6), 3, 30, 0, 0, 0), (27, (.iinc 1 1), 3, 0, 0, 0, 0), (30, (.iinc 2 1), 3, 0, 0, 0, 0), (33, (.goto (-29)), 3, 4, 0, 0, 0), (36, (.iload_n 1), 1, 0, 0, 0, 0), (37, .ireturn, 1, 0, 0, 0, 0)]
def c17 : List (Nat × En) := [(0, (.aload_n 0), 1, 0, 0, 0, 0), (1, (.getfield 39), 3, 2, 6, 2, 161), (4, (.getfield 128), 3, 4, 0, 2, 85), (7, (.aload_n 0), 1, 0, 0, 0, 0), (8, (.aload_n 0), 1, 0, 0, 0, 0), (9, (.getfield 39), 3, 2, 6, 2, 161), (12, (.getfield 128), 3, 4, 0, 2, 85), (15, (.iload_n 1), 1, 0, 0, 0, 0), (16, .iaload, 1, 0, 0, 0, 0), (17, (.invokevirtual 131), 3, 18, 1, 1, 318), (20, .iaload, 1, 0, 0, 0, 0), (21, .ireturn, 1, 0, 0, 0, 0)]
def c18 : List (Nat × En) := [(0, (.aload_n 0), 1, 0, 0, 0, 0), (1, (.getfield 80), 3, 2, 12, 0, 173), (4, (.lookupswitch 80 #[(0, 28), (1, 61)]), 28, 0, 0, 0, 0), (32, (.aload_n 0), 1, 0, 0, 0, 0), (33, (.getfield 83), 3, 2, 13, 1, 175), (36, (.ifCond .eq 23), 3, 59, 0, 0, 0), (39, (.aload_n 0), 1, 0, 0, 0, 0), (40, (.aload_n 0), 1, 0, 0, 0, 0), (41, (.getfield 43), 3, 2, 7, 2, 163), (44, (.getfield 128), 3, 4, 0, 2, 85), (47, (.aload_n 0), 1, 0, 0, 0, 0), (48, (.iload_n 1), 1, 0, 0, 0, 0), (49, (.invokevirtual 138), 3, 19, 1, 1, 322), (52, .iaload, 1, 0, 0, 0, 0), (53, (.invokevirtual 135), 3, 22, 1, 1, 333), (56, (.goto 8), 3, 64, 0, 0, 0), (59, (.aload_n 0), 1, 0, 0, 0, 0), (60, (.iload_n 1), 1, 0, 0, 0, 0), (61, (.invokevirtual 138), 3, 19, 1, 1, 322), (64, .ireturn, 1, 0, 0, 0, 0), (65, (.aload_n 0), 1, 0, 0, 0, 0), (66, (.getfield 70), 3, 2, 9, 0, 168), (69, (.bipush 32), 2, 0, 0, 0, 0), (71, (.if_icmp .ne 11), 3, 82, 0, 0, 0), (74, (.aload_n 0), 1, 0, 0, 0, 0), (75, (.iload_n 1), 1, 0, 0, 0, 0), (76, (.invokevirtual 141), 3, 23, 1, 1, 337), (79, (.goto 4), 3, 83, 0, 0, 0), (82, (.iload_n 1), 1, 0, 0, 0, 0), (83, .ireturn, 1, 0, 0, 0, 0), (84, (.aload_n 0), 1, 0, 0, 0, 0), (85, (.invokevirtual 144), 3, 25, 0, 1, 345), (88, (.iload_n 1), 1, 0, 0, 0, 0), (89, .isub, 1, 0, 0, 0, 0), (90, (.aload_n 0), 1, 0, 0, 0, 0), (91, (.getfield 70), 3, 2, 9, 0, 168), (94, (.invokestatic 101), 3, 21, 2, 4, 353), (97, .ireturn, 1, 0, 0, 0, 0)]
def c19 : List (Nat × En) := [(0, (.iload_n 1), 1, 0, 0, 0, 0), (1, (.istore_n 2), 1, 0, 0, 0, 0), (2, (.iconst 0), 1, 0, 0, 0, 0), (3, (.istore_n 3), 1, 0, 0, 0, 0), (4, (.iload_n 3), 1, 0, 0, 0, 0), (5, (.aload_n 0), 1, 0, 0, 0, 0), (6, (.getfield 74), 3, 2, 10, 0, 169), (9, (.if_icmp .ge 57), 3, 66, 0, 0, 0), (12, (.aload_n 0), 1, 0, 0, 0, 0), (13, (.getfield 11), 3, 2, 0, 2, 151), (16, (.aload_n 0), 1, 0, 0, 0, 0), (17, (.getfield 17), 3, 2, 1, 2, 153), (20, (.aload_n 0), 1, 0, 0, 0, 0), (21, (.getfield 21), 3, 2, 2, 2, 154), (24, (.iload_n 3), 1, 0, 0, 0, 0), (25, .iaload, 1, 0, 0, 0, 0), (26, .iaload, 1, 0, 0, 0, 0), (27, .aaload, 1, 0, 0, 0, 0), (28, (.astore 4), 2, 0, 0, 0, 0), (30, (.aload 4), 2, 0, 0, 0, 0), (32, (.aload 4), 2, 0, 0, 0, 0), (34, (.getfield 148), 3, 8, 0, 2, 117), (37, (.iload_n 2), 1, 0, 0, 0, 0), (38, (.aload_n 0), 1, 0, 0, 0, 0), (39, (.getfield 49), 3, 2, 8, 2, 165), (42, (.getfield 98), 3, 6, 0, 2, 101), (45, (.aload_n 0), 1, 0, 0, 0, 0), (46, (.getfield 21), 3, 2, 2, 2, 154), (49, (.iload_n 3), 1, 0, 0, 0, 0), (50, .iaload, 1, 0, 0, 0, 0), (51, .iaload, 1, 0, 0, 0, 0), (52, (.aload_n 0), 1, 0, 0, 0, 0), (53, (.getfield 70), 3, 2, 9, 0, 168), (56, (.invokevirtual 151), 3, 20, 4, 1, 326), (59, (.istore_n 2), 1, 0, 0, 0, 0), (60, (.iinc 3 1), 3, 0, 0, 0, 0), (63, (.goto (-59)), 3, 4, 0, 0, 0), (66, (.iload_n 2), 1, 0, 0, 0, 0), (67, .ireturn, 1, 0, 0, 0, 0)]
def c20 : List (Nat × En) := [(0, (.iload_n 3), 1, 0, 0, 0, 0), (1, (.aload_n 0), 1, 0, 0, 0, 0), (2, (.getfield 22), 3, 8, 3, 0, 123), (5, .isub, 1, 0, 0, 0, 0), (6, (.istore 5), 2, 0, 0, 0, 0), (8, (.aload_n 1), 1, 0, 0, 0, 0), (9, (.iload_n 2), 1, 0, 0, 0, 0), (10, (.iload 5), 2, 0, 0, 0, 0), (12, .iadd, 1, 0, 0, 0, 0), (13, (.iload 4), 2, 0, 0, 0, 0), (15, (.invokestatic 30), 3, 21, 2, 4, 330), (18, .iaload, 1, 0, 0, 0, 0), (19, (.iload 5), 2, 0, 0, 0, 0), (21, .isub, 1, 0, 0, 0, 0), (22, (.iload 4), 2, 0, 0, 0, 0), (24, (.invokestatic 30), 3, 21, 2, 4, 330), (27, .ireturn, 1, 0, 0, 0, 0)]
def c21 : List (Nat × En) := [(0, (.iload_n 0), 1, 0, 0, 0, 0), (1, (.ifCond .ge 7), 3, 8, 0, 0, 0), (4, (.iload_n 0), 1, 0, 0, 0, 0), (5, (.iload_n 1), 1, 0, 0, 0, 0), (6, .iadd, 1, 0, 0, 0, 0), (7, .ireturn, 1, 0, 0, 0, 0), (8, (.iload_n 0), 1, 0, 0, 0, 0), (9, (.iload_n 1), 1, 0, 0, 0, 0), (10, (.if_icmp .lt 9), 3, 19, 0, 0, 0), (13, (.iload_n 0), 1, 0, 0, 0, 0), (14, (.iload_n 1), 1, 0, 0, 0, 0), (15, .isub, 1, 0, 0, 0, 0), (16, (.goto 4), 3, 20, 0, 0, 0), (19, (.iload_n 0), 1, 0, 0, 0, 0), (20, .ireturn, 1, 0, 0, 0, 0)]
def c22 : List (Nat × En) := [(0, (.iload_n 1), 1, 0, 0, 0, 0), (1, (.istore_n 2), 1, 0, 0, 0, 0), (2, (.aload_n 0), 1, 0, 0, 0, 0), (3, (.getfield 74), 3, 2, 10, 0, 169), (6, (.iconst 1), 1, 0, 0, 0, 0), (7, .isub, 1, 0, 0, 0, 0), (8, (.istore_n 3), 1, 0, 0, 0, 0), (9, (.iload_n 3), 1, 0, 0, 0, 0), (10, (.ifCond .lt 57), 3, 67, 0, 0, 0), (13, (.aload_n 0), 1, 0, 0, 0, 0), (14, (.getfield 11), 3, 2, 0, 2, 151), (17, (.aload_n 0), 1, 0, 0, 0, 0), (18, (.getfield 17), 3, 2, 1, 2, 153), (21, (.aload_n 0), 1, 0, 0, 0, 0), (22, (.getfield 21), 3, 2, 2, 2, 154), (25, (.iload_n 3), 1, 0, 0, 0, 0), (26, .iaload, 1, 0, 0, 0, 0), (27, .iaload, 1, 0, 0, 0, 0), (28, .aaload, 1, 0, 0, 0, 0), (29, (.astore 4), 2, 0, 0, 0, 0), (31, (.aload 4), 2, 0, 0, 0, 0), (33, (.aload 4), 2, 0, 0, 0, 0), (35, (.getfield 155), 3, 8, 1, 2, 119), (38, (.iload_n 2), 1, 0, 0, 0, 0), (39, (.aload_n 0), 1, 0, 0, 0, 0), (40, (.getfield 49), 3, 2, 8, 2, 165), (43, (.getfield 98), 3, 6, 0, 2, 101), (46, (.aload_n 0), 1, 0, 0, 0, 0), (47, (.getfield 21), 3, 2, 2, 2, 154), (50, (.iload_n 3), 1, 0, 0, 0, 0), (51, .iaload, 1, 0, 0, 0, 0), (52, .iaload, 1, 0, 0, 0, 0), (53, (.aload_n 0), 1, 0, 0, 0, 0), (54, (.getfield 70), 3, 2, 9, 0, 168), (57, (.invokevirtual 151), 3, 20, 4, 1, 326), (60, (.istore_n 2), 1, 0, 0, 0, 0), (61, (.iinc 3 (-1)), 3, 0, 0, 0, 0), (64, (.goto (-55)), 3, 9, 0, 0, 0), (67, (.iload_n 2), 1, 0, 0, 0, 0), (68, .ireturn, 1, 0, 0, 0, 0)]
def c23 : List (Nat × En) := [(0, (.iload_n 1), 1, 0, 0, 0, 0), (1, (.istore_n 2), 1, 0, 0, 0, 0), (2, (.iconst 0), 1, 0, 0, 0, 0), (3, (.istore_n 3), 1, 0, 0, 0, 0), (4, (.iload_n 3), 1, 0, 0, 0, 0), (5, (.iconst 5), 1, 0, 0, 0, 0), (6, (.if_icmp .ge 30), 3, 36, 0, 0, 0), (9, (.aload_n 0), 1, 0, 0, 0, 0), (10, (.iload_n 3), 1, 0, 0, 0, 0), (11, (.invokevirtual 114), 3, 24, 1, 1, 341), (14, (.aload_n 0), 1, 0, 0, 0, 0), (15, (.iload_n 3), 1, 0, 0, 0, 0), (16, (.iconst 5), 1, 0, 0, 0, 0), (17, .iadd, 1, 0, 0, 0, 0), (18, (.invokevirtual 114), 3, 24, 1, 1, 341), (21, (.if_icmp .eq 9), 3, 30, 0, 0, 0), (24, (.iload_n 2), 1, 0, 0, 0, 0), (25, (.iconst 1), 1, 0, 0, 0, 0), (26, (.iload_n 3), 1, 0, 0, 0, 0), (27, .ishl, 1, 0, 0, 0, 0), (28, .ixor, 1, 0, 0, 0, 0), (29, (.istore_n 2), 1, 0, 0, 0, 0), (30, (.iinc 3 1), 3, 0, 0, 0, 0), (33, (.goto (-29)), 3, 4, 0, 0, 0), (36, (.iload_n 2), 1, 0, 0, 0, 0), (37, .ireturn, 1, 0, 0, 0, 0)]
def c24 : List (Nat × En) := [(0, (.aload_n 0), 1, 0, 0, 0, 0), (1, (.getfield 26), 3, 2, 3, 2, 155), (4, (.iload_n 1), 1, 0, 0, 0, 0), (5, .aaload, 1, 0, 0, 0, 0), (6, (.astore_n 2), 1, 0, 0, 0, 0), (7, (.aload_n 0), 1, 0, 0, 0, 0), (8, (.getfield 49), 3, 2, 8, 2, 165), (11, (.getfield 105), 3, 6, 1, 2, 104), (14, (.iload_n 1), 1, 0, 0, 0, 0), (15, .iaload, 1, 0, 0, 0, 0), (16, (.istore_n 3), 1, 0, 0, 0, 0), (17, (.iload_n 3), 1, 0, 0, 0, 0), (18, (.aload_n 2), 1, 0, 0, 0, 0), (19, (.getfield 87), 3, 5, 1, 0, 144), (22, (.if_icmp .ge 16), 3, 38, 0, 0, 0), (25, (.aload_n 2), 1, 0, 0, 0, 0), (26, (.getfield 121), 3, 5, 0, 2, 142), (29, (.iload_n 3), 1, 0, 0, 0, 0), (30, .baload, 1, 0, 0, 0, 0), (31, (.ifCond .eq 7), 3, 38, 0, 0, 0), (34, (.iconst 1), 1, 0, 0, 0, 0), (35, (.goto 4), 3, 39, 0, 0, 0), (38, (.iconst 0), 1, 0, 0, 0, 0), (39, .ireturn, 1, 0, 0, 0, 0)]
def c25 : List (Nat × En) := [(0, (.iconst 0), 1, 0, 0, 0, 0), (1, (.istore_n 1), 1, 0, 0, 0, 0), (2, (.iconst 0), 1, 0, 0, 0, 0), (3, (.istore_n 2), 1, 0, 0, 0, 0), (4, (.iload_n 2), 1, 0, 0, 0, 0), (5, (.bipush 27), 2, 0, 0, 0, 0), (7, (.if_icmp .ge 46), 3, 53, 0, 0, 0), (10, (.aload_n 0), 1, 0, 0, 0, 0), (11, (.aload_n 0), 1, 0, 0, 0, 0), (12, (.getfield 30), 3, 2, 4, 2, 157), (15, (.iload_n 2), 1, 0, 0, 0, 0), (16, .iaload, 1, 0, 0, 0, 0), (17, (.invokevirtual 158), 3, 26, 1, 1, 349), (20, (.ifCond .ne 16), 3, 36, 0, 0, 0), (23, (.aload_n 0), 1, 0, 0, 0, 0), (24, (.aload_n 0), 1, 0, 0, 0, 0), (25, (.getfield 33), 3, 2, 5, 2, 159), (28, (.iload_n 2), 1, 0, 0, 0, 0), (29, .iaload, 1, 0, 0, 0, 0), (30, (.invokevirtual 158), 3, 26, 1, 1, 349), (33, (.ifCond .eq 14), 3, 47, 0, 0, 0), (36, (.iload_n 1), 1, 0, 0, 0, 0), (37, (.iconst 1), 1, 0, 0, 0, 0), (38, .iadd, 1, 0, 0, 0, 0), (39, (.aload_n 0), 1, 0, 0, 0, 0), (40, (.getfield 70), 3, 2, 9, 0, 168), (43, (.invokestatic 101), 3, 21, 2, 4, 353), (46, (.istore_n 1), 1, 0, 0, 0, 0), (47, (.iinc 2 1), 3, 0, 0, 0, 0), (50, (.goto (-46)), 3, 4, 0, 0, 0), (53, (.iload_n 1), 1, 0, 0, 0, 0), (54, .ireturn, 1, 0, 0, 0, 0)]
def c26 : List (Nat × En) := [(0, (.iload_n 1), 1, 0, 0, 0, 0), (1, (.iconst (-1)), 1, 0, 0, 0, 0), (2, (.if_icmp .eq 15), 3, 17, 0, 0, 0), (5, (.aload_n 0), 1, 0, 0, 0, 0), (6, (.iload_n 1), 1, 0, 0, 0, 0), (7, (.invokevirtual 114), 3, 24, 1, 1, 341), (10, (.ifCond .eq 7), 3, 17, 0, 0, 0), (13, (.iconst 1), 1, 0, 0, 0, 0), (14, (.goto 4), 3, 18, 0, 0, 0), (17, (.iconst 0), 1, 0, 0, 0, 0), (18, .ireturn, 1, 0, 0, 0, 0)]
def c27 : List (Nat × En) := [(0, (.aload_n 2), 1, 0, 0, 0, 0), (1, (.iconst 0), 1, 0, 0, 0, 0), (2, (.aload_n 0), 1, 0, 0, 0, 0), (3, (.iload_n 1), 1, 0, 0, 0, 0), (4, (.invokevirtual 7), 3, 28, 1, 1, 359), (7, .i2l, 1, 0, 0, 0, 0), (8, .lastore, 1, 0, 0, 0, 0), (9, (.goto 9), 3, 18, 0, 0, 0), (12, (.astore_n 3), 1, 0, 0, 0, 0), (13, (.iconst 1), 1, 0, 0, 0, 0), (14, .ireturn, 1, 0, 0, 0, 0), (15, (.astore_n 3), 1, 0, 0, 0, 0), (16, (.iconst 2), 1, 0, 0, 0, 0), (17, .ireturn, 1, 0, 0, 0, 0), (18, (.iconst 0), 1, 0, 0, 0, 0), (19, .ireturn, 1, 0, 0, 0, 0)]
def c28 : List (Nat × En) := [(0, (.iload_n 1), 1, 0, 0, 0, 0), (1, (.bipush 10), 2, 0, 0, 0, 0), (3, (.if_icmp .eq 25), 3, 28, 0, 0, 0), (6, (.iload_n 1), 1, 0, 0, 0, 0), (7, (.bipush 26), 2, 0, 0, 0, 0), (9, (.if_icmp .eq 19), 3, 28, 0, 0, 0), (12, (.iload_n 1), 1, 0, 0, 0, 0), (13, (.bipush 32), 2, 0, 0, 0, 0), (15, (.if_icmp .eq 13), 3, 28, 0, 0, 0), (18, (.new 41), 3, 900, 404, 405, 363), (21, .dup, 1, 0, 0, 0, 0), (22, (.ldc 43), 2, 0, 0, 0, 0), (24, (.invokespecial 45), 3, 9009, 1, 2, 405), (27, .athrow, 1, 0, 0, 0, 0), (28, (.aload_n 0), 1, 0, 0, 0, 0), (29, (.invokevirtual 48), 3, 29, 0, 1, 431), (32, (.aload_n 0), 1, 0, 0, 0, 0), (33, (.getfield 10), 3, 0, 0, 2, 297), (36, (.getfield 51), 3, 2, 9, 0, 167), (39, (.istore_n 2), 1, 0, 0, 0, 0), (40, (.aload_n 0), 1, 0, 0, 0, 0), (41, (.getfield 10), 3, 0, 0, 2, 297), (44, (.iload_n 1), 1, 0, 0, 0, 0), (45, (.invokevirtual 37), 3, 10, 1, 1, 273), (48, (.aload_n 0), 1, 0, 0, 0, 0), (49, (.getfield 19), 3, 0, 1, 2, 298), (52, (.invokevirtual 55), 3, 30, 0, 1, 451), (55, (.aload_n 0), 1, 0, 0, 0, 0), (56, (.getfield 26), 3, 0, 2, 2, 299), (59, (.invokevirtual 57), 3, 31, 0, 1, 455), (62, (.iload_n 2), 1, 0, 0, 0, 0), (63, .ireturn, 1, 0, 0, 0, 0)]
def c29 : List (Nat × En) := [(0, (.aload_n 0), 1, 0, 0, 0, 0), (1, (.getfield 26), 3, 0, 2, 2, 299), (4, (.getfield 214), 3, 1, 2, 1, 263), (7, (.ifCond .eq 14), 3, 21, 0, 0, 0), (10, (.new 90), 3, 901, 444, 445, 435), (13, .dup, 1, 0, 0, 0, 0), (14, (.ldc_w 273), 3, 0, 0, 0, 0), (17, (.invokespecial 94), 3, 9009, 1, 2, 445), (20, .athrow, 1, 0, 0, 0, 0), (21, .return_, 1, 0, 0, 0, 0)]
def c30 : List (Nat × En) := [(0, (.aload_n 0), 1, 0, 0, 0, 0), (1, (.iconst 0), 1, 0, 0, 0, 0), (2, (.putfield 15), 3, 7, 2, 0, 214), (5, .return_, 1, 0, 0, 0, 0)]
def c31 : List (Nat × En) := [(0, (.aload_n 0), 1, 0, 0, 0, 0), (1, (.iconst 0), 1, 0, 0, 0, 0), (2, (.putfield 18), 3, 1, 1, 0, 260), (5, .return_, 1, 0, 0, 0, 0)]
def c32 : List (Nat × En) := [(0, (.aload 4), 2, 0, 0, 0, 0), (2, (.iconst 0), 1, 0, 0, 0, 0), (3, (.aload_n 0), 1, 0, 0, 0, 0), (4, (.iload_n 1), 1, 0, 0, 0, 0), (5, (.iload_n 2), 1, 0, 0, 0, 0), (6, (.iload_n 3), 1, 0, 0, 0, 0), (7, (.invokevirtual 17), 3, 33, 3, 1, 463), (10, .i2l, 1, 0, 0, 0, 0), (11, .lastore, 1, 0, 0, 0, 0), (12, (.goto 11), 3, 23, 0, 0, 0), (15, (.astore 5), 2, 0, 0, 0, 0), (17, (.iconst 1), 1, 0, 0, 0, 0), (18, .ireturn, 1, 0, 0, 0, 0), (19, (.astore 5), 2, 0, 0, 0, 0), (21, (.iconst 2), 1, 0, 0, 0, 0), (22, .ireturn, 1, 0, 0, 0, 0), (23, (.iconst 0), 1, 0, 0, 0, 0), (24, .ireturn, 1, 0, 0, 0, 0)]
def c33 : List (Nat × En) := [(0, (.iload_n 1), 1, 0, 0, 0, 0), (1, (.bipush 8), 2, 0, 0, 0, 0), (3, (.invokestatic 58), 3, 34, 2, 0, 467), (6, (.iload_n 2), 1, 0, 0, 0, 0), (7, (.aload_n 0), 1, 0, 0, 0, 0), (8, (.getfield 10), 3, 0, 0, 2, 297), (11, (.getfield 51), 3, 2, 9, 0, 167), (14, (.invokestatic 58), 3, 34, 2, 0, 467), (17, (.iload_n 3), 1, 0, 0, 0, 0), (18, (.aload_n 0), 1, 0, 0, 0, 0), (19, (.getfield 10), 3, 0, 0, 2, 297), (22, (.getfield 51), 3, 2, 9, 0, 167), (25, (.invokestatic 58), 3, 34, 2, 0, 467), (28, (.aload_n 0), 1, 0, 0, 0, 0), (29, (.invokevirtual 48), 3, 29, 0, 1, 431), (32, (.aload_n 0), 1, 0, 0, 0, 0), (33, (.getfield 10), 3, 0, 0, 2, 297), (36, (.getfield 62), 3, 2, 0, 2, 152), (39, (.iload_n 1), 1, 0, 0, 0, 0), (40, .aaload, 1, 0, 0, 0, 0), (41, (.iload_n 2), 1, 0, 0, 0, 0), (42, (.iload_n 3), 1, 0, 0, 0, 0), (43, (.invokevirtual 66), 3, 35, 2, 1, 486), (46, .ireturn, 1, 0, 0, 0, 0)]
def c34 : List (Nat × En) := [(0, (.iload_n 0), 1, 0, 0, 0, 0), (1, (.ifCond .lt 8), 3, 9, 0, 0, 0), (4, (.iload_n 0), 1, 0, 0, 0, 0), (5, (.iload_n 1), 1, 0, 0, 0, 0), (6, (.if_icmp .lt 14), 3, 20, 0, 0, 0), (9, (.new 268), 3, 902, 479, 480, 470), (12, .dup, 1, 0, 0, 0, 0), (13, (.ldc_w 270), 3, 0, 0, 0, 0), (16, (.invokespecial 272), 3, 9009, 1, 2, 480), (19, .athrow, 1, 0, 0, 0, 0), (20, .return_, 1, 0, 0, 0, 0)]
def c35 : List (Nat × En) := [(0, (.aload_n 0), 1, 0, 0, 0, 0), (1, (.getfield 15), 3, 8, 1, 2, 118), (4, (.iload_n 2), 1, 0, 0, 0, 0), (5, .iaload, 1, 0, 0, 0, 0), (6, (.istore_n 3), 1, 0, 0, 0, 0), (7, (.aload_n 0), 1, 0, 0, 0, 0), (8, (.getfield 9), 3, 8, 0, 2, 116), (11, (.iload_n 1), 1, 0, 0, 0, 0), (12, .iaload, 1, 0, 0, 0, 0), (13, (.istore 4), 2, 0, 0, 0, 0), (15, (.aload_n 0), 1, 0, 0, 0, 0), (16, (.iload_n 3), 1, 0, 0, 0, 0), (17, (.iload 4), 2, 0, 0, 0, 0), (19, (.invokevirtual 26), 3, 36, 2, 1, 490), (22, (.aload_n 0), 1, 0, 0, 0, 0), (23, (.iload_n 1), 1, 0, 0, 0, 0), (24, (.iload_n 2), 1, 0, 0, 0, 0), (25, (.invokevirtual 26), 3, 36, 2, 1, 490), (28, (.iload_n 3), 1, 0, 0, 0, 0), (29, .ireturn, 1, 0, 0, 0, 0)]
def c36 : List (Nat × En) := [(0, (.aload_n 0), 1, 0, 0, 0, 0), (1, (.getfield 9), 3, 8, 0, 2, 116), (4, (.iload_n 1), 1, 0, 0, 0, 0), (5, (.iload_n 2), 1, 0, 0, 0, 0), (6, .iastore, 1, 0, 0, 0, 0), (7, (.aload_n 0), 1, 0, 0, 0, 0), (8, (.getfield 15), 3, 8, 1, 2, 118), (11, (.iload_n 2), 1, 0, 0, 0, 0), (12, (.iload_n 1), 1, 0, 0, 0, 0), (13, .iastore, 1, 0, 0, 0, 0), (14, .return_, 1, 0, 0, 0, 0)]
def c37 : List (Nat × En) := [(0, (.aload_n 3), 1, 0, 0, 0, 0), (1, (.iconst 0), 1, 0, 0, 0, 0), (2, (.aload_n 0), 1, 0, 0, 0, 0), (3, (.iload_n 1), 1, 0, 0, 0, 0), (4, (.iload_n 2), 1, 0, 0, 0, 0), (5, (.invokevirtual 23), 3, 38, 2, 1, 497), (8, .i2l, 1, 0, 0, 0, 0), (9, .lastore, 1, 0, 0, 0, 0), (10, (.goto 11), 3, 21, 0, 0, 0), (13, (.astore 4), 2, 0, 0, 0, 0), (15, (.iconst 1), 1, 0, 0, 0, 0), (16, .ireturn, 1, 0, 0, 0, 0), (17, (.astore 4), 2, 0, 0, 0, 0), (19, (.iconst 2), 1, 0, 0, 0, 0), (20, .ireturn, 1, 0, 0, 0, 0), (21, (.iconst 0), 1, 0, 0, 0, 0), (22, .ireturn, 1, 0, 0, 0, 0)]
def c38 : List (Nat × En) := [(0, (.iload_n 1), 1, 0, 0, 0, 0), (1, (.bipush 8), 2, 0, 0, 0, 0), (3, (.invokestatic 58), 3, 34, 2, 0, 467), (6, (.iload_n 2), 1, 0, 0, 0, 0), (7, (.aload_n 0), 1, 0, 0, 0, 0), (8, (.getfield 10), 3, 0, 0, 2, 297), (11, (.getfield 51), 3, 2, 9, 0, 167), (14, (.invokestatic 58), 3, 34, 2, 0, 467), (17, (.aload_n 0), 1, 0, 0, 0, 0), (18, (.invokevirtual 48), 3, 29, 0, 1, 431), (21, (.aload_n 0), 1, 0, 0, 0, 0), (22, (.getfield 10), 3, 0, 0, 2, 297), (25, (.getfield 62), 3, 2, 0, 2, 152), (28, (.iload_n 1), 1, 0, 0, 0, 0), (29, .aaload, 1, 0, 0, 0, 0), (30, (.getfield 72), 3, 8, 3, 0, 124), (33, (.istore_n 3), 1, 0, 0, 0, 0), (34, (.aload_n 0), 1, 0, 0, 0, 0), (35, (.getfield 10), 3, 0, 0, 2, 297), (38, (.getfield 62), 3, 2, 0, 2, 152), (41, (.iload_n 1), 1, 0, 0, 0, 0), (42, .aaload, 1, 0, 0, 0, 0), (43, (.iload_n 2), 1, 0, 0, 0, 0), (44, (.putfield 72), 3, 8, 3, 0, 124), (47, (.iload_n 3), 1, 0, 0, 0, 0), (48, .ireturn, 1, 0, 0, 0, 0)]
def c39 : List (Nat × En) := [(0, (.aload 4), 2, 0, 0, 0, 0), (2, (.iconst 0), 1, 0, 0, 0, 0), (3, (.aload_n 0), 1, 0, 0, 0, 0), (4, (.iload_n 1), 1, 0, 0, 0, 0), (5, (.iload_n 2), 1, 0, 0, 0, 0), (6, (.iload_n 3), 1, 0, 0, 0, 0), (7, (.invokevirtual 27), 3, 40, 3, 1, 504), (10, (.ifCond .eq 7), 3, 17, 0, 0, 0), (13, (.lconst 1), 1, 0, 0, 0, 0), (14, (.goto 4), 3, 18, 0, 0, 0), (17, (.lconst 0), 1, 0, 0, 0, 0), (18, .lastore, 1, 0, 0, 0, 0), (19, (.goto 11), 3, 30, 0, 0, 0), (22, (.astore 5), 2, 0, 0, 0, 0), (24, (.iconst 1), 1, 0, 0, 0, 0), (25, .ireturn, 1, 0, 0, 0, 0), (26, (.astore 5), 2, 0, 0, 0, 0), (28, (.iconst 2), 1, 0, 0, 0, 0), (29, .ireturn, 1, 0, 0, 0, 0), (30, (.iconst 0), 1, 0, 0, 0, 0), (31, .ireturn, 1, 0, 0, 0, 0)]
def c40 : List (Nat × En) := [(0, (.iload_n 1), 1, 0, 0, 0, 0), (1, (.bipush 8), 2, 0, 0, 0, 0), (3, (.invokestatic 58), 3, 34, 2, 0, 467), (6, (.iload_n 2), 1, 0, 0, 0, 0), (7, (.aload_n 0), 1, 0, 0, 0, 0), (8, (.getfield 10), 3, 0, 0, 2, 297), (11, (.getfield 51), 3, 2, 9, 0, 167), (14, (.invokestatic 58), 3, 34, 2, 0, 467), (17, (.aload_n 0), 1, 0, 0, 0, 0), (18, (.invokevirtual 48), 3, 29, 0, 1, 431), (21, (.aload_n 0), 1, 0, 0, 0, 0), (22, (.getfield 10), 3, 0, 0, 2, 297), (25, (.getfield 62), 3, 2, 0, 2, 152), (28, (.iload_n 1), 1, 0, 0, 0, 0), (29, .aaload, 1, 0, 0, 0, 0), (30, (.getfield 75), 3, 8, 2, 2, 121), (33, (.iload_n 2), 1, 0, 0, 0, 0), (34, (.iload_n 3), 1, 0, 0, 0, 0), (35, (.invokestatic 79), 3, 41, 3, 0, 508), (38, .ireturn, 1, 0, 0, 0, 0)]
def c41 : List (Nat × En) := [(0, (.aload_n 0), 1, 0, 0, 0, 0), (1, (.iload_n 1), 1, 0, 0, 0, 0), (2, .baload, 1, 0, 0, 0, 0), (3, (.iload_n 2), 1, 0, 0, 0, 0), (4, (.if_icmp .eq 7), 3, 11, 0, 0, 0), (7, (.iconst 1), 1, 0, 0, 0, 0), (8, (.goto 4), 3, 12, 0, 0, 0), (11, (.iconst 0), 1, 0, 0, 0, 0), (12, (.istore_n 3), 1, 0, 0, 0, 0), (13, (.aload_n 0), 1, 0, 0, 0, 0), (14, (.iload_n 1), 1, 0, 0, 0, 0), (15, (.iload_n 2), 1, 0, 0, 0, 0), (16, .bastore, 1, 0, 0, 0, 0), (17, (.iload_n 3), 1, 0, 0, 0, 0), (18, .ireturn, 1, 0, 0, 0, 0)]
def c42 : List (Nat × En) := [(0, (.aload_n 3), 1, 0, 0, 0, 0), (1, (.iconst 0), 1, 0, 0, 0, 0), (2, (.aload_n 0), 1, 0, 0, 0, 0), (3, (.iload_n 1), 1, 0, 0, 0, 0), (4, (.iload_n 2), 1, 0, 0, 0, 0), (5, (.invokevirtual 31), 3, 43, 2, 1, 514), (8, .i2l, 1, 0, 0, 0, 0), (9, .lastore, 1, 0, 0, 0, 0), (10, (.goto 11), 3, 21, 0, 0, 0), (13, (.astore 4), 2, 0, 0, 0, 0), (15, (.iconst 1), 1, 0, 0, 0, 0), (16, .ireturn, 1, 0, 0, 0, 0), (17, (.astore 4), 2, 0, 0, 0, 0), (19, (.iconst 2), 1, 0, 0, 0, 0), (20, .ireturn, 1, 0, 0, 0, 0), (21, (.iconst 0), 1, 0, 0, 0, 0), (22, .ireturn, 1, 0, 0, 0, 0)]
def c43 : List (Nat × En) := [(0, (.iload_n 1), 1, 0, 0, 0, 0), (1, (.bipush 6), 2, 0, 0, 0, 0), (3, (.invokestatic 58), 3, 34, 2, 0, 467), (6, (.iload_n 2), 1, 0, 0, 0, 0), (7, (.bipush 8), 2, 0, 0, 0, 0), (9, (.invokestatic 83), 3, 44, 2, 0, 518), (12, (.aload_n 0), 1, 0, 0, 0, 0), (13, (.invokevirtual 48), 3, 29, 0, 1, 431), (16, (.iload_n 2), 1, 0, 0, 0, 0), (17, (.iconst (-1)), 1, 0, 0, 0, 0), (18, (.if_icmp .eq 25), 3, 43, 0, 0, 0), (21, (.aload_n 0), 1, 0, 0, 0, 0), (22, (.getfield 10), 3, 0, 0, 2, 297), (25, (.iload_n 2), 1, 0, 0, 0, 0), (26, (.iload_n 1), 1, 0, 0, 0, 0), (27, (.invokevirtual 86), 3, 45, 2, 1, 521), (30, (.ifCond .eq 13), 3, 43, 0, 0, 0), (33, (.new 90), 3, 901, 525, 445, 435), (36, .dup, 1, 0, 0, 0, 0), (37, (.ldc 92), 2, 0, 0, 0, 0), (39, (.invokespecial 94), 3, 9009, 1, 2, 445), (42, .athrow, 1, 0, 0, 0, 0), (43, (.aload_n 0), 1, 0, 0, 0, 0), (44, (.getfield 10), 3, 0, 0, 2, 297), (47, (.iload_n 1), 1, 0, 0, 0, 0), (48, (.iload_n 2), 1, 0, 0, 0, 0), (49, (.invokevirtual 95), 3, 46, 2, 1, 526), (52, .ireturn, 1, 0, 0, 0, 0)]
def c44 : List (Nat × En) := [(0, (.iload_n 0), 1, 0, 0, 0, 0), (1, (.iconst (-1)), 1, 0, 0, 0, 0), (2, (.if_icmp .eq 8), 3, 10, 0, 0, 0), (5, (.iload_n 0), 1, 0, 0, 0, 0), (6, (.iload_n 1), 1, 0, 0, 0, 0), (7, (.invokestatic 58), 3, 34, 2, 0, 467), (10, .return_, 1, 0, 0, 0, 0)]
def c45 : List (Nat × En) := [(0, (.iconst 0), 1, 0, 0, 0, 0), (1, (.istore_n 3), 1, 0, 0, 0, 0), (2, (.iload_n 3), 1, 0, 0, 0, 0), (3, (.bipush 6), 2, 0, 0, 0, 0), (5, (.if_icmp .ge 26), 3, 31, 0, 0, 0), (8, (.iload_n 3), 1, 0, 0, 0, 0), (9, (.iload_n 2), 1, 0, 0, 0, 0), (10, (.if_icmp .eq 15), 3, 25, 0, 0, 0), (13, (.aload_n 0), 1, 0, 0, 0, 0), (14, (.getfield 17), 3, 2, 1, 2, 153), (17, (.iload_n 3), 1, 0, 0, 0, 0), (18, .iaload, 1, 0, 0, 0, 0), (19, (.iload_n 1), 1, 0, 0, 0, 0), (20, (.if_icmp .ne 5), 3, 25, 0, 0, 0), (23, (.iconst 1), 1, 0, 0, 0, 0), (24, .ireturn, 1, 0, 0, 0, 0), (25, (.iinc 3 1), 3, 0, 0, 0, 0), (28, (.goto (-26)), 3, 2, 0, 0, 0), (31, (.iconst 0), 1, 0, 0, 0, 0), (32, .ireturn, 1, 0, 0, 0, 0)]
def c46 : List (Nat × En) := [(0, (.aload_n 0), 1, 0, 0, 0, 0), (1, (.getfield 17), 3, 2, 1, 2, 153), (4, (.iload_n 1), 1, 0, 0, 0, 0), (5, .iaload, 1, 0, 0, 0, 0), (6, (.istore_n 3), 1, 0, 0, 0, 0), (7, (.aload_n 0), 1, 0, 0, 0, 0), (8, (.getfield 17), 3, 2, 1, 2, 153), (11, (.iload_n 1), 1, 0, 0, 0, 0), (12, (.iload_n 2), 1, 0, 0, 0, 0), (13, .iastore, 1, 0, 0, 0, 0), (14, (.aload_n 0), 1, 0, 0, 0, 0), (15, (.iconst 0), 1, 0, 0, 0, 0), (16, (.putfield 74), 3, 2, 10, 0, 169), (19, (.iconst 0), 1, 0, 0, 0, 0), (20, (.istore 4), 2, 0, 0, 0, 0), (22, (.iload 4), 2, 0, 0, 0, 0), (24, (.bipush 6), 2, 0, 0, 0, 0), (26, (.if_icmp .ge 41), 3, 67, 0, 0, 0), (29, (.aload_n 0), 1, 0, 0, 0, 0), (30, (.getfield 17), 3, 2, 1, 2, 153), (33, (.iload 4), 2, 0, 0, 0, 0), (35, .iaload, 1, 0, 0, 0, 0), (36, (.iconst (-1)), 1, 0, 0, 0, 0), (37, (.if_icmp .eq 24), 3, 61, 0, 0, 0), (40, (.aload_n 0), 1, 0, 0, 0, 0), (41, (.getfield 21), 3, 2, 2, 2, 154), (44, (.aload_n 0), 1, 0, 0, 0, 0), (45, (.getfield 74), 3, 2, 10, 0, 169), (48, (.iload 4), 2, 0, 0, 0, 0), (50, .iastore, 1, 0, 0, 0, 0), (51, (.aload_n 0), 1, 0, 0, 0, 0), (52, .dup, 1, 0, 0, 0, 0), (53, (.getfield 74), 3, 2, 10, 0, 169), (56, (.iconst 1), 1, 0, 0, 0, 0), (57, .iadd, 1, 0, 0, 0, 0), (58, (.putfield 74), 3, 2, 10, 0, 169), (61, (.iinc 4 1), 3, 0, 0, 0, 0), (64, (.goto (-42)), 3, 22, 0, 0, 0), (67, (.iload_n 3), 1, 0, 0, 0, 0), (68, .ireturn, 1, 0, 0, 0, 0)]
def c47 : List (Nat × En) := [(0, (.aload_n 0), 1, 0, 0, 0, 0), (1, (.iload_n 1), 1, 0, 0, 0, 0), (2, (.iload_n 2), 1, 0, 0, 0, 0), (3, (.iload_n 3), 1, 0, 0, 0, 0), (4, (.invokevirtual 34), 3, 48, 3, 1, 533), (7, (.goto 15), 3, 22, 0, 0, 0), (10, (.astore 4), 2, 0, 0, 0, 0), (12, (.iconst 1), 1, 0, 0, 0, 0), (13, .ireturn, 1, 0, 0, 0, 0), (14, (.astore 4), 2, 0, 0, 0, 0), (16, (.iconst 2), 1, 0, 0, 0, 0), (17, .ireturn, 1, 0, 0, 0, 0), (18, (.astore 4), 2, 0, 0, 0, 0), (20, (.iconst 3), 1, 0, 0, 0, 0), (21, .ireturn, 1, 0, 0, 0, 0), (22, (.iconst 0), 1, 0, 0, 0, 0), (23, .ireturn, 1, 0, 0, 0, 0)]
def c48 : List (Nat × En) := [(0, (.iload_n 1), 1, 0, 0, 0, 0), (1, (.iconst 2), 1, 0, 0, 0, 0), (2, (.invokestatic 58), 3, 34, 2, 0, 467), (5, (.iload_n 2), 1, 0, 0, 0, 0), (6, (.aload_n 0), 1, 0, 0, 0, 0), (7, (.getfield 10), 3, 0, 0, 2, 297), (10, (.getfield 51), 3, 2, 9, 0, 167), (13, (.invokestatic 58), 3, 34, 2, 0, 467), (16, (.iload_n 3), 1, 0, 0, 0, 0), (17, (.aload_n 0), 1, 0, 0, 0, 0), (18, (.getfield 10), 3, 0, 0, 2, 297), (21, (.getfield 51), 3, 2, 9, 0, 167), (24, (.invokestatic 58), 3, 34, 2, 0, 467), (27, (.iload_n 2), 1, 0, 0, 0, 0), (28, (.iload_n 3), 1, 0, 0, 0, 0), (29, (.if_icmp .ne 13), 3, 42, 0, 0, 0), (32, (.new 41), 3, 900, 537, 405, 363), (35, .dup, 1, 0, 0, 0, 0), (36, (.ldc 98), 2, 0, 0, 0, 0), (38, (.invokespecial 45), 3, 9009, 1, 2, 405), (41, .athrow, 1, 0, 0, 0, 0), (42, (.aload_n 0), 1, 0, 0, 0, 0), (43, (.invokevirtual 48), 3, 29, 0, 1, 431), (46, (.aload_n 0), 1, 0, 0, 0, 0), (47, (.getfield 10), 3, 0, 0, 2, 297), (50, (.iload_n 1), 1, 0, 0, 0, 0), (51, (.invokevirtual 100), 3, 49, 1, 1, 538), (54, (.astore 4), 2, 0, 0, 0, 0), (56, (.aload 4), 2, 0, 0, 0, 0), (58, (.iload_n 2), 1, 0, 0, 0, 0), (59, (.invokevirtual 104), 3, 50, 1, 1, 542), (62, (.ifCond .ne 12), 3, 74, 0, 0, 0), (65, (.aload 4), 2, 0, 0, 0, 0), (67, (.iload_n 3), 1, 0, 0, 0, 0), (68, (.invokevirtual 104), 3, 50, 1, 1, 542), (71, (.ifCond .eq 13), 3, 84, 0, 0, 0), (74, (.new 90), 3, 901, 546, 445, 435), (77, .dup, 1, 0, 0, 0, 0), (78, (.ldc 110), 2, 0, 0, 0, 0), (80, (.invokespecial 94), 3, 9009, 1, 2, 445), (83, .athrow, 1, 0, 0, 0, 0), (84, (.aload 4), 2, 0, 0, 0, 0), (86, (.iload_n 2), 1, 0, 0, 0, 0), (87, (.iload_n 3), 1, 0, 0, 0, 0), (88, (.invokevirtual 112), 3, 51, 2, 1, 547), (91, .return_, 1, 0, 0, 0, 0)]
def c49 : List (Nat × En) := [(0, (.iload_n 1), 1, 0, 0, 0, 0), (1, (.ifCond .ne 10), 3, 11, 0, 0, 0), (4, (.aload_n 0), 1, 0, 0, 0, 0), (5, (.getfield 39), 3, 2, 6, 2, 161), (8, (.goto 7), 3, 15, 0, 0, 0), (11, (.aload_n 0), 1, 0, 0, 0, 0), (12, (.getfield 43), 3, 2, 7, 2, 163), (15, .areturn, 1, 0, 0, 0, 0)]
def c50 : List (Nat × En) := [(0, (.aload_n 0), 1, 0, 0, 0, 0), (1, (.getfield 9), 3, 4, 0, 2, 84), (4, (.iload_n 1), 1, 0, 0, 0, 0), (5, .iaload, 1, 0, 0, 0, 0), (6, (.iload_n 1), 1, 0, 0, 0, 0), (7, (.if_icmp .eq 7), 3, 14, 0, 0, 0), (10, (.iconst 1), 1, 0, 0, 0, 0), (11, (.goto 4), 3, 15, 0, 0, 0), (14, (.iconst 0), 1, 0, 0, 0, 0), (15, .ireturn, 1, 0, 0, 0, 0)]
def c51 : List (Nat × En) := [(0, (.aload_n 0), 1, 0, 0, 0, 0), (1, (.getfield 9), 3, 4, 0, 2, 84), (4, (.iload_n 1), 1, 0, 0, 0, 0), (5, (.iload_n 2), 1, 0, 0, 0, 0), (6, .iastore, 1, 0, 0, 0, 0), (7, (.aload_n 0), 1, 0, 0, 0, 0), (8, (.getfield 9), 3, 4, 0, 2, 84), (11, (.iload_n 2), 1, 0, 0, 0, 0), (12, (.iload_n 1), 1, 0, 0, 0, 0), (13, .iastore, 1, 0, 0, 0, 0), (14, (.aload_n 0), 1, 0, 0, 0, 0), (15, .dup, 1, 0, 0, 0, 0), (16, (.getfield 15), 3, 4, 1, 0, 86), (19, (.iconst 1), 1, 0, 0, 0, 0), (20, .iadd, 1, 0, 0, 0, 0), (21, (.putfield 15), 3, 4, 1, 0, 86), (24, .return_, 1, 0, 0, 0, 0)]
def c52 : List (Nat × En) := [(0, (.aload_n 3), 1, 0, 0, 0, 0), (1, (.iconst 0), 1, 0, 0, 0, 0), (2, (.aload_n 0), 1, 0, 0, 0, 0), (3, (.iload_n 1), 1, 0, 0, 0, 0), (4, (.iload_n 2), 1, 0, 0, 0, 0), (5, (.invokevirtual 38), 3, 53, 2, 1, 554), (8, .i2l, 1, 0, 0, 0, 0), (9, .lastore, 1, 0, 0, 0, 0), (10, (.goto 11), 3, 21, 0, 0, 0), (13, (.astore 4), 2, 0, 0, 0, 0), (15, (.iconst 1), 1, 0, 0, 0, 0), (16, .ireturn, 1, 0, 0, 0, 0), (17, (.astore 4), 2, 0, 0, 0, 0), (19, (.iconst 2), 1, 0, 0, 0, 0), (20, .ireturn, 1, 0, 0, 0, 0), (21, (.iconst 0), 1, 0, 0, 0, 0), (22, .ireturn, 1, 0, 0, 0, 0)]
def c53 : List (Nat × En) := [(0, (.iload_n 1), 1, 0, 0, 0, 0), (1, (.iconst 2), 1, 0, 0, 0, 0), (2, (.invokestatic 58), 3, 34, 2, 0, 467), (5, (.iload_n 2), 1, 0, 0, 0, 0), (6, (.aload_n 0), 1, 0, 0, 0, 0), (7, (.getfield 10), 3, 0, 0, 2, 297), (10, (.getfield 51), 3, 2, 9, 0, 167), (13, (.invokestatic 58), 3, 34, 2, 0, 467), (16, (.aload_n 0), 1, 0, 0, 0, 0), (17, (.invokevirtual 48), 3, 29, 0, 1, 431), (20, (.aload_n 0), 1, 0, 0, 0, 0), (21, (.getfield 10), 3, 0, 0, 2, 297), (24, (.iload_n 1), 1, 0, 0, 0, 0), (25, (.invokevirtual 100), 3, 49, 1, 1, 538), (28, (.astore_n 3), 1, 0, 0, 0, 0), (29, (.aload_n 3), 1, 0, 0, 0, 0), (30, (.iload_n 2), 1, 0, 0, 0, 0), (31, (.invokevirtual 104), 3, 50, 1, 1, 542), (34, (.ifCond .eq 11), 3, 45, 0, 0, 0), (37, (.aload_n 3), 1, 0, 0, 0, 0), (38, (.iload_n 2), 1, 0, 0, 0, 0), (39, (.invokevirtual 115), 3, 54, 1, 1, 558), (42, (.goto 4), 3, 46, 0, 0, 0), (45, (.iconst (-1)), 1, 0, 0, 0, 0), (46, .ireturn, 1, 0, 0, 0, 0)]
def c54 : List (Nat × En) := [(0, (.aload_n 0), 1, 0, 0, 0, 0), (1, (.getfield 9), 3, 4, 0, 2, 84), (4, (.iload_n 1), 1, 0, 0, 0, 0), (5, .iaload, 1, 0, 0, 0, 0), (6, (.istore_n 2), 1, 0, 0, 0, 0), (7, (.aload_n 0), 1, 0, 0, 0, 0), (8, (.getfield 9), 3, 4, 0, 2, 84), (11, (.iload_n 1), 1, 0, 0, 0, 0), (12, (.iload_n 1), 1, 0, 0, 0, 0), (13, .iastore, 1, 0, 0, 0, 0), (14, (.aload_n 0), 1, 0, 0, 0, 0), (15, (.getfield 9), 3, 4, 0, 2, 84), (18, (.iload_n 2), 1, 0, 0, 0, 0), (19, (.iload_n 2), 1, 0, 0, 0, 0), (20, .iastore, 1, 0, 0, 0, 0), (21, (.aload_n 0), 1, 0, 0, 0, 0), (22, .dup, 1, 0, 0, 0, 0), (23, (.getfield 15), 3, 4, 1, 0, 86), (26, (.iconst 1), 1, 0, 0, 0, 0), (27, .isub, 1, 0, 0, 0, 0), (28, (.putfield 15), 3, 4, 1, 0, 86), (31, (.iload_n 2), 1, 0, 0, 0, 0), (32, .ireturn, 1, 0, 0, 0, 0)]
def c55 : List (Nat × En) := [(0, (.aload_n 2), 1, 0, 0, 0, 0), (1, (.iconst 0), 1, 0, 0, 0, 0), (2, (.aload_n 0), 1, 0, 0, 0, 0), (3, (.iload_n 1), 1, 0, 0, 0, 0), (4, (.invokevirtual 41), 3, 56, 1, 1, 565), (7, (.ifCond .eq 7), 3, 14, 0, 0, 0), (10, (.lconst 1), 1, 0, 0, 0, 0), (11, (.goto 4), 3, 15, 0, 0, 0), (14, (.lconst 0), 1, 0, 0, 0, 0), (15, .lastore, 1, 0, 0, 0, 0), (16, (.goto 6), 3, 22, 0, 0, 0), (19, (.astore_n 3), 1, 0, 0, 0, 0), (20, (.iconst 1), 1, 0, 0, 0, 0), (21, .ireturn, 1, 0, 0, 0, 0), (22, (.iconst 0), 1, 0, 0, 0, 0), (23, .ireturn, 1, 0, 0, 0, 0)]
def c56 : List (Nat × En) := [(0, (.aload_n 0), 1, 0, 0, 0, 0), (1, (.invokevirtual 48), 3, 29, 0, 1, 431), (4, (.aload_n 0), 1, 0, 0, 0, 0), (5, (.getfield 10), 3, 0, 0, 2, 297), (8, (.getfield 119), 3, 2, 13, 1, 176), (11, (.iload_n 1), 1, 0, 0, 0, 0), (12, (.if_icmp .eq 7), 3, 19, 0, 0, 0), (15, (.iconst 1), 1, 0, 0, 0, 0), (16, (.goto 4), 3, 20, 0, 0, 0), (19, (.iconst 0), 1, 0, 0, 0, 0), (20, (.istore_n 2), 1, 0, 0, 0, 0), (21, (.aload_n 0), 1, 0, 0, 0, 0), (22, (.getfield 10), 3, 0, 0, 2, 297), (25, (.iload_n 1), 1, 0, 0, 0, 0), (26, (.putfield 119), 3, 2, 13, 1, 176), (29, (.iload_n 2), 1, 0, 0, 0, 0), (30, .ireturn, 1, 0, 0, 0, 0)]
def c57 : List (Nat × En) := [(0, (.aload_n 3), 1, 0, 0, 0, 0), (1, (.iconst 0), 1, 0, 0, 0, 0), (2, (.aload_n 0), 1, 0, 0, 0, 0), (3, (.iload_n 1), 1, 0, 0, 0, 0), (4, (.iload_n 2), 1, 0, 0, 0, 0), (5, (.invokevirtual 45), 3, 58, 2, 1, 572), (8, .i2l, 1, 0, 0, 0, 0), (9, .lastore, 1, 0, 0, 0, 0), (10, (.goto 15), 3, 25, 0, 0, 0), (13, (.astore 4), 2, 0, 0, 0, 0), (15, (.iconst 1), 1, 0, 0, 0, 0), (16, .ireturn, 1, 0, 0, 0, 0), (17, (.astore 4), 2, 0, 0, 0, 0), (19, (.iconst 2), 1, 0, 0, 0, 0), (20, .ireturn, 1, 0, 0, 0, 0), (21, (.astore 4), 2, 0, 0, 0, 0), (23, (.iconst 3), 1, 0, 0, 0, 0), (24, .ireturn, 1, 0, 0, 0, 0), (25, (.iconst 0), 1, 0, 0, 0, 0), (26, .ireturn, 1, 0, 0, 0, 0)]
def c58 : List (Nat × En) := [(0, (.iload_n 1), 1, 0, 0, 0, 0), (1, (.bipush 12), 2, 0, 0, 0, 0), (3, (.invokestatic 58), 3, 34, 2, 0, 467), (6, (.iload_n 2), 1, 0, 0, 0, 0), (7, (.ifCond .lt 9), 3, 16, 0, 0, 0), (10, (.iload_n 2), 1, 0, 0, 0, 0), (11, (.bipush 61), 2, 0, 0, 0, 0), (13, (.if_icmp .le 13), 3, 26, 0, 0, 0), (16, (.new 41), 3, 900, 576, 405, 363), (19, .dup, 1, 0, 0, 0, 0), (20, (.ldc 123), 2, 0, 0, 0, 0), (22, (.invokespecial 45), 3, 9009, 1, 2, 405), (25, .athrow, 1, 0, 0, 0, 0), (26, (.aload_n 0), 1, 0, 0, 0, 0), (27, (.invokevirtual 48), 3, 29, 0, 1, 431), (30, (.aload_n 0), 1, 0, 0, 0, 0), (31, (.getfield 10), 3, 0, 0, 2, 297), (34, (.getfield 125), 3, 2, 3, 2, 156), (37, (.iload_n 1), 1, 0, 0, 0, 0), (38, .aaload, 1, 0, 0, 0, 0), (39, (.getfield 129), 3, 5, 1, 0, 145), (42, (.istore_n 3), 1, 0, 0, 0, 0), (43, (.aload_n 0), 1, 0, 0, 0, 0), (44, (.getfield 10), 3, 0, 0, 2, 297), (47, (.getfield 125), 3, 2, 3, 2, 156), (50, (.iload_n 1), 1, 0, 0, 0, 0), (51, .aaload, 1, 0, 0, 0, 0), (52, (.iload_n 2), 1, 0, 0, 0, 0), (53, (.invokevirtual 134), 3, 12, 1, 1, 577), (56, (.aload_n 0), 1, 0, 0, 0, 0), (57, (.getfield 10), 3, 0, 0, 2, 297), (60, (.getfield 137), 3, 2, 8, 2, 166), (63, (.getfield 140), 3, 6, 1, 2, 105), (66, (.iload_n 1), 1, 0, 0, 0, 0), (67, (.iconst 0), 1, 0, 0, 0, 0), (68, .iastore, 1, 0, 0, 0, 0), (69, (.aload_n 0), 1, 0, 0, 0, 0), (70, (.getfield 19), 3, 0, 1, 2, 298), (73, (.invokevirtual 55), 3, 30, 0, 1, 451), (76, (.iload_n 3), 1, 0, 0, 0, 0), (77, .ireturn, 1, 0, 0, 0, 0)]
def c59 : List (Nat × En) := [(0, (.aload 4), 2, 0, 0, 0, 0), (2, (.iconst 0), 1, 0, 0, 0, 0), (3, (.aload_n 0), 1, 0, 0, 0, 0), (4, (.iload_n 1), 1, 0, 0, 0, 0), (5, (.iload_n 2), 1, 0, 0, 0, 0), (6, (.iload_n 3), 1, 0, 0, 0, 0), (7, (.invokevirtual 48), 3, 60, 3, 1, 581), (10, (.ifCond .eq 7), 3, 17, 0, 0, 0), (13, (.lconst 1), 1, 0, 0, 0, 0), (14, (.goto 4), 3, 18, 0, 0, 0), (17, (.lconst 0), 1, 0, 0, 0, 0), (18, .lastore, 1, 0, 0, 0, 0), (19, (.goto 11), 3, 30, 0, 0, 0), (22, (.astore 5), 2, 0, 0, 0, 0), (24, (.iconst 1), 1, 0, 0, 0, 0), (25, .ireturn, 1, 0, 0, 0, 0), (26, (.astore 5), 2, 0, 0, 0, 0), (28, (.iconst 2), 1, 0, 0, 0, 0), (29, .ireturn, 1, 0, 0, 0, 0), (30, (.iconst 0), 1, 0, 0, 0, 0), (31, .ireturn, 1, 0, 0, 0, 0)]
def c60 : List (Nat × En) := [(0, (.iload_n 1), 1, 0, 0, 0, 0), (1, (.bipush 12), 2, 0, 0, 0, 0), (3, (.invokestatic 58), 3, 34, 2, 0, 467), (6, (.iload_n 2), 1, 0, 0, 0, 0), (7, (.aload_n 0), 1, 0, 0, 0, 0), (8, (.getfield 10), 3, 0, 0, 2, 297), (11, (.getfield 125), 3, 2, 3, 2, 156), (14, (.iload_n 1), 1, 0, 0, 0, 0), (15, .aaload, 1, 0, 0, 0, 0), (16, (.getfield 129), 3, 5, 1, 0, 145), (19, (.invokestatic 58), 3, 34, 2, 0, 467), (22, (.aload_n 0), 1, 0, 0, 0, 0), (23, (.invokevirtual 48), 3, 29, 0, 1, 431), (26, (.aload_n 0), 1, 0, 0, 0, 0), (27, (.getfield 10), 3, 0, 0, 2, 297), (30, (.getfield 125), 3, 2, 3, 2, 156), (33, (.iload_n 1), 1, 0, 0, 0, 0), (34, .aaload, 1, 0, 0, 0, 0), (35, (.getfield 144), 3, 5, 0, 2, 141), (38, (.iload_n 2), 1, 0, 0, 0, 0), (39, (.iload_n 3), 1, 0, 0, 0, 0), (40, (.invokestatic 79), 3, 41, 3, 0, 508), (43, .ireturn, 1, 0, 0, 0, 0)]
def c61 : List (Nat × En) := [(0, (.aload_n 0), 1, 0, 0, 0, 0), (1, (.iload_n 1), 1, 0, 0, 0, 0), (2, (.iload_n 2), 1, 0, 0, 0, 0), (3, (.iload_n 3), 1, 0, 0, 0, 0), (4, (.invokevirtual 51), 3, 62, 3, 1, 588), (7, (.goto 11), 3, 18, 0, 0, 0), (10, (.astore 4), 2, 0, 0, 0, 0), (12, (.iconst 1), 1, 0, 0, 0, 0), (13, .ireturn, 1, 0, 0, 0, 0), (14, (.astore 4), 2, 0, 0, 0, 0), (16, (.iconst 2), 1, 0, 0, 0, 0), (17, .ireturn, 1, 0, 0, 0, 0), (18, (.iconst 0), 1, 0, 0, 0, 0), (19, .ireturn, 1, 0, 0, 0, 0)]
def c62 : List (Nat × En) := [(0, (.iload_n 1), 1, 0, 0, 0, 0), (1, (.bipush 27), 2, 0, 0, 0, 0), (3, (.invokestatic 58), 3, 34, 2, 0, 467), (6, (.iload_n 2), 1, 0, 0, 0, 0), (7, (.bipush 12), 2, 0, 0, 0, 0), (9, (.invokestatic 83), 3, 44, 2, 0, 518), (12, (.iload_n 3), 1, 0, 0, 0, 0), (13, (.bipush 12), 2, 0, 0, 0, 0), (15, (.invokestatic 83), 3, 44, 2, 0, 518), (18, (.aload_n 0), 1, 0, 0, 0, 0), (19, (.invokevirtual 48), 3, 29, 0, 1, 431), (22, (.aload_n 0), 1, 0, 0, 0, 0), (23, (.getfield 10), 3, 0, 0, 2, 297), (26, (.getfield 147), 3, 2, 4, 2, 158), (29, (.iload_n 1), 1, 0, 0, 0, 0), (30, (.iload_n 2), 1, 0, 0, 0, 0), (31, .iastore, 1, 0, 0, 0, 0), (32, (.aload_n 0), 1, 0, 0, 0, 0), (33, (.getfield 10), 3, 0, 0, 2, 297), (36, (.getfield 150), 3, 2, 5, 2, 160), (39, (.iload_n 1), 1, 0, 0, 0, 0), (40, (.iload_n 3), 1, 0, 0, 0, 0), (41, .iastore, 1, 0, 0, 0, 0), (42, .return_, 1, 0, 0, 0, 0)]
def c63 : List (Nat × En) := [(0, (.aload_n 2), 1, 0, 0, 0, 0), (1, (.iconst 0), 1, 0, 0, 0, 0), (2, (.aload_n 0), 1, 0, 0, 0, 0), (3, (.iload_n 1), 1, 0, 0, 0, 0), (4, (.invokevirtual 54), 3, 64, 1, 1, 595), (7, .i2l, 1, 0, 0, 0, 0), (8, .lastore, 1, 0, 0, 0, 0), (9, (.goto 9), 3, 18, 0, 0, 0), (12, (.astore_n 3), 1, 0, 0, 0, 0), (13, (.iconst 1), 1, 0, 0, 0, 0), (14, .ireturn, 1, 0, 0, 0, 0), (15, (.astore_n 3), 1, 0, 0, 0, 0), (16, (.iconst 2), 1, 0, 0, 0, 0), (17, .ireturn, 1, 0, 0, 0, 0), (18, (.iconst 0), 1, 0, 0, 0, 0), (19, .ireturn, 1, 0, 0, 0, 0)]
def c64 : List (Nat × En) := [(0, (.iload_n 1), 1, 0, 0, 0, 0), (1, (.iconst 5), 1, 0, 0, 0, 0), (2, (.invokestatic 58), 3, 34, 2, 0, 467), (5, (.aload_n 0), 1, 0, 0, 0, 0), (6, (.invokevirtual 48), 3, 29, 0, 1, 431), (9, (.aload_n 0), 1, 0, 0, 0, 0), (10, (.getfield 10), 3, 0, 0, 2, 297), (13, (.getfield 153), 3, 2, 11, 0, 172), (16, (.istore_n 2), 1, 0, 0, 0, 0), (17, (.aload_n 0), 1, 0, 0, 0, 0), (18, (.getfield 10), 3, 0, 0, 2, 297), (21, (.iload_n 1), 1, 0, 0, 0, 0), (22, (.putfield 153), 3, 2, 11, 0, 172), (25, (.iload_n 2), 1, 0, 0, 0, 0), (26, .ireturn, 1, 0, 0, 0, 0)]
def c65 : List (Nat × En) := [(0, (.aload_n 2), 1, 0, 0, 0, 0), (1, (.iconst 0), 1, 0, 0, 0, 0), (2, (.aload_n 0), 1, 0, 0, 0, 0), (3, (.iload_n 1), 1, 0, 0, 0, 0), (4, (.invokevirtual 57), 3, 66, 1, 1, 602), (7, .i2l, 1, 0, 0, 0, 0), (8, .lastore, 1, 0, 0, 0, 0), (9, (.goto 9), 3, 18, 0, 0, 0), (12, (.astore_n 3), 1, 0, 0, 0, 0), (13, (.iconst 1), 1, 0, 0, 0, 0), (14, .ireturn, 1, 0, 0, 0, 0), (15, (.astore_n 3), 1, 0, 0, 0, 0), (16, (.iconst 2), 1, 0, 0, 0, 0), (17, .ireturn, 1, 0, 0, 0, 0), (18, (.iconst 0), 1, 0, 0, 0, 0), (19, .ireturn, 1, 0, 0, 0, 0)]
def c66 : List (Nat × En) := [(0, (.iload_n 1), 1, 0, 0, 0, 0), (1, (.iconst 3), 1, 0, 0, 0, 0), (2, (.invokestatic 58), 3, 34, 2, 0, 467), (5, (.aload_n 0), 1, 0, 0, 0, 0), (6, (.invokevirtual 48), 3, 29, 0, 1, 431), (9, (.aload_n 0), 1, 0, 0, 0, 0), (10, (.getfield 10), 3, 0, 0, 2, 297), (13, (.getfield 156), 3, 2, 12, 0, 174), (16, (.istore_n 2), 1, 0, 0, 0, 0), (17, (.aload_n 0), 1, 0, 0, 0, 0), (18, (.getfield 10), 3, 0, 0, 2, 297), (21, (.iload_n 1), 1, 0, 0, 0, 0), (22, (.putfield 156), 3, 2, 12, 0, 174), (25, (.iload_n 2), 1, 0, 0, 0, 0), (26, .ireturn, 1, 0, 0, 0, 0)]
def c67 : List (Nat × En) := [(0, (.aload 4), 2, 0, 0, 0, 0), (2, (.iconst 0), 1, 0, 0, 0, 0), (3, (.aload_n 0), 1, 0, 0, 0, 0), (4, (.iload_n 1), 1, 0, 0, 0, 0), (5, (.iload_n 2), 1, 0, 0, 0, 0), (6, (.iload_n 3), 1, 0, 0, 0, 0), (7, (.invokevirtual 60), 3, 68, 3, 1, 609), (10, .i2l, 1, 0, 0, 0, 0), (11, .lastore, 1, 0, 0, 0, 0), (12, (.goto 11), 3, 23, 0, 0, 0), (15, (.astore 5), 2, 0, 0, 0, 0), (17, (.iconst 1), 1, 0, 0, 0, 0), (18, .ireturn, 1, 0, 0, 0, 0), (19, (.astore 5), 2, 0, 0, 0, 0), (21, (.iconst 2), 1, 0, 0, 0, 0), (22, .ireturn, 1, 0, 0, 0, 0), (23, (.iconst 0), 1, 0, 0, 0, 0), (24, .ireturn, 1, 0, 0, 0, 0)]
def c68 : List (Nat × En) := [(0, (.iload_n 1), 1, 0, 0, 0, 0), (1, (.iload_n 2), 1, 0, 0, 0, 0), (2, (.invokestatic 159), 3, 69, 2, 0, 613), (5, (.iload_n 3), 1, 0, 0, 0, 0), (6, (.iload_n 1), 1, 0, 0, 0, 0), (7, (.ifCond .ne 13), 3, 20, 0, 0, 0), (10, (.aload_n 0), 1, 0, 0, 0, 0), (11, (.getfield 10), 3, 0, 0, 2, 297), (14, (.getfield 51), 3, 2, 9, 0, 167), (17, (.goto 15), 3, 32, 0, 0, 0), (20, (.aload_n 0), 1, 0, 0, 0, 0), (21, (.getfield 10), 3, 0, 0, 2, 297), (24, (.getfield 125), 3, 2, 3, 2, 156), (27, (.iload_n 2), 1, 0, 0, 0, 0), (28, .aaload, 1, 0, 0, 0, 0), (29, (.getfield 129), 3, 5, 1, 0, 145), (32, (.invokestatic 58), 3, 34, 2, 0, 467), (35, (.aload_n 0), 1, 0, 0, 0, 0), (36, (.invokevirtual 48), 3, 29, 0, 1, 431), (39, (.aload_n 0), 1, 0, 0, 0, 0), (40, (.iload_n 1), 1, 0, 0, 0, 0), (41, (.invokevirtual 162), 3, 70, 1, 1, 616), (44, (.astore 4), 2, 0, 0, 0, 0), (46, (.aload 4), 2, 0, 0, 0, 0), (48, (.iload_n 2), 1, 0, 0, 0, 0), (49, .iaload, 1, 0, 0, 0, 0), (50, (.istore 5), 2, 0, 0, 0, 0), (52, (.aload 4), 2, 0, 0, 0, 0), (54, (.iload_n 2), 1, 0, 0, 0, 0), (55, (.iload_n 3), 1, 0, 0, 0, 0), (56, .iastore, 1, 0, 0, 0, 0), (57, (.aload_n 0), 1, 0, 0, 0, 0), (58, (.getfield 19), 3, 0, 1, 2, 298), (61, (.invokevirtual 55), 3, 30, 0, 1, 451), (64, (.iload 5), 2, 0, 0, 0, 0), (66, .ireturn, 1, 0, 0, 0, 0)]
def c69 : List (Nat × En) := [(0, (.iload_n 0), 1, 0, 0, 0, 0), (1, (.iconst 2), 1, 0, 0, 0, 0), (2, (.invokestatic 58), 3, 34, 2, 0, 467), (5, (.iload_n 1), 1, 0, 0, 0, 0), (6, (.iload_n 0), 1, 0, 0, 0, 0), (7, (.ifCond .ne 8), 3, 15, 0, 0, 0), (10, (.bipush 6), 2, 0, 0, 0, 0), (12, (.goto 5), 3, 17, 0, 0, 0), (15, (.bipush 12), 2, 0, 0, 0, 0), (17, (.invokestatic 58), 3, 34, 2, 0, 467), (20, .return_, 1, 0, 0, 0, 0)]
def c70 : List (Nat × En) := [(0, (.iload_n 1), 1, 0, 0, 0, 0), (1, (.ifCond .ne 16), 3, 17, 0, 0, 0), (4, (.aload_n 0), 1, 0, 0, 0, 0), (5, (.getfield 10), 3, 0, 0, 2, 297), (8, (.getfield 137), 3, 2, 8, 2, 166), (11, (.getfield 275), 3, 6, 0, 2, 102), (14, (.goto 13), 3, 27, 0, 0, 0), (17, (.aload_n 0), 1, 0, 0, 0, 0), (18, (.getfield 10), 3, 0, 0, 2, 297), (21, (.getfield 137), 3, 2, 8, 2, 166), (24, (.getfield 140), 3, 6, 1, 2, 105), (27, .areturn, 1, 0, 0, 0, 0)]
def c71 : List (Nat × En) := [(0, (.aload_n 2), 1, 0, 0, 0, 0), (1, (.iconst 0), 1, 0, 0, 0, 0), (2, (.aload_n 0), 1, 0, 0, 0, 0), (3, (.iload_n 1), 1, 0, 0, 0, 0), (4, (.invokevirtual 63), 3, 72, 1, 1, 623), (7, .i2l, 1, 0, 0, 0, 0), (8, .lastore, 1, 0, 0, 0, 0), (9, (.goto 9), 3, 18, 0, 0, 0), (12, (.astore_n 3), 1, 0, 0, 0, 0), (13, (.iconst 1), 1, 0, 0, 0, 0), (14, .ireturn, 1, 0, 0, 0, 0), (15, (.astore_n 3), 1, 0, 0, 0, 0), (16, (.iconst 2), 1, 0, 0, 0, 0), (17, .ireturn, 1, 0, 0, 0, 0), (18, (.iconst 0), 1, 0, 0, 0, 0), (19, .ireturn, 1, 0, 0, 0, 0)]
def c72 : List (Nat × En) := [(0, (.iload_n 1), 1, 0, 0, 0, 0), (1, (.aload_n 0), 1, 0, 0, 0, 0), (2, (.getfield 10), 3, 0, 0, 2, 297), (5, (.getfield 51), 3, 2, 9, 0, 167), (8, (.invokestatic 58), 3, 34, 2, 0, 467), (11, (.aload_n 0), 1, 0, 0, 0, 0), (12, (.getfield 26), 3, 0, 2, 2, 299), (15, (.invokevirtual 166), 3, 73, 0, 1, 627), (18, (.ifCond .eq 13), 3, 31, 0, 0, 0), (21, (.new 90), 3, 901, 631, 445, 435), (24, .dup, 1, 0, 0, 0, 0), (25, (.ldc 170), 2, 0, 0, 0, 0), (27, (.invokespecial 94), 3, 9009, 1, 2, 445), (30, .athrow, 1, 0, 0, 0, 0), (31, (.aload_n 0), 1, 0, 0, 0, 0), (32, (.getfield 19), 3, 0, 1, 2, 298), (35, (.aload_n 0), 1, 0, 0, 0, 0), (36, (.getfield 10), 3, 0, 0, 2, 297), (39, (.invokevirtual 172), 3, 74, 0, 1, 632), (42, (.invokevirtual 176), 3, 79, 1, 1, 652), (45, (.aload_n 0), 1, 0, 0, 0, 0), (46, (.getfield 10), 3, 0, 0, 2, 297), (49, (.iload_n 1), 1, 0, 0, 0, 0), (50, (.invokevirtual 179), 3, 17, 1, 1, 314), (53, (.istore_n 2), 1, 0, 0, 0, 0), (54, (.aload_n 0), 1, 0, 0, 0, 0), (55, (.getfield 26), 3, 0, 2, 2, 299), (58, (.iload_n 1), 1, 0, 0, 0, 0), (59, (.iload_n 2), 1, 0, 0, 0, 0), (60, (.invokevirtual 182), 3, 80, 2, 1, 660), (63, (.iload_n 2), 1, 0, 0, 0, 0), (64, .ireturn, 1, 0, 0, 0, 0)]
def c73 : List (Nat × En) := [(0, (.aload_n 0), 1, 0, 0, 0, 0), (1, (.getfield 22), 3, 1, 2, 1, 262), (4, (.ifCond .eq 26), 3, 30, 0, 0, 0), (7, (.aload_n 0), 1, 0, 0, 0, 0), (8, (.getfield 11), 3, 1, 0, 2, 258), (11, (.aload_n 0), 1, 0, 0, 0, 0), (12, (.getfield 18), 3, 1, 1, 0, 260), (15, (.iconst 1), 1, 0, 0, 0, 0), (16, .isub, 1, 0, 0, 0, 0), (17, .aaload, 1, 0, 0, 0, 0), (18, (.getfield 26), 3, 3, 3, 0, 247), (21, (.bipush 60), 2, 0, 0, 0, 0), (23, (.if_icmp .ne 7), 3, 30, 0, 0, 0), (26, (.iconst 1), 1, 0, 0, 0, 0), (27, (.goto 4), 3, 31, 0, 0, 0), (30, (.iconst 0), 1, 0, 0, 0, 0), (31, .ireturn, 1, 0, 0, 0, 0)]
def c74 : List (Nat × En) := [(0, (.iconst 0), 1, 0, 0, 0, 0), (1, (.istore_n 1), 1, 0, 0, 0, 0), (2, (.iconst 0), 1, 0, 0, 0, 0), (3, (.istore_n 2), 1, 0, 0, 0, 0), (4, (.iload_n 2), 1, 0, 0, 0, 0), (5, (.aload_n 0), 1, 0, 0, 0, 0), (6, (.getfield 74), 3, 2, 10, 0, 169), (9, (.if_icmp .ge 28), 3, 37, 0, 0, 0), (12, (.aload_n 0), 1, 0, 0, 0, 0), (13, (.iload_n 2), 1, 0, 0, 0, 0), (14, (.invokevirtual 90), 3, 75, 1, 1, 636), (17, (.ifCond .eq 14), 3, 31, 0, 0, 0), (20, (.iload_n 1), 1, 0, 0, 0, 0), (21, (.iconst 1), 1, 0, 0, 0, 0), (22, (.aload_n 0), 1, 0, 0, 0, 0), (23, (.getfield 21), 3, 2, 2, 2, 154), (26, (.iload_n 2), 1, 0, 0, 0, 0), (27, .iaload, 1, 0, 0, 0, 0), (28, .ishl, 1, 0, 0, 0, 0), (29, .ior, 1, 0, 0, 0, 0), (30, (.istore_n 1), 1, 0, 0, 0, 0), (31, (.iinc 2 1), 3, 0, 0, 0, 0), (34, (.goto (-30)), 3, 4, 0, 0, 0), (37, (.aload_n 0), 1, 0, 0, 0, 0), (38, (.iload_n 1), 1, 0, 0, 0, 0), (39, (.iconst 1), 1, 0, 0, 0, 0), (40, (.invokevirtual 94), 3, 78, 2, 1, 648), (43, (.iload_n 1), 1, 0, 0, 0, 0), (44, .ireturn, 1, 0, 0, 0, 0)]
def c75_0 : List (Nat × En) := [(0, (.aload_n 0), 1, 0, 0, 0, 0), (1, (.getfield 74), 3, 2, 10, 0, 169), (4, (.iconst 1), 1, 0, 0, 0, 0), (5, .isub, 1, 0, 0, 0, 0), (6, (.istore_n 2), 1, 0, 0, 0, 0), (7, (.aload_n 0), 1, 0, 0, 0, 0), (8, (.getfield 77), 3, 2, 11, 0, 171), (11, (.tableswitch 129 0 3 #[29, 35, 68, 93]), 29, 0, 0, 0, 0), (40, (.aload_n 0), 1, 0, 0, 0, 0), (41, (.iload_n 1), 1, 0, 0, 0, 0), (42, (.invokevirtual 108), 3, 76, 1, 1, 640), (45, .ireturn, 1, 0, 0, 0, 0), (46, (.iload_n 1), 1, 0, 0, 0, 0), (47, (.ifCond .eq 26), 3, 73, 0, 0, 0), (50, (.aload_n 0), 1, 0, 0, 0, 0), (51, (.iload_n 1), 1, 0, 0, 0, 0), (52, (.iconst 1), 1, 0, 0, 0, 0), (53, .isub, 1, 0, 0, 0, 0), (54, (.invokevirtual 111), 3, 77, 1, 1, 644), (57, (.ifCond .ne 16), 3, 73, 0, 0, 0), (60, (.iload_n 1), 1, 0, 0, 0, 0), (61, (.iload_n 2), 1, 0, 0, 0, 0), (62, (.if_icmp .eq 15), 3, 77, 0, 0, 0), (65, (.aload_n 0), 1, 0, 0, 0, 0), (66, (.iload_n 1), 1, 0, 0, 0, 0), (67, (.invokevirtual 111), 3, 77, 1, 1, 644), (70, (.ifCond .eq 7), 3, 77, 0, 0, 0), (73, (.iconst 1), 1, 0, 0, 0, 0), (74, (.goto 4), 3, 78, 0, 0, 0), (77, (.iconst 0), 1, 0, 0, 0, 0), (78, .ireturn, 1, 0, 0, 0, 0), (79, (.aload_n 0), 1, 0, 0, 0, 0), (80, (.iload_n 1), 1, 0, 0, 0, 0), (81, (.iload_n 2), 1, 0, 0, 0, 0), (82, (.if_icmp .ne 7), 3, 89, 0, 0, 0), (85, (.iconst 0), 1, 0, 0, 0, 0), (86, (.goto 6), 3, 92, 0, 0, 0), (89, (.iload_n 1), 1, 0, 0, 0, 0), (90, (.iconst 1), 1, 0, 0, 0, 0), (91, .iadd, 1, 0, 0, 0, 0)]
def c75_1 : List (Nat × En) := [(92, (.invokevirtual 111), 3, 77, 1, 1, 644), (95, (.ifCond .ne 7), 3, 102, 0, 0, 0), (98, (.iconst 1), 1, 0, 0, 0, 0), (99, (.goto 4), 3, 103, 0, 0, 0), (102, (.iconst 0), 1, 0, 0, 0, 0), (103, .ireturn, 1, 0, 0, 0, 0), (104, (.aload_n 0), 1, 0, 0, 0, 0), (105, (.getfield 26), 3, 2, 3, 2, 155), (108, (.aload_n 0), 1, 0, 0, 0, 0), (109, (.getfield 21), 3, 2, 2, 2, 154), (112, (.iload_n 1), 1, 0, 0, 0, 0), (113, .iaload, 1, 0, 0, 0, 0), (114, .aaload, 1, 0, 0, 0, 0), (115, (.getfield 87), 3, 5, 1, 0, 144), (118, (.ifCond .eq 16), 3, 134, 0, 0, 0), (121, (.aload_n 0), 1, 0, 0, 0, 0), (122, (.aload_n 0), 1, 0, 0, 0, 0), (123, (.getfield 21), 3, 2, 2, 2, 154), (126, (.iload_n 1), 1, 0, 0, 0, 0), (127, .iaload, 1, 0, 0, 0, 0), (128, (.invokevirtual 114), 3, 24, 1, 1, 341), (131, (.ifCond .eq 7), 3, 138, 0, 0, 0), (134, (.iconst 1), 1, 0, 0, 0, 0), (135, (.goto 4), 3, 139, 0, 0, 0), (138, (.iconst 0), 1, 0, 0, 0, 0), (139, .ireturn, 1, 0, 0, 0, 0), (140, (.iload_n 1), 1, 0, 0, 0, 0), (141, (.iload_n 2), 1, 0, 0, 0, 0), (142, (.if_icmp .eq 11), 3, 153, 0, 0, 0), (145, (.aload_n 0), 1, 0, 0, 0, 0), (146, (.iload_n 2), 1, 0, 0, 0, 0), (147, (.invokevirtual 111), 3, 77, 1, 1, 644), (150, (.ifCond .ne 7), 3, 157, 0, 0, 0), (153, (.iconst 1), 1, 0, 0, 0, 0), (154, (.goto 4), 3, 158, 0, 0, 0), (157, (.iconst 0), 1, 0, 0, 0, 0), (158, .ireturn, 1, 0, 0, 0, 0)]
def c75 : List (Nat × En) := c75_0 ++ (c75_1)
def c76 : List (Nat × En) := [(0, (.iconst 0), 1, 0, 0, 0, 0), (1, (.istore_n 2), 1, 0, 0, 0, 0), (2, (.iload_n 2), 1, 0, 0, 0, 0), (3, (.iload_n 1), 1, 0, 0, 0, 0), (4, (.if_icmp .ge 19), 3, 23, 0, 0, 0), (7, (.aload_n 0), 1, 0, 0, 0, 0), (8, (.iload_n 2), 1, 0, 0, 0, 0), (9, (.invokevirtual 111), 3, 77, 1, 1, 644), (12, (.ifCond .ne 5), 3, 17, 0, 0, 0), (15, (.iconst 0), 1, 0, 0, 0, 0), (16, .ireturn, 1, 0, 0, 0, 0), (17, (.iinc 2 1), 3, 0, 0, 0, 0), (20, (.goto (-18)), 3, 2, 0, 0, 0), (23, (.iconst 1), 1, 0, 0, 0, 0), (24, .ireturn, 1, 0, 0, 0, 0)]
def c77 : List (Nat × En) := [(0, (.aload_n 0), 1, 0, 0, 0, 0), (1, (.getfield 21), 3, 2, 2, 2, 154), (4, (.iload_n 1), 1, 0, 0, 0, 0), (5, .iaload, 1, 0, 0, 0, 0), (6, (.istore_n 2), 1, 0, 0, 0, 0), (7, (.aload_n 0), 1, 0, 0, 0, 0), (8, (.getfield 11), 3, 2, 0, 2, 151), (11, (.aload_n 0), 1, 0, 0, 0, 0), (12, (.getfield 17), 3, 2, 1, 2, 153), (15, (.iload_n 2), 1, 0, 0, 0, 0), (16, .iaload, 1, 0, 0, 0, 0), (17, .aaload, 1, 0, 0, 0, 0), (18, (.getfield 117), 3, 8, 2, 2, 122), (21, (.aload_n 0), 1, 0, 0, 0, 0), (22, (.getfield 49), 3, 2, 8, 2, 165), (25, (.getfield 98), 3, 6, 0, 2, 101), (28, (.iload_n 2), 1, 0, 0, 0, 0), (29, .iaload, 1, 0, 0, 0, 0), (30, .baload, 1, 0, 0, 0, 0), (31, .ireturn, 1, 0, 0, 0, 0)]
def c78_0 : List (Nat × En) := [(0, (.iconst 0), 1, 0, 0, 0, 0), (1, (.istore_n 3), 1, 0, 0, 0, 0), (2, (.iload_n 3), 1, 0, 0, 0, 0), (3, (.bipush 6), 2, 0, 0, 0, 0), (5, (.if_icmp .ge 45), 3, 50, 0, 0, 0), (8, (.iload_n 1), 1, 0, 0, 0, 0), (9, (.iload_n 3), 1, 0, 0, 0, 0), (10, .ishr, 1, 0, 0, 0, 0), (11, (.iconst 1), 1, 0, 0, 0, 0), (12, .iand, 1, 0, 0, 0, 0), (13, (.iconst 1), 1, 0, 0, 0, 0), (14, (.if_icmp .ne 30), 3, 44, 0, 0, 0), (17, (.aload_n 0), 1, 0, 0, 0, 0), (18, (.getfield 49), 3, 2, 8, 2, 165), (21, (.getfield 98), 3, 6, 0, 2, 101), (24, (.iload_n 3), 1, 0, 0, 0, 0), (25, (.aload_n 0), 1, 0, 0, 0, 0), (26, (.getfield 49), 3, 2, 8, 2, 165), (29, (.getfield 98), 3, 6, 0, 2, 101), (32, (.iload_n 3), 1, 0, 0, 0, 0), (33, .iaload, 1, 0, 0, 0, 0), (34, (.iload_n 2), 1, 0, 0, 0, 0), (35, .iadd, 1, 0, 0, 0, 0), (36, (.aload_n 0), 1, 0, 0, 0, 0), (37, (.getfield 70), 3, 2, 9, 0, 168), (40, (.invokestatic 101), 3, 21, 2, 4, 353), (43, .iastore, 1, 0, 0, 0, 0), (44, (.iinc 3 1), 3, 0, 0, 0, 0), (47, (.goto (-45)), 3, 2, 0, 0, 0), (50, (.iconst 0), 1, 0, 0, 0, 0), (51, (.istore_n 3), 1, 0, 0, 0, 0), (52, (.iload_n 3), 1, 0, 0, 0, 0), (53, (.bipush 12), 2, 0, 0, 0, 0), (55, (.if_icmp .ge 53), 3, 108, 0, 0, 0), (58, (.aload_n 0), 1, 0, 0, 0, 0), (59, (.getfield 26), 3, 2, 3, 2, 155), (62, (.iload_n 3), 1, 0, 0, 0, 0), (63, .aaload, 1, 0, 0, 0, 0), (64, (.getfield 87), 3, 5, 1, 0, 144), (67, (.ifCond .le 35), 3, 102, 0, 0, 0)]
def c78_1 : List (Nat × En) := [(70, (.aload_n 0), 1, 0, 0, 0, 0), (71, (.getfield 49), 3, 2, 8, 2, 165), (74, (.getfield 105), 3, 6, 1, 2, 104), (77, (.iload_n 3), 1, 0, 0, 0, 0), (78, (.aload_n 0), 1, 0, 0, 0, 0), (79, (.getfield 49), 3, 2, 8, 2, 165), (82, (.getfield 105), 3, 6, 1, 2, 104), (85, (.iload_n 3), 1, 0, 0, 0, 0), (86, .iaload, 1, 0, 0, 0, 0), (87, (.iload_n 2), 1, 0, 0, 0, 0), (88, .iadd, 1, 0, 0, 0, 0), (89, (.aload_n 0), 1, 0, 0, 0, 0), (90, (.getfield 26), 3, 2, 3, 2, 155), (93, (.iload_n 3), 1, 0, 0, 0, 0), (94, .aaload, 1, 0, 0, 0, 0), (95, (.getfield 87), 3, 5, 1, 0, 144), (98, (.invokestatic 101), 3, 21, 2, 4, 353), (101, .iastore, 1, 0, 0, 0, 0), (102, (.iinc 3 1), 3, 0, 0, 0, 0), (105, (.goto (-53)), 3, 52, 0, 0, 0), (108, .return_, 1, 0, 0, 0, 0)]
def c78 : List (Nat × En) := c78_0 ++ (c78_1)
def c79 : List (Nat × En) := [(0, (.aload_n 0), 1, 0, 0, 0, 0), (1, (.getfield 9), 3, 7, 0, 2, 212), (4, (.aload_n 0), 1, 0, 0, 0, 0), (5, (.getfield 19), 3, 7, 1, 0, 213), (8, (.iload_n 1), 1, 0, 0, 0, 0), (9, .iastore, 1, 0, 0, 0, 0), (10, (.aload_n 0), 1, 0, 0, 0, 0), (11, (.aload_n 0), 1, 0, 0, 0, 0), (12, (.getfield 19), 3, 7, 1, 0, 213), (15, (.iconst 1), 1, 0, 0, 0, 0), (16, .iadd, 1, 0, 0, 0, 0), (17, (.bipush 40), 2, 0, 0, 0, 0), (19, (.invokestatic 22), 3, 21, 2, 4, 656), (22, (.putfield 19), 3, 7, 1, 0, 213), (25, (.aload_n 0), 1, 0, 0, 0, 0), (26, (.aload_n 0), 1, 0, 0, 0, 0), (27, (.getfield 15), 3, 7, 2, 0, 214), (30, (.iconst 1), 1, 0, 0, 0, 0), (31, .iadd, 1, 0, 0, 0, 0), (32, (.bipush 40), 2, 0, 0, 0, 0), (34, (.invokestatic 26), 3, 9002, 2, 0, 657), (37, (.putfield 15), 3, 7, 2, 0, 214), (40, .return_, 1, 0, 0, 0, 0)]
def c80 : List (Nat × En) := [(0, (.aload_n 0), 1, 0, 0, 0, 0), (1, (.getfield 22), 3, 1, 2, 1, 262), (4, (.ifCond .eq 45), 3, 49, 0, 0, 0), (7, (.aload_n 0), 1, 0, 0, 0, 0), (8, (.getfield 11), 3, 1, 0, 2, 258), (11, (.aload_n 0), 1, 0, 0, 0, 0), (12, (.getfield 18), 3, 1, 1, 0, 260), (15, (.iconst 1), 1, 0, 0, 0, 0), (16, .isub, 1, 0, 0, 0, 0), (17, .aaload, 1, 0, 0, 0, 0), (18, (.astore_n 3), 1, 0, 0, 0, 0), (19, (.aload_n 3), 1, 0, 0, 0, 0), (20, (.getfield 37), 3, 3, 1, 2, 242), (23, (.aload_n 3), 1, 0, 0, 0, 0), (24, (.getfield 26), 3, 3, 3, 0, 247), (27, (.iload_n 1), 1, 0, 0, 0, 0), (28, .iastore, 1, 0, 0, 0, 0), (29, (.aload_n 3), 1, 0, 0, 0, 0), (30, (.getfield 41), 3, 3, 2, 2, 245), (33, (.aload_n 3), 1, 0, 0, 0, 0), (34, (.getfield 26), 3, 3, 3, 0, 247), (37, (.iload_n 2), 1, 0, 0, 0, 0), (38, .iastore, 1, 0, 0, 0, 0), (39, (.aload_n 3), 1, 0, 0, 0, 0), (40, .dup, 1, 0, 0, 0, 0), (41, (.getfield 26), 3, 3, 3, 0, 247), (44, (.iconst 1), 1, 0, 0, 0, 0), (45, .iadd, 1, 0, 0, 0, 0), (46, (.putfield 26), 3, 3, 3, 0, 247), (49, .return_, 1, 0, 0, 0, 0)]
def c81 : List (Nat × En) := [(0, (.aload_n 2), 1, 0, 0, 0, 0), (1, (.iconst 0), 1, 0, 0, 0, 0), (2, (.aload_n 0), 1, 0, 0, 0, 0), (3, (.iload_n 1), 1, 0, 0, 0, 0), (4, (.invokevirtual 66), 3, 82, 1, 1, 667), (7, .i2l, 1, 0, 0, 0, 0), (8, .lastore, 1, 0, 0, 0, 0), (9, (.goto 9), 3, 18, 0, 0, 0), (12, (.astore_n 3), 1, 0, 0, 0, 0), (13, (.iconst 1), 1, 0, 0, 0, 0), (14, .ireturn, 1, 0, 0, 0, 0), (15, (.astore_n 3), 1, 0, 0, 0, 0), (16, (.iconst 2), 1, 0, 0, 0, 0), (17, .ireturn, 1, 0, 0, 0, 0), (18, (.iconst 0), 1, 0, 0, 0, 0), (19, .ireturn, 1, 0, 0, 0, 0)]
def c82 : List (Nat × En) := [(0, (.iload_n 1), 1, 0, 0, 0, 0), (1, (.aload_n 0), 1, 0, 0, 0, 0), (2, (.getfield 10), 3, 0, 0, 2, 297), (5, (.getfield 51), 3, 2, 9, 0, 167), (8, (.invokestatic 58), 3, 34, 2, 0, 467), (11, (.aload_n 0), 1, 0, 0, 0, 0), (12, (.invokevirtual 48), 3, 29, 0, 1, 431), (15, (.aload_n 0), 1, 0, 0, 0, 0), (16, (.getfield 19), 3, 0, 1, 2, 298), (19, (.aload_n 0), 1, 0, 0, 0, 0), (20, (.getfield 10), 3, 0, 0, 2, 297), (23, (.invokevirtual 172), 3, 74, 0, 1, 632), (26, (.invokevirtual 176), 3, 79, 1, 1, 652), (29, (.aload_n 0), 1, 0, 0, 0, 0), (30, (.getfield 10), 3, 0, 0, 2, 297), (33, (.iload_n 1), 1, 0, 0, 0, 0), (34, (.invokevirtual 184), 3, 83, 1, 1, 671), (37, .ireturn, 1, 0, 0, 0, 0)]
def c83 : List (Nat × En) := [(0, (.aload_n 0), 1, 0, 0, 0, 0), (1, (.getfield 39), 3, 2, 6, 2, 161), (4, (.getfield 128), 3, 4, 0, 2, 85), (7, (.iload_n 1), 1, 0, 0, 0, 0), (8, .iaload, 1, 0, 0, 0, 0), (9, (.istore_n 2), 1, 0, 0, 0, 0), (10, (.aload_n 0), 1, 0, 0, 0, 0), (11, (.getfield 80), 3, 2, 12, 0, 173), (14, (.ifCond .ne 14), 3, 28, 0, 0, 0), (17, (.aload_n 0), 1, 0, 0, 0, 0), (18, (.getfield 83), 3, 2, 13, 1, 175), (21, (.ifCond .ne 7), 3, 28, 0, 0, 0), (24, (.iconst 1), 1, 0, 0, 0, 0), (25, (.goto 4), 3, 29, 0, 0, 0), (28, (.iconst 0), 1, 0, 0, 0, 0), (29, (.istore_n 3), 1, 0, 0, 0, 0), (30, (.aload_n 0), 1, 0, 0, 0, 0), (31, (.getfield 39), 3, 2, 6, 2, 161), (34, (.getfield 128), 3, 4, 0, 2, 85), (37, (.iload_n 3), 1, 0, 0, 0, 0), (38, (.ifCond .eq 11), 3, 49, 0, 0, 0), (41, (.aload_n 0), 1, 0, 0, 0, 0), (42, (.iload_n 2), 1, 0, 0, 0, 0), (43, (.invokevirtual 135), 3, 22, 1, 1, 333), (46, (.goto 8), 3, 54, 0, 0, 0), (49, (.aload_n 0), 1, 0, 0, 0, 0), (50, (.iload_n 2), 1, 0, 0, 0, 0), (51, (.invokevirtual 131), 3, 18, 1, 1, 318), (54, .iaload, 1, 0, 0, 0, 0), (55, .ireturn, 1, 0, 0, 0, 0)]
def c84 : List (Nat × En) := [(0, (.aload_n 2), 1, 0, 0, 0, 0), (1, (.iconst 0), 1, 0, 0, 0, 0), (2, (.aload_n 0), 1, 0, 0, 0, 0), (3, (.iload_n 1), 1, 0, 0, 0, 0), (4, (.invokevirtual 69), 3, 85, 1, 1, 678), (7, .i2l, 1, 0, 0, 0, 0), (8, .lastore, 1, 0, 0, 0, 0), (9, (.goto 6), 3, 15, 0, 0, 0), (12, (.astore_n 3), 1, 0, 0, 0, 0), (13, (.iconst 1), 1, 0, 0, 0, 0), (14, .ireturn, 1, 0, 0, 0, 0), (15, (.iconst 0), 1, 0, 0, 0, 0), (16, .ireturn, 1, 0, 0, 0, 0)]
def c85 : List (Nat × En) := [(0, (.iload_n 1), 1, 0, 0, 0, 0), (1, (.aload_n 0), 1, 0, 0, 0, 0), (2, (.getfield 10), 3, 0, 0, 2, 297), (5, (.getfield 51), 3, 2, 9, 0, 167), (8, (.invokestatic 58), 3, 34, 2, 0, 467), (11, (.aload_n 0), 1, 0, 0, 0, 0), (12, (.getfield 10), 3, 0, 0, 2, 297), (15, (.iload_n 1), 1, 0, 0, 0, 0), (16, (.invokevirtual 179), 3, 17, 1, 1, 314), (19, .ireturn, 1, 0, 0, 0, 0)]
def c86 : List (Nat × En) := [(0, (.aload_n 3), 1, 0, 0, 0, 0), (1, (.iconst 0), 1, 0, 0, 0, 0), (2, (.aload_n 0), 1, 0, 0, 0, 0), (3, (.iload_n 1), 1, 0, 0, 0, 0), (4, (.iload_n 2), 1, 0, 0, 0, 0), (5, (.invokevirtual 72), 3, 87, 2, 1, 685), (8, .i2l, 1, 0, 0, 0, 0), (9, .lastore, 1, 0, 0, 0, 0), (10, (.goto 7), 3, 17, 0, 0, 0), (13, (.astore 4), 2, 0, 0, 0, 0), (15, (.iconst 1), 1, 0, 0, 0, 0), (16, .ireturn, 1, 0, 0, 0, 0), (17, (.iconst 0), 1, 0, 0, 0, 0), (18, .ireturn, 1, 0, 0, 0, 0)]
def c87 : List (Nat × En) := [(0, (.iload_n 1), 1, 0, 0, 0, 0), (1, (.iload_n 2), 1, 0, 0, 0, 0), (2, (.invokestatic 159), 3, 69, 2, 0, 613), (5, (.aload_n 0), 1, 0, 0, 0, 0), (6, (.iload_n 1), 1, 0, 0, 0, 0), (7, (.invokevirtual 162), 3, 70, 1, 1, 616), (10, (.iload_n 2), 1, 0, 0, 0, 0), (11, .iaload, 1, 0, 0, 0, 0), (12, .ireturn, 1, 0, 0, 0, 0)]
def c88 : List (Nat × En) := [(0, (.aload_n 1), 1, 0, 0, 0, 0), (1, (.iconst 0), 1, 0, 0, 0, 0), (2, (.aload_n 0), 1, 0, 0, 0, 0), (3, (.invokevirtual 75), 3, 89, 0, 1, 692), (6, .i2l, 1, 0, 0, 0, 0), (7, .lastore, 1, 0, 0, 0, 0), (8, (.goto 6), 3, 14, 0, 0, 0), (11, (.astore_n 2), 1, 0, 0, 0, 0), (12, (.iconst 1), 1, 0, 0, 0, 0), (13, .ireturn, 1, 0, 0, 0, 0), (14, (.iconst 0), 1, 0, 0, 0, 0), (15, .ireturn, 1, 0, 0, 0, 0)]
def c89 : List (Nat × En) := [(0, (.aload_n 0), 1, 0, 0, 0, 0), (1, (.invokevirtual 48), 3, 29, 0, 1, 431), (4, (.aload_n 0), 1, 0, 0, 0, 0), (5, (.getfield 19), 3, 0, 1, 2, 298), (8, (.getfield 187), 3, 7, 2, 0, 215), (11, (.ifCond .ne 13), 3, 24, 0, 0, 0), (14, (.new 90), 3, 901, 696, 445, 435), (17, .dup, 1, 0, 0, 0, 0), (18, (.ldc 190), 2, 0, 0, 0, 0), (20, (.invokespecial 94), 3, 9009, 1, 2, 445), (23, .athrow, 1, 0, 0, 0, 0), (24, (.aload_n 0), 1, 0, 0, 0, 0), (25, (.getfield 10), 3, 0, 0, 2, 297), (28, (.aload_n 0), 1, 0, 0, 0, 0), (29, (.getfield 19), 3, 0, 1, 2, 298), (32, (.invokevirtual 192), 3, 90, 0, 1, 697), (35, (.invokevirtual 195), 3, 91, 1, 1, 701), (38, (.aload_n 0), 1, 0, 0, 0, 0), (39, (.getfield 19), 3, 0, 1, 2, 298), (42, (.getfield 187), 3, 7, 2, 0, 215), (45, .ireturn, 1, 0, 0, 0, 0)]
def c90 : List (Nat × En) := [(0, (.aload_n 0), 1, 0, 0, 0, 0), (1, (.aload_n 0), 1, 0, 0, 0, 0), (2, (.getfield 19), 3, 7, 1, 0, 213), (5, (.iconst 1), 1, 0, 0, 0, 0), (6, .isub, 1, 0, 0, 0, 0), (7, (.bipush 40), 2, 0, 0, 0, 0), (9, (.invokestatic 22), 3, 21, 2, 4, 656), (12, (.putfield 19), 3, 7, 1, 0, 213), (15, (.aload_n 0), 1, 0, 0, 0, 0), (16, .dup, 1, 0, 0, 0, 0), (17, (.getfield 15), 3, 7, 2, 0, 214), (20, (.iconst 1), 1, 0, 0, 0, 0), (21, .isub, 1, 0, 0, 0, 0), (22, (.putfield 15), 3, 7, 2, 0, 214), (25, (.aload_n 0), 1, 0, 0, 0, 0), (26, (.getfield 9), 3, 7, 0, 2, 212), (29, (.aload_n 0), 1, 0, 0, 0, 0), (30, (.getfield 19), 3, 7, 1, 0, 213), (33, .iaload, 1, 0, 0, 0, 0), (34, .ireturn, 1, 0, 0, 0, 0)]
def c91 : List (Nat × En) := [(0, (.aload_n 0), 1, 0, 0, 0, 0), (1, (.iload_n 1), 1, 0, 0, 0, 0), (2, (.iconst (-1)), 1, 0, 0, 0, 0), (3, (.invokevirtual 94), 3, 78, 2, 1, 648), (6, .return_, 1, 0, 0, 0, 0)]
def c92 : List (Nat × En) := [(0, (.aload_n 2), 1, 0, 0, 0, 0), (1, (.iconst 0), 1, 0, 0, 0, 0), (2, (.aload_n 0), 1, 0, 0, 0, 0), (3, (.iload_n 1), 1, 0, 0, 0, 0), (4, (.invokevirtual 79), 3, 93, 1, 1, 708), (7, .i2l, 1, 0, 0, 0, 0), (8, .lastore, 1, 0, 0, 0, 0), (9, (.goto 9), 3, 18, 0, 0, 0), (12, (.astore_n 3), 1, 0, 0, 0, 0), (13, (.iconst 1), 1, 0, 0, 0, 0), (14, .ireturn, 1, 0, 0, 0, 0), (15, (.astore_n 3), 1, 0, 0, 0, 0), (16, (.iconst 2), 1, 0, 0, 0, 0), (17, .ireturn, 1, 0, 0, 0, 0), (18, (.iconst 0), 1, 0, 0, 0, 0), (19, .ireturn, 1, 0, 0, 0, 0)]
def c93 : List (Nat × En) := [(0, (.iload_n 1), 1, 0, 0, 0, 0), (1, (.iconst 1), 1, 0, 0, 0, 0), (2, (.if_icmp .lt 10), 3, 12, 0, 0, 0), (5, (.iload_n 1), 1, 0, 0, 0, 0), (6, (.sipush 5000), 3, 0, 0, 0, 0), (9, (.if_icmp .le 13), 3, 22, 0, 0, 0), (12, (.new 41), 3, 900, 712, 405, 363), (15, .dup, 1, 0, 0, 0, 0), (16, (.ldc 198), 2, 0, 0, 0, 0), (18, (.invokespecial 45), 3, 9009, 1, 2, 405), (21, .athrow, 1, 0, 0, 0, 0), (22, (.aload_n 0), 1, 0, 0, 0, 0), (23, (.invokevirtual 48), 3, 29, 0, 1, 431), (26, (.aload_n 0), 1, 0, 0, 0, 0), (27, (.getfield 33), 3, 0, 3, 2, 300), (30, (.aload_n 0), 1, 0, 0, 0, 0), (31, (.getfield 10), 3, 0, 0, 2, 297), (34, (.getfield 137), 3, 2, 8, 2, 166), (37, (.invokevirtual 200), 3, 94, 1, 1, 713), (40, (.aload_n 0), 1, 0, 0, 0, 0), (41, (.iload_n 1), 1, 0, 0, 0, 0), (42, (.invokevirtual 204), 3, 95, 1, 1, 720), (45, (.istore_n 2), 1, 0, 0, 0, 0), (46, (.aload_n 0), 1, 0, 0, 0, 0), (47, (.getfield 10), 3, 0, 0, 2, 297), (50, (.getfield 137), 3, 2, 8, 2, 166), (53, (.aload_n 0), 1, 0, 0, 0, 0), (54, (.getfield 33), 3, 0, 3, 2, 300), (57, (.invokevirtual 200), 3, 94, 1, 1, 713), (60, (.iload_n 2), 1, 0, 0, 0, 0), (61, .ireturn, 1, 0, 0, 0, 0)]
def c94 : List (Nat × En) := [(0, (.aload_n 1), 1, 0, 0, 0, 0), (1, (.getfield 9), 3, 6, 0, 2, 100), (4, (.iconst 0), 1, 0, 0, 0, 0), (5, (.aload_n 0), 1, 0, 0, 0, 0), (6, (.getfield 9), 3, 6, 0, 2, 100), (9, (.iconst 0), 1, 0, 0, 0, 0), (10, (.bipush 6), 2, 0, 0, 0, 0), (12, (.invokestatic 24), 3, 9003, 5, 0, 717), (15, (.aload_n 1), 1, 0, 0, 0, 0), (16, (.getfield 15), 3, 6, 1, 2, 103), (19, (.iconst 0), 1, 0, 0, 0, 0), (20, (.aload_n 0), 1, 0, 0, 0, 0), (21, (.getfield 15), 3, 6, 1, 2, 103), (24, (.iconst 0), 1, 0, 0, 0, 0), (25, (.bipush 12), 2, 0, 0, 0, 0), (27, (.invokestatic 24), 3, 9003, 5, 0, 717), (30, .return_, 1, 0, 0, 0, 0)]
def c95 : List (Nat × En) := [(0, (.iconst 1), 1, 0, 0, 0, 0), (1, (.istore_n 2), 1, 0, 0, 0, 0), (2, (.iload_n 2), 1, 0, 0, 0, 0), (3, (.iload_n 1), 1, 0, 0, 0, 0), (4, (.if_icmp .gt 36), 3, 40, 0, 0, 0), (7, (.aload_n 0), 1, 0, 0, 0, 0), (8, (.getfield 10), 3, 0, 0, 2, 297), (11, (.invokevirtual 172), 3, 74, 0, 1, 632), (14, .pop, 1, 0, 0, 0, 0), (15, (.aload_n 0), 1, 0, 0, 0, 0), (16, (.getfield 10), 3, 0, 0, 2, 297), (19, (.getfield 137), 3, 2, 8, 2, 166), (22, (.aload_n 0), 1, 0, 0, 0, 0), (23, (.getfield 33), 3, 0, 3, 2, 300), (26, (.invokevirtual 278), 3, 96, 1, 1, 724), (29, (.ifCond .eq 5), 3, 34, 0, 0, 0), (32, (.iload_n 2), 1, 0, 0, 0, 0), (33, .ireturn, 1, 0, 0, 0, 0), (34, (.iinc 2 1), 3, 0, 0, 0, 0), (37, (.goto (-35)), 3, 2, 0, 0, 0), (40, (.iconst 0), 1, 0, 0, 0, 0), (41, .ireturn, 1, 0, 0, 0, 0)]
def c96 : List (Nat × En) := [(0, (.iconst 0), 1, 0, 0, 0, 0), (1, (.istore_n 2), 1, 0, 0, 0, 0), (2, (.iload_n 2), 1, 0, 0, 0, 0), (3, (.bipush 6), 2, 0, 0, 0, 0), (5, (.if_icmp .ge 26), 3, 31, 0, 0, 0), (8, (.aload_n 0), 1, 0, 0, 0, 0), (9, (.getfield 9), 3, 6, 0, 2, 100), (12, (.iload_n 2), 1, 0, 0, 0, 0), (13, .iaload, 1, 0, 0, 0, 0), (14, (.aload_n 1), 1, 0, 0, 0, 0), (15, (.getfield 9), 3, 6, 0, 2, 100), (18, (.iload_n 2), 1, 0, 0, 0, 0), (19, .iaload, 1, 0, 0, 0, 0), (20, (.if_icmp .eq 5), 3, 25, 0, 0, 0), (23, (.iconst 0), 1, 0, 0, 0, 0), (24, .ireturn, 1, 0, 0, 0, 0), (25, (.iinc 2 1), 3, 0, 0, 0, 0), (28, (.goto (-26)), 3, 2, 0, 0, 0), (31, (.iconst 0), 1, 0, 0, 0, 0), (32, (.istore_n 2), 1, 0, 0, 0, 0), (33, (.iload_n 2), 1, 0, 0, 0, 0), (34, (.bipush 12), 2, 0, 0, 0, 0), (36, (.if_icmp .ge 26), 3, 62, 0, 0, 0), (39, (.aload_n 0), 1, 0, 0, 0, 0), (40, (.getfield 15), 3, 6, 1, 2, 103), (43, (.iload_n 2), 1, 0, 0, 0, 0), (44, .iaload, 1, 0, 0, 0, 0), (45, (.aload_n 1), 1, 0, 0, 0, 0), (46, (.getfield 15), 3, 6, 1, 2, 103), (49, (.iload_n 2), 1, 0, 0, 0, 0), (50, .iaload, 1, 0, 0, 0, 0), (51, (.if_icmp .eq 5), 3, 56, 0, 0, 0), (54, (.iconst 0), 1, 0, 0, 0, 0), (55, .ireturn, 1, 0, 0, 0, 0), (56, (.iinc 2 1), 3, 0, 0, 0, 0), (59, (.goto (-26)), 3, 33, 0, 0, 0), (62, (.iconst 1), 1, 0, 0, 0, 0), (63, .ireturn, 1, 0, 0, 0, 0)]
def c97 : List (Nat × En) := [(0, (.aload_n 1), 1, 0, 0, 0, 0), (1, (.iconst 0), 1, 0, 0, 0, 0), (2, (.aload_n 0), 1, 0, 0, 0, 0), (3, (.invokevirtual 82), 3, 98, 0, 1, 731), (6, .i2l, 1, 0, 0, 0, 0), (7, .lastore, 1, 0, 0, 0, 0), (8, (.goto 6), 3, 14, 0, 0, 0), (11, (.astore_n 2), 1, 0, 0, 0, 0), (12, (.iconst 1), 1, 0, 0, 0, 0), (13, .ireturn, 1, 0, 0, 0, 0), (14, (.iconst 0), 1, 0, 0, 0, 0), (15, .ireturn, 1, 0, 0, 0, 0)]
def c98 : List (Nat × En) := [(0, (.aload_n 0), 1, 0, 0, 0, 0), (1, (.invokevirtual 48), 3, 29, 0, 1, 431), (4, (.aload_n 0), 1, 0, 0, 0, 0), (5, (.getfield 26), 3, 0, 2, 2, 299), (8, (.getfield 207), 3, 1, 1, 0, 261), (11, (.bipush 20), 2, 0, 0, 0, 0), (13, (.if_icmp .ne 13), 3, 26, 0, 0, 0), (16, (.new 90), 3, 901, 735, 445, 435), (19, .dup, 1, 0, 0, 0, 0), (20, (.ldc 208), 2, 0, 0, 0, 0), (22, (.invokespecial 94), 3, 9009, 1, 2, 445), (25, .athrow, 1, 0, 0, 0, 0), (26, (.aload_n 0), 1, 0, 0, 0, 0), (27, (.getfield 26), 3, 0, 2, 2, 299), (30, (.aload_n 0), 1, 0, 0, 0, 0), (31, (.getfield 10), 3, 0, 0, 2, 297), (34, (.getfield 137), 3, 2, 8, 2, 166), (37, (.invokevirtual 210), 3, 99, 1, 1, 736), (40, .ireturn, 1, 0, 0, 0, 0)]
def c99 : List (Nat × En) := [(0, (.aload_n 0), 1, 0, 0, 0, 0), (1, (.getfield 11), 3, 1, 0, 2, 258), (4, (.aload_n 0), 1, 0, 0, 0, 0), (5, (.getfield 18), 3, 1, 1, 0, 260), (8, .aaload, 1, 0, 0, 0, 0), (9, (.getfield 27), 3, 3, 0, 2, 239), (12, (.aload_n 1), 1, 0, 0, 0, 0), (13, (.invokevirtual 31), 3, 94, 1, 1, 740), (16, (.aload_n 0), 1, 0, 0, 0, 0), (17, (.getfield 11), 3, 1, 0, 2, 258), (20, (.aload_n 0), 1, 0, 0, 0, 0), (21, (.getfield 18), 3, 1, 1, 0, 260), (24, .aaload, 1, 0, 0, 0, 0), (25, (.iconst 0), 1, 0, 0, 0, 0), (26, (.putfield 26), 3, 3, 3, 0, 247), (29, (.aload_n 0), 1, 0, 0, 0, 0), (30, (.iconst 1), 1, 0, 0, 0, 0), (31, (.putfield 22), 3, 1, 2, 1, 262), (34, (.aload_n 0), 1, 0, 0, 0, 0), (35, .dup, 1, 0, 0, 0, 0), (36, (.getfield 18), 3, 1, 1, 0, 260), (39, (.iconst 1), 1, 0, 0, 0, 0), (40, .iadd, 1, 0, 0, 0, 0), (41, (.putfield 18), 3, 1, 1, 0, 260), (44, (.aload_n 0), 1, 0, 0, 0, 0), (45, (.getfield 18), 3, 1, 1, 0, 260), (48, (.iconst 1), 1, 0, 0, 0, 0), (49, .isub, 1, 0, 0, 0, 0), (50, .ireturn, 1, 0, 0, 0, 0)]
def c100 : List (Nat × En) := [(0, (.aload_n 1), 1, 0, 0, 0, 0), (1, (.iconst 0), 1, 0, 0, 0, 0), (2, (.aload_n 0), 1, 0, 0, 0, 0), (3, (.invokevirtual 85), 3, 101, 0, 1, 744), (6, .i2l, 1, 0, 0, 0, 0), (7, .lastore, 1, 0, 0, 0, 0), (8, (.goto 6), 3, 14, 0, 0, 0), (11, (.astore_n 2), 1, 0, 0, 0, 0), (12, (.iconst 1), 1, 0, 0, 0, 0), (13, .ireturn, 1, 0, 0, 0, 0), (14, (.iconst 0), 1, 0, 0, 0, 0), (15, .ireturn, 1, 0, 0, 0, 0)]
def c101 : List (Nat × En) := [(0, (.aload_n 0), 1, 0, 0, 0, 0), (1, (.getfield 26), 3, 0, 2, 2, 299), (4, (.getfield 214), 3, 1, 2, 1, 263), (7, (.ifCond .ne 13), 3, 20, 0, 0, 0), (10, (.new 90), 3, 901, 748, 445, 435), (13, .dup, 1, 0, 0, 0, 0), (14, (.ldc 217), 2, 0, 0, 0, 0), (16, (.invokespecial 94), 3, 9009, 1, 2, 445), (19, .athrow, 1, 0, 0, 0, 0), (20, (.aload_n 0), 1, 0, 0, 0, 0), (21, (.getfield 26), 3, 0, 2, 2, 299), (24, (.invokevirtual 219), 3, 102, 0, 1, 749), (27, .ireturn, 1, 0, 0, 0, 0)]
def c102 : List (Nat × En) := [(0, (.aload_n 0), 1, 0, 0, 0, 0), (1, (.iconst 0), 1, 0, 0, 0, 0), (2, (.putfield 22), 3, 1, 2, 1, 262), (5, (.aload_n 0), 1, 0, 0, 0, 0), (6, (.getfield 11), 3, 1, 0, 2, 258), (9, (.aload_n 0), 1, 0, 0, 0, 0), (10, (.getfield 18), 3, 1, 1, 0, 260), (13, (.iconst 1), 1, 0, 0, 0, 0), (14, .isub, 1, 0, 0, 0, 0), (15, .aaload, 1, 0, 0, 0, 0), (16, (.getfield 26), 3, 3, 3, 0, 247), (19, .ireturn, 1, 0, 0, 0, 0)]
def c103 : List (Nat × En) := [(0, (.aload 4), 2, 0, 0, 0, 0), (2, (.iconst 0), 1, 0, 0, 0, 0), (3, (.aload_n 0), 1, 0, 0, 0, 0), (4, (.iload_n 1), 1, 0, 0, 0, 0), (5, (.iload_n 2), 1, 0, 0, 0, 0), (6, (.iload_n 3), 1, 0, 0, 0, 0), (7, (.invokevirtual 88), 3, 104, 3, 1, 756), (10, .i2l, 1, 0, 0, 0, 0), (11, .lastore, 1, 0, 0, 0, 0), (12, (.goto 11), 3, 23, 0, 0, 0), (15, (.astore 5), 2, 0, 0, 0, 0), (17, (.iconst 1), 1, 0, 0, 0, 0), (18, .ireturn, 1, 0, 0, 0, 0), (19, (.astore 5), 2, 0, 0, 0, 0), (21, (.iconst 2), 1, 0, 0, 0, 0), (22, .ireturn, 1, 0, 0, 0, 0), (23, (.iconst 0), 1, 0, 0, 0, 0), (24, .ireturn, 1, 0, 0, 0, 0)]
def c104 : List (Nat × En) := [(0, (.iload_n 1), 1, 0, 0, 0, 0), (1, (.aload_n 0), 1, 0, 0, 0, 0), (2, (.getfield 26), 3, 0, 2, 2, 299), (5, (.getfield 207), 3, 1, 1, 0, 261), (8, (.invokestatic 58), 3, 34, 2, 0, 467), (11, (.iload_n 2), 1, 0, 0, 0, 0), (12, (.aload_n 0), 1, 0, 0, 0, 0), (13, (.getfield 26), 3, 0, 2, 2, 299), (16, (.getfield 222), 3, 1, 0, 2, 259), (19, (.iload_n 1), 1, 0, 0, 0, 0), (20, .aaload, 1, 0, 0, 0, 0), (21, (.getfield 226), 3, 3, 3, 0, 248), (24, (.invokestatic 58), 3, 34, 2, 0, 467), (27, (.iload_n 3), 1, 0, 0, 0, 0), (28, (.ifCond .eq 18), 3, 46, 0, 0, 0), (31, (.iload_n 3), 1, 0, 0, 0, 0), (32, (.iconst 1), 1, 0, 0, 0, 0), (33, (.if_icmp .eq 13), 3, 46, 0, 0, 0), (36, (.new 41), 3, 900, 760, 405, 363), (39, .dup, 1, 0, 0, 0, 0), (40, (.ldc 229), 2, 0, 0, 0, 0), (42, (.invokespecial 45), 3, 9009, 1, 2, 405), (45, .athrow, 1, 0, 0, 0, 0), (46, (.iload_n 3), 1, 0, 0, 0, 0), (47, (.ifCond .ne 20), 3, 67, 0, 0, 0), (50, (.aload_n 0), 1, 0, 0, 0, 0), (51, (.getfield 26), 3, 0, 2, 2, 299), (54, (.getfield 222), 3, 1, 0, 2, 259), (57, (.iload_n 1), 1, 0, 0, 0, 0), (58, .aaload, 1, 0, 0, 0, 0), (59, (.getfield 231), 3, 3, 1, 2, 243), (62, (.iload_n 2), 1, 0, 0, 0, 0), (63, .iaload, 1, 0, 0, 0, 0), (64, (.goto 17), 3, 81, 0, 0, 0), (67, (.aload_n 0), 1, 0, 0, 0, 0), (68, (.getfield 26), 3, 0, 2, 2, 299), (71, (.getfield 222), 3, 1, 0, 2, 259), (74, (.iload_n 1), 1, 0, 0, 0, 0), (75, .aaload, 1, 0, 0, 0, 0), (76, (.getfield 234), 3, 3, 2, 2, 246), (79, (.iload_n 2), 1, 0, 0, 0, 0), (80, .iaload, 1, 0, 0, 0, 0), (81, .ireturn, 1, 0, 0, 0, 0)]
def c105 : List (Nat × En) := [(0, (.aload_n 2), 1, 0, 0, 0, 0), (1, (.iconst 0), 1, 0, 0, 0, 0), (2, (.aload_n 0), 1, 0, 0, 0, 0), (3, (.iload_n 1), 1, 0, 0, 0, 0), (4, (.invokevirtual 91), 3, 106, 1, 1, 764), (7, .i2l, 1, 0, 0, 0, 0), (8, .lastore, 1, 0, 0, 0, 0), (9, (.goto 9), 3, 18, 0, 0, 0), (12, (.astore_n 3), 1, 0, 0, 0, 0), (13, (.iconst 1), 1, 0, 0, 0, 0), (14, .ireturn, 1, 0, 0, 0, 0), (15, (.astore_n 3), 1, 0, 0, 0, 0), (16, (.iconst 2), 1, 0, 0, 0, 0), (17, .ireturn, 1, 0, 0, 0, 0), (18, (.iconst 0), 1, 0, 0, 0, 0), (19, .ireturn, 1, 0, 0, 0, 0)]
def c106 : List (Nat × En) := [(0, (.iload_n 1), 1, 0, 0, 0, 0), (1, (.aload_n 0), 1, 0, 0, 0, 0), (2, (.getfield 26), 3, 0, 2, 2, 299), (5, (.getfield 207), 3, 1, 1, 0, 261), (8, (.invokestatic 58), 3, 34, 2, 0, 467), (11, (.aload_n 0), 1, 0, 0, 0, 0), (12, (.getfield 26), 3, 0, 2, 2, 299), (15, (.iload_n 1), 1, 0, 0, 0, 0), (16, (.invokevirtual 237), 3, 107, 1, 1, 768), (19, (.ifCond .eq 13), 3, 32, 0, 0, 0), (22, (.new 90), 3, 901, 772, 445, 435), (25, .dup, 1, 0, 0, 0, 0), (26, (.ldc 240), 2, 0, 0, 0, 0), (28, (.invokespecial 94), 3, 9009, 1, 2, 445), (31, .athrow, 1, 0, 0, 0, 0), (32, (.aload_n 0), 1, 0, 0, 0, 0), (33, (.getfield 33), 3, 0, 3, 2, 300), (36, (.aload_n 0), 1, 0, 0, 0, 0), (37, (.getfield 10), 3, 0, 0, 2, 297), (40, (.getfield 137), 3, 2, 8, 2, 166), (43, (.invokevirtual 200), 3, 94, 1, 1, 713), (46, (.aload_n 0), 1, 0, 0, 0, 0), (47, (.getfield 10), 3, 0, 0, 2, 297), (50, (.aload_n 0), 1, 0, 0, 0, 0), (51, (.getfield 26), 3, 0, 2, 2, 299), (54, (.getfield 222), 3, 1, 0, 2, 259), (57, (.iload_n 1), 1, 0, 0, 0, 0), (58, .aaload, 1, 0, 0, 0, 0), (59, (.getfield 242), 3, 3, 0, 2, 240), (62, (.invokevirtual 245), 3, 108, 1, 1, 773), (65, (.aload_n 0), 1, 0, 0, 0, 0), (66, (.aload_n 0), 1, 0, 0, 0, 0), (67, (.getfield 26), 3, 0, 2, 2, 299), (70, (.getfield 222), 3, 1, 0, 2, 259), (73, (.iload_n 1), 1, 0, 0, 0, 0), (74, .aaload, 1, 0, 0, 0, 0), (75, (.invokevirtual 248), 3, 109, 1, 1, 778), (78, (.istore_n 2), 1, 0, 0, 0, 0), (79, (.aload_n 0), 1, 0, 0, 0, 0), (80, (.getfield 10), 3, 0, 0, 2, 297), (83, (.getfield 137), 3, 2, 8, 2, 166), (86, (.aload_n 0), 1, 0, 0, 0, 0), (87, (.getfield 33), 3, 0, 3, 2, 300), (90, (.invokevirtual 200), 3, 94, 1, 1, 713), (93, (.iload_n 2), 1, 0, 0, 0, 0), (94, .ireturn, 1, 0, 0, 0, 0)]
def c107 : List (Nat × En) := [(0, (.aload_n 0), 1, 0, 0, 0, 0), (1, (.getfield 22), 3, 1, 2, 1, 262), (4, (.ifCond .eq 17), 3, 21, 0, 0, 0), (7, (.iload_n 1), 1, 0, 0, 0, 0), (8, (.aload_n 0), 1, 0, 0, 0, 0), (9, (.getfield 18), 3, 1, 1, 0, 260), (12, (.iconst 1), 1, 0, 0, 0, 0), (13, .isub, 1, 0, 0, 0, 0), (14, (.if_icmp .ne 7), 3, 21, 0, 0, 0), (17, (.iconst 1), 1, 0, 0, 0, 0), (18, (.goto 4), 3, 22, 0, 0, 0), (21, (.iconst 0), 1, 0, 0, 0, 0), (22, .ireturn, 1, 0, 0, 0, 0)]
def c108 : List (Nat × En) := [(0, (.aload_n 0), 1, 0, 0, 0, 0), (1, (.getfield 49), 3, 2, 8, 2, 165), (4, (.aload_n 1), 1, 0, 0, 0, 0), (5, (.invokevirtual 124), 3, 94, 1, 1, 777), (8, (.iconst 0), 1, 0, 0, 0, 0), (9, (.istore_n 2), 1, 0, 0, 0, 0), (10, (.iload_n 2), 1, 0, 0, 0, 0), (11, (.bipush 12), 2, 0, 0, 0, 0), (13, (.if_icmp .ge 44), 3, 57, 0, 0, 0), (16, (.aload_n 0), 1, 0, 0, 0, 0), (17, (.getfield 26), 3, 2, 3, 2, 155), (20, (.iload_n 2), 1, 0, 0, 0, 0), (21, .aaload, 1, 0, 0, 0, 0), (22, (.getfield 87), 3, 5, 1, 0, 144), (25, (.istore_n 3), 1, 0, 0, 0, 0), (26, (.aload_n 0), 1, 0, 0, 0, 0), (27, (.getfield 49), 3, 2, 8, 2, 165), (30, (.getfield 105), 3, 6, 1, 2, 104), (33, (.iload_n 2), 1, 0, 0, 0, 0), (34, (.iload_n 3), 1, 0, 0, 0, 0), (35, (.ifCond .le 14), 3, 49, 0, 0, 0), (38, (.aload_n 1), 1, 0, 0, 0, 0), (39, (.getfield 105), 3, 6, 1, 2, 104), (42, (.iload_n 2), 1, 0, 0, 0, 0), (43, .iaload, 1, 0, 0, 0, 0), (44, (.iload_n 3), 1, 0, 0, 0, 0), (45, .irem, 1, 0, 0, 0, 0), (46, (.goto 4), 3, 50, 0, 0, 0), (49, (.iconst 0), 1, 0, 0, 0, 0), (50, .iastore, 1, 0, 0, 0, 0), (51, (.iinc 2 1), 3, 0, 0, 0, 0), (54, (.goto (-44)), 3, 10, 0, 0, 0), (57, .return_, 1, 0, 0, 0, 0)]
def c109 : List (Nat × En) := [(0, (.iconst 0), 1, 0, 0, 0, 0), (1, (.istore_n 2), 1, 0, 0, 0, 0), (2, (.iload_n 2), 1, 0, 0, 0, 0), (3, (.aload_n 1), 1, 0, 0, 0, 0), (4, (.getfield 226), 3, 3, 3, 0, 248), (7, (.if_icmp .ge 41), 3, 48, 0, 0, 0), (10, (.aload_n 0), 1, 0, 0, 0, 0), (11, (.getfield 10), 3, 0, 0, 2, 297), (14, (.invokevirtual 172), 3, 74, 0, 1, 632), (17, .pop, 1, 0, 0, 0, 0), (18, (.aload_n 0), 1, 0, 0, 0, 0), (19, (.getfield 10), 3, 0, 0, 2, 297), (22, (.aload_n 1), 1, 0, 0, 0, 0), (23, (.getfield 231), 3, 3, 1, 2, 243), (26, (.iload_n 2), 1, 0, 0, 0, 0), (27, .iaload, 1, 0, 0, 0, 0), (28, (.invokevirtual 179), 3, 17, 1, 1, 314), (31, (.aload_n 1), 1, 0, 0, 0, 0), (32, (.getfield 234), 3, 3, 2, 2, 246), (35, (.iload_n 2), 1, 0, 0, 0, 0), (36, .iaload, 1, 0, 0, 0, 0), (37, (.if_icmp .eq 5), 3, 42, 0, 0, 0), (40, (.iload_n 2), 1, 0, 0, 0, 0), (41, .ireturn, 1, 0, 0, 0, 0), (42, (.iinc 2 1), 3, 0, 0, 0, 0), (45, (.goto (-43)), 3, 2, 0, 0, 0), (48, (.iconst (-1)), 1, 0, 0, 0, 0), (49, .ireturn, 1, 0, 0, 0, 0)]
def c110 : List (Nat × En) := [(0, (.aload_n 2), 1, 0, 0, 0, 0), (1, (.iconst 0), 1, 0, 0, 0, 0), (2, (.aload_n 0), 1, 0, 0, 0, 0), (3, (.iload_n 1), 1, 0, 0, 0, 0), (4, (.invokevirtual 94), 3, 111, 1, 1, 785), (7, .i2l, 1, 0, 0, 0, 0), (8, .lastore, 1, 0, 0, 0, 0), (9, (.goto 6), 3, 15, 0, 0, 0), (12, (.astore_n 3), 1, 0, 0, 0, 0), (13, (.iconst 1), 1, 0, 0, 0, 0), (14, .ireturn, 1, 0, 0, 0, 0), (15, (.iconst 0), 1, 0, 0, 0, 0), (16, .ireturn, 1, 0, 0, 0, 0)]
def c111 : List (Nat × En) := [(0, (.iload_n 1), 1, 0, 0, 0, 0), (1, (.tableswitch 125 0 7 #[47, 55, 63, 74, 85, 93, 101, 117]), 47, 0, 0, 0, 0), (48, (.aload_n 0), 1, 0, 0, 0, 0), (49, (.getfield 10), 3, 0, 0, 2, 297), (52, (.getfield 51), 3, 2, 9, 0, 167), (55, .ireturn, 1, 0, 0, 0, 0), (56, (.aload_n 0), 1, 0, 0, 0, 0), (57, (.getfield 10), 3, 0, 0, 2, 297), (60, (.getfield 252), 3, 2, 10, 0, 170), (63, .ireturn, 1, 0, 0, 0, 0), (64, (.aload_n 0), 1, 0, 0, 0, 0), (65, (.getfield 10), 3, 0, 0, 2, 297), (68, (.getfield 255), 3, 2, 6, 2, 162), (71, (.getfield 259), 3, 4, 1, 0, 87), (74, .ireturn, 1, 0, 0, 0, 0), (75, (.aload_n 0), 1, 0, 0, 0, 0), (76, (.getfield 10), 3, 0, 0, 2, 297), (79, (.getfield 260), 3, 2, 7, 2, 164), (82, (.getfield 259), 3, 4, 1, 0, 87), (85, .ireturn, 1, 0, 0, 0, 0), (86, (.aload_n 0), 1, 0, 0, 0, 0), (87, (.getfield 10), 3, 0, 0, 2, 297), (90, (.invokevirtual 263), 3, 112, 0, 1, 789), (93, .ireturn, 1, 0, 0, 0, 0), (94, (.aload_n 0), 1, 0, 0, 0, 0), (95, (.getfield 26), 3, 0, 2, 2, 299), (98, (.getfield 207), 3, 1, 1, 0, 261), (101, .ireturn, 1, 0, 0, 0, 0), (102, (.aload_n 0), 1, 0, 0, 0, 0), (103, (.getfield 26), 3, 0, 2, 2, 299), (106, (.getfield 214), 3, 1, 2, 1, 263), (109, (.ifCond .eq 7), 3, 116, 0, 0, 0), (112, (.iconst 1), 1, 0, 0, 0, 0), (113, (.goto 4), 3, 117, 0, 0, 0), (116, (.iconst 0), 1, 0, 0, 0, 0), (117, .ireturn, 1, 0, 0, 0, 0), (118, (.aload_n 0), 1, 0, 0, 0, 0), (119, (.getfield 19), 3, 0, 1, 2, 298), (122, (.getfield 187), 3, 7, 2, 0, 215), (125, .ireturn, 1, 0, 0, 0, 0), (126, (.new 41), 3, 900, 793, 405, 363), (129, .dup, 1, 0, 0, 0, 0), (130, (.ldc_w 266), 3, 0, 0, 0, 0), (133, (.invokespecial 45), 3, 9009, 1, 2, 405), (136, .athrow, 1, 0, 0, 0, 0)]
def c112 : List (Nat × En) := [(0, (.iconst 0), 1, 0, 0, 0, 0), (1, (.istore_n 1), 1, 0, 0, 0, 0), (2, (.iconst 0), 1, 0, 0, 0, 0), (3, (.istore_n 2), 1, 0, 0, 0, 0), (4, (.iload_n 2), 1, 0, 0, 0, 0), (5, (.bipush 12), 2, 0, 0, 0, 0), (7, (.if_icmp .ge 24), 3, 31, 0, 0, 0), (10, (.aload_n 0), 1, 0, 0, 0, 0), (11, (.getfield 26), 3, 2, 3, 2, 155), (14, (.iload_n 2), 1, 0, 0, 0, 0), (15, .aaload, 1, 0, 0, 0, 0), (16, (.getfield 87), 3, 5, 1, 0, 144), (19, (.ifCond .le 6), 3, 25, 0, 0, 0), (22, (.iinc 1 1), 3, 0, 0, 0, 0), (25, (.iinc 2 1), 3, 0, 0, 0, 0), (28, (.goto (-24)), 3, 4, 0, 0, 0), (31, (.iload_n 1), 1, 0, 0, 0, 0), (32, .ireturn, 1, 0, 0, 0, 0)]
def c113_0 : List (Nat × En) := [(0, (.aload_n 0), 1, 0, 0, 0, 0), (1, (.invokespecial 1), 3, 9001, 0, 2, 799), (4, (.aload_n 0), 1, 0, 0, 0, 0), (5, (.bipush 26), 2, 0, 0, 0, 0), (7, (.putfield 7), 3, 9, 1, 0, 805), (10, (.aload_n 0), 1, 0, 0, 0, 0), (11, (.sipush 256), 3, 0, 0, 0, 0), (14, (.newarray .int), 2, 0, 0, 0, 0), (16, (.putfield 13), 3, 9, 2, 2, 806), (19, (.aload_n 0), 1, 0, 0, 0, 0), (20, (.bipush 8), 2, 0, 0, 0, 0), (22, (.newarray .int), 2, 0, 0, 0, 0), (24, (.putfield 17), 3, 9, 3, 2, 807), (27, (.aload_n 0), 1, 0, 0, 0, 0), (28, (.sipush 256), 3, 0, 0, 0, 0), (31, (.newarray .boolean), 2, 1, 0, 0, 0), (33, (.putfield 20), 3, 9, 4, 2, 808), (36, (.aload_n 0), 1, 0, 0, 0, 0), (37, (.bipush 6), 2, 0, 0, 0, 0), (39, (.newarray .int), 2, 0, 0, 0, 0), (41, (.putfield 24), 3, 9, 5, 2, 809), (44, (.aload_n 0), 1, 0, 0, 0, 0), (45, (.bipush 64), 2, 0, 0, 0, 0), (47, (.newarray .int), 2, 0, 0, 0, 0), (49, (.putfield 27), 3, 9, 6, 2, 810), (52, (.aload_n 0), 1, 0, 0, 0, 0), (53, (.bipush 12), 2, 0, 0, 0, 0), (55, (.newarray .int), 2, 0, 0, 0, 0), (57, (.putfield 30), 3, 9, 8, 2, 812), (60, (.aload_n 0), 1, 0, 0, 0, 0), (61, (.sipush 768), 3, 0, 0, 0, 0), (64, (.newarray .boolean), 2, 1, 0, 0, 0), (66, (.putfield 33), 3, 9, 9, 2, 813), (69, (.aload_n 0), 1, 0, 0, 0, 0), (70, (.bipush 54), 2, 0, 0, 0, 0), (72, (.newarray .int), 2, 0, 0, 0, 0), (74, (.putfield 36), 3, 9, 10, 2, 814), (77, (.aload_n 0), 1, 0, 0, 0, 0), (78, (.bipush 18), 2, 0, 0, 0, 0), (80, (.newarray .int), 2, 0, 0, 0, 0)]
def c113_1 : List (Nat × En) := [(82, (.putfield 39), 3, 9, 13, 2, 817), (85, (.aload_n 0), 1, 0, 0, 0, 0), (86, (.bipush 18), 2, 0, 0, 0, 0), (88, (.newarray .int), 2, 0, 0, 0, 0), (90, (.putfield 42), 3, 9, 14, 2, 818), (93, (.aload_n 0), 1, 0, 0, 0, 0), (94, (.bipush 6), 2, 0, 0, 0, 0), (96, (.newarray .boolean), 2, 1, 0, 0, 0), (98, (.putfield 45), 3, 9, 15, 2, 819), (101, (.aload_n 0), 1, 0, 0, 0, 0), (102, (.sipush 720), 3, 0, 0, 0, 0), (105, (.newarray .int), 2, 0, 0, 0, 0), (107, (.putfield 48), 3, 9, 17, 2, 821), (110, (.aload_n 0), 1, 0, 0, 0, 0), (111, (.bipush 20), 2, 0, 0, 0, 0), (113, (.newarray .int), 2, 0, 0, 0, 0), (115, (.putfield 51), 3, 9, 20, 2, 824), (118, (.aload_n 0), 1, 0, 0, 0, 0), (119, (.sipush 360), 3, 0, 0, 0, 0), (122, (.newarray .int), 2, 0, 0, 0, 0), (124, (.putfield 54), 3, 9, 21, 2, 825), (127, (.aload_n 0), 1, 0, 0, 0, 0), (128, (.sipush 1200), 3, 0, 0, 0, 0), (131, (.newarray .int), 2, 0, 0, 0, 0), (133, (.putfield 57), 3, 9, 22, 2, 826), (136, (.aload_n 0), 1, 0, 0, 0, 0), (137, (.sipush 1200), 3, 0, 0, 0, 0), (140, (.newarray .int), 2, 0, 0, 0, 0), (142, (.putfield 60), 3, 9, 23, 2, 827), (145, (.aload_n 0), 1, 0, 0, 0, 0), (146, (.invokevirtual 63), 3, 114, 0, 1, 800), (149, .return_, 1, 0, 0, 0, 0)]
def c113 : List (Nat × En) := c113_0 ++ (c113_1)
def c114_0 : List (Nat × En) := [(0, (.iconst 0), 1, 0, 0, 0, 0), (1, (.istore_n 1), 1, 0, 0, 0, 0), (2, (.iload_n 1), 1, 0, 0, 0, 0), (3, (.sipush 256), 3, 0, 0, 0, 0), (6, (.if_icmp .ge 26), 3, 32, 0, 0, 0), (9, (.aload_n 0), 1, 0, 0, 0, 0), (10, (.getfield 13), 3, 9, 2, 2, 806), (13, (.iload_n 1), 1, 0, 0, 0, 0), (14, (.iload_n 1), 1, 0, 0, 0, 0), (15, (.bipush 32), 2, 0, 0, 0, 0), (17, .irem, 1, 0, 0, 0, 0), (18, .iastore, 1, 0, 0, 0, 0), (19, (.aload_n 0), 1, 0, 0, 0, 0), (20, (.getfield 20), 3, 9, 4, 2, 808), (23, (.iload_n 1), 1, 0, 0, 0, 0), (24, (.iconst 0), 1, 0, 0, 0, 0), (25, .bastore, 1, 0, 0, 0, 0), (26, (.iinc 1 1), 3, 0, 0, 0, 0), (29, (.goto (-27)), 3, 2, 0, 0, 0), (32, (.iconst 0), 1, 0, 0, 0, 0), (33, (.istore_n 1), 1, 0, 0, 0, 0), (34, (.iload_n 1), 1, 0, 0, 0, 0), (35, (.bipush 64), 2, 0, 0, 0, 0), (37, (.if_icmp .ge 19), 3, 56, 0, 0, 0), (40, (.aload_n 0), 1, 0, 0, 0, 0), (41, (.getfield 27), 3, 9, 6, 2, 810), (44, (.iload_n 1), 1, 0, 0, 0, 0), (45, (.iload_n 1), 1, 0, 0, 0, 0), (46, (.bipush 32), 2, 0, 0, 0, 0), (48, .irem, 1, 0, 0, 0, 0), (49, .iastore, 1, 0, 0, 0, 0), (50, (.iinc 1 1), 3, 0, 0, 0, 0), (53, (.goto (-19)), 3, 34, 0, 0, 0), (56, (.iconst 0), 1, 0, 0, 0, 0), (57, (.istore_n 1), 1, 0, 0, 0, 0), (58, (.iload_n 1), 1, 0, 0, 0, 0), (59, (.bipush 8), 2, 0, 0, 0, 0), (61, (.if_icmp .ge 16), 3, 77, 0, 0, 0), (64, (.aload_n 0), 1, 0, 0, 0, 0), (65, (.getfield 17), 3, 9, 3, 2, 807)]
def c114_1 : List (Nat × En) := [(68, (.iload_n 1), 1, 0, 0, 0, 0), (69, (.iconst 0), 1, 0, 0, 0, 0), (70, .iastore, 1, 0, 0, 0, 0), (71, (.iinc 1 1), 3, 0, 0, 0, 0), (74, (.goto (-16)), 3, 58, 0, 0, 0), (77, (.iconst 0), 1, 0, 0, 0, 0), (78, (.istore_n 1), 1, 0, 0, 0, 0), (79, (.iload_n 1), 1, 0, 0, 0, 0), (80, (.bipush 6), 2, 0, 0, 0, 0), (82, (.if_icmp .ge 16), 3, 98, 0, 0, 0), (85, (.aload_n 0), 1, 0, 0, 0, 0), (86, (.getfield 24), 3, 9, 5, 2, 809), (89, (.iload_n 1), 1, 0, 0, 0, 0), (90, (.iconst (-1)), 1, 0, 0, 0, 0), (91, .iastore, 1, 0, 0, 0, 0), (92, (.iinc 1 1), 3, 0, 0, 0, 0), (95, (.goto (-16)), 3, 79, 0, 0, 0), (98, (.iconst 0), 1, 0, 0, 0, 0), (99, (.istore_n 1), 1, 0, 0, 0, 0), (100, (.iload_n 1), 1, 0, 0, 0, 0), (101, (.bipush 12), 2, 0, 0, 0, 0), (103, (.if_icmp .ge 16), 3, 119, 0, 0, 0), (106, (.aload_n 0), 1, 0, 0, 0, 0), (107, (.getfield 30), 3, 9, 8, 2, 812), (110, (.iload_n 1), 1, 0, 0, 0, 0), (111, (.iconst 0), 1, 0, 0, 0, 0), (112, .iastore, 1, 0, 0, 0, 0), (113, (.iinc 1 1), 3, 0, 0, 0, 0), (116, (.goto (-16)), 3, 100, 0, 0, 0), (119, (.iconst 0), 1, 0, 0, 0, 0), (120, (.istore_n 1), 1, 0, 0, 0, 0), (121, (.iload_n 1), 1, 0, 0, 0, 0), (122, (.bipush 54), 2, 0, 0, 0, 0), (124, (.if_icmp .ge 16), 3, 140, 0, 0, 0), (127, (.aload_n 0), 1, 0, 0, 0, 0), (128, (.getfield 36), 3, 9, 10, 2, 814), (131, (.iload_n 1), 1, 0, 0, 0, 0), (132, (.iconst (-1)), 1, 0, 0, 0, 0), (133, .iastore, 1, 0, 0, 0, 0), (134, (.iinc 1 1), 3, 0, 0, 0, 0)]
def c114_2 : List (Nat × En) := [(137, (.goto (-16)), 3, 121, 0, 0, 0), (140, (.iconst 0), 1, 0, 0, 0, 0), (141, (.istore_n 1), 1, 0, 0, 0, 0), (142, (.iload_n 1), 1, 0, 0, 0, 0), (143, (.bipush 18), 2, 0, 0, 0, 0), (145, (.if_icmp .ge 16), 3, 161, 0, 0, 0), (148, (.aload_n 0), 1, 0, 0, 0, 0), (149, (.getfield 39), 3, 9, 13, 2, 817), (152, (.iload_n 1), 1, 0, 0, 0, 0), (153, (.iconst 0), 1, 0, 0, 0, 0), (154, .iastore, 1, 0, 0, 0, 0), (155, (.iinc 1 1), 3, 0, 0, 0, 0), (158, (.goto (-16)), 3, 142, 0, 0, 0), (161, (.aload_n 0), 1, 0, 0, 0, 0), (162, (.iconst 0), 1, 0, 0, 0, 0), (163, (.putfield 66), 3, 9, 7, 1, 811), (166, (.aload_n 0), 1, 0, 0, 0, 0), (167, (.iconst 0), 1, 0, 0, 0, 0), (168, (.putfield 70), 3, 9, 11, 0, 815), (171, (.aload_n 0), 1, 0, 0, 0, 0), (172, (.iconst 0), 1, 0, 0, 0, 0), (173, (.putfield 73), 3, 9, 12, 0, 816), (176, (.aload_n 0), 1, 0, 0, 0, 0), (177, (.iconst 0), 1, 0, 0, 0, 0), (178, (.putfield 76), 3, 9, 16, 0, 820), (181, (.aload_n 0), 1, 0, 0, 0, 0), (182, (.iconst 0), 1, 0, 0, 0, 0), (183, (.putfield 79), 3, 9, 18, 0, 822), (186, (.aload_n 0), 1, 0, 0, 0, 0), (187, (.iconst 0), 1, 0, 0, 0, 0), (188, (.putfield 82), 3, 9, 19, 1, 823), (191, .return_, 1, 0, 0, 0, 0)]
def c114 : List (Nat × En) := c114_0 ++ (c114_1 ++ (c114_2))
def c115 : List (Nat × En) := [(0, (.aload_n 0), 1, 0, 0, 0, 0), (1, (.getfield 85), 3, 9, 0, 0, 804), (4, .ireturn, 1, 0, 0, 0, 0)]
def c116 : List (Nat × En) := [(0, (.aload_n 0), 1, 0, 0, 0, 0), (1, (.iload_n 1), 1, 0, 0, 0, 0), (2, (.bipush 10), 2, 0, 0, 0, 0), (4, (.if_icmp .eq 15), 3, 19, 0, 0, 0), (7, (.iload_n 1), 1, 0, 0, 0, 0), (8, (.bipush 26), 2, 0, 0, 0, 0), (10, (.if_icmp .eq 9), 3, 19, 0, 0, 0), (13, (.iload_n 1), 1, 0, 0, 0, 0), (14, (.bipush 32), 2, 0, 0, 0, 0), (16, (.if_icmp .ne 7), 3, 23, 0, 0, 0), (19, (.iconst 1), 1, 0, 0, 0, 0), (20, (.goto 4), 3, 24, 0, 0, 0), (23, (.iconst 0), 1, 0, 0, 0, 0), (24, (.aload_n 0), 1, 0, 0, 0, 0), (25, (.getfield 82), 3, 9, 19, 1, 823), (28, (.ifCond .ne 7), 3, 35, 0, 0, 0), (31, (.iconst 1), 1, 0, 0, 0, 0), (32, (.goto 4), 3, 36, 0, 0, 0), (35, (.iconst 0), 1, 0, 0, 0, 0), (36, (.iconst 1), 1, 0, 0, 0, 0), (37, (.invokevirtual 88), 3, 117, 3, 1, 885), (40, (.ifCond .ne 5), 3, 45, 0, 0, 0), (43, (.iconst 0), 1, 0, 0, 0, 0), (44, .ireturn, 1, 0, 0, 0, 0), (45, (.aload_n 0), 1, 0, 0, 0, 0), (46, (.getfield 7), 3, 9, 1, 0, 805), (49, (.istore_n 2), 1, 0, 0, 0, 0), (50, (.aload_n 0), 1, 0, 0, 0, 0), (51, (.iload_n 1), 1, 0, 0, 0, 0), (52, (.putfield 7), 3, 9, 1, 0, 805), (55, (.aload_n 0), 1, 0, 0, 0, 0), (56, (.invokevirtual 63), 3, 114, 0, 1, 800), (59, (.iload_n 2), 1, 0, 0, 0, 0), (60, .ireturn, 1, 0, 0, 0, 0)]
def c117 : List (Nat × En) := [(0, (.aload_n 0), 1, 0, 0, 0, 0), (1, (.iload_n 1), 1, 0, 0, 0, 0), (2, (.ifCond .ne 7), 3, 9, 0, 0, 0), (5, (.iconst 1), 1, 0, 0, 0, 0), (6, (.goto 20), 3, 26, 0, 0, 0), (9, (.iload_n 2), 1, 0, 0, 0, 0), (10, (.ifCond .ne 7), 3, 17, 0, 0, 0), (13, (.iconst 2), 1, 0, 0, 0, 0), (14, (.goto 12), 3, 26, 0, 0, 0), (17, (.iload_n 3), 1, 0, 0, 0, 0), (18, (.ifCond .ne 7), 3, 25, 0, 0, 0), (21, (.iconst 3), 1, 0, 0, 0, 0), (22, (.goto 4), 3, 26, 0, 0, 0), (25, (.iconst 0), 1, 0, 0, 0, 0), (26, (.putfield 85), 3, 9, 0, 0, 804), (29, (.aload_n 0), 1, 0, 0, 0, 0), (30, (.getfield 85), 3, 9, 0, 0, 804), (33, (.ifCond .ne 7), 3, 40, 0, 0, 0), (36, (.iconst 1), 1, 0, 0, 0, 0), (37, (.goto 4), 3, 41, 0, 0, 0), (40, (.iconst 0), 1, 0, 0, 0, 0), (41, .ireturn, 1, 0, 0, 0, 0)]
def c118_0 : List (Nat × En) := [(0, (.aload_n 0), 1, 0, 0, 0, 0), (1, (.iload_n 1), 1, 0, 0, 0, 0), (2, (.iconst 0), 1, 0, 0, 0, 0), (3, (.bipush 7), 2, 0, 0, 0, 0), (5, (.invokestatic 92), 3, 119, 3, 0, 893), (8, (.ifCond .eq 23), 3, 31, 0, 0, 0), (11, (.aload_n 0), 1, 0, 0, 0, 0), (12, (.iload_n 2), 1, 0, 0, 0, 0), (13, (.invokevirtual 96), 3, 120, 1, 1, 896), (16, (.ifCond .eq 15), 3, 31, 0, 0, 0), (19, (.aload_n 0), 1, 0, 0, 0, 0), (20, (.iload_n 3), 1, 0, 0, 0, 0), (21, (.invokevirtual 96), 3, 120, 1, 1, 896), (24, (.ifCond .eq 7), 3, 31, 0, 0, 0), (27, (.iconst 1), 1, 0, 0, 0, 0), (28, (.goto 4), 3, 32, 0, 0, 0), (31, (.iconst 0), 1, 0, 0, 0, 0), (32, (.aload_n 0), 1, 0, 0, 0, 0), (33, (.getfield 82), 3, 9, 19, 1, 823), (36, (.ifCond .ne 7), 3, 43, 0, 0, 0), (39, (.iconst 1), 1, 0, 0, 0, 0), (40, (.goto 4), 3, 44, 0, 0, 0), (43, (.iconst 0), 1, 0, 0, 0, 0), (44, (.iconst 1), 1, 0, 0, 0, 0), (45, (.invokevirtual 88), 3, 117, 3, 1, 885), (48, (.ifCond .ne 5), 3, 53, 0, 0, 0), (51, (.iconst 0), 1, 0, 0, 0, 0), (52, .ireturn, 1, 0, 0, 0, 0), (53, (.iconst 0), 1, 0, 0, 0, 0), (54, (.istore 4), 2, 0, 0, 0, 0), (56, (.aload_n 0), 1, 0, 0, 0, 0), (57, (.getfield 13), 3, 9, 2, 2, 806), (60, (.bipush 32), 2, 0, 0, 0, 0), (62, (.iload_n 1), 1, 0, 0, 0, 0), (63, .imul, 1, 0, 0, 0, 0), (64, (.iload 4), 2, 0, 0, 0, 0), (66, .iadd, 1, 0, 0, 0, 0), (67, .iaload, 1, 0, 0, 0, 0), (68, (.iload_n 3), 1, 0, 0, 0, 0), (69, (.if_icmp .eq 9), 3, 78, 0, 0, 0)]
def c118_1 : List (Nat × En) := [(72, (.iinc 4 1), 3, 0, 0, 0, 0), (75, (.goto (-19)), 3, 56, 0, 0, 0), (78, (.aload_n 0), 1, 0, 0, 0, 0), (79, (.getfield 13), 3, 9, 2, 2, 806), (82, (.bipush 32), 2, 0, 0, 0, 0), (84, (.iload_n 1), 1, 0, 0, 0, 0), (85, .imul, 1, 0, 0, 0, 0), (86, (.iload 4), 2, 0, 0, 0, 0), (88, .iadd, 1, 0, 0, 0, 0), (89, (.aload_n 0), 1, 0, 0, 0, 0), (90, (.getfield 13), 3, 9, 2, 2, 806), (93, (.bipush 32), 2, 0, 0, 0, 0), (95, (.iload_n 1), 1, 0, 0, 0, 0), (96, .imul, 1, 0, 0, 0, 0), (97, (.iload_n 2), 1, 0, 0, 0, 0), (98, .iadd, 1, 0, 0, 0, 0), (99, .iaload, 1, 0, 0, 0, 0), (100, .iastore, 1, 0, 0, 0, 0), (101, (.aload_n 0), 1, 0, 0, 0, 0), (102, (.getfield 13), 3, 9, 2, 2, 806), (105, (.bipush 32), 2, 0, 0, 0, 0), (107, (.iload_n 1), 1, 0, 0, 0, 0), (108, .imul, 1, 0, 0, 0, 0), (109, (.iload_n 2), 1, 0, 0, 0, 0), (110, .iadd, 1, 0, 0, 0, 0), (111, (.iload_n 3), 1, 0, 0, 0, 0), (112, .iastore, 1, 0, 0, 0, 0), (113, (.iload 4), 2, 0, 0, 0, 0), (115, .ireturn, 1, 0, 0, 0, 0)]
def c118 : List (Nat × En) := c118_0 ++ (c118_1)
def c119 : List (Nat × En) := [(0, (.iload_n 0), 1, 0, 0, 0, 0), (1, (.iload_n 1), 1, 0, 0, 0, 0), (2, (.if_icmp .lt 12), 3, 14, 0, 0, 0), (5, (.iload_n 0), 1, 0, 0, 0, 0), (6, (.iload_n 2), 1, 0, 0, 0, 0), (7, (.if_icmp .gt 7), 3, 14, 0, 0, 0), (10, (.iconst 1), 1, 0, 0, 0, 0), (11, (.goto 4), 3, 15, 0, 0, 0), (14, (.iconst 0), 1, 0, 0, 0, 0), (15, .ireturn, 1, 0, 0, 0, 0)]
def c120 : List (Nat × En) := [(0, (.iload_n 1), 1, 0, 0, 0, 0), (1, (.ifCond .lt 15), 3, 16, 0, 0, 0), (4, (.iload_n 1), 1, 0, 0, 0, 0), (5, (.aload_n 0), 1, 0, 0, 0, 0), (6, (.getfield 7), 3, 9, 1, 0, 805), (9, (.if_icmp .ge 7), 3, 16, 0, 0, 0), (12, (.iconst 1), 1, 0, 0, 0, 0), (13, (.goto 4), 3, 17, 0, 0, 0), (16, (.iconst 0), 1, 0, 0, 0, 0), (17, .ireturn, 1, 0, 0, 0, 0)]
def c121 : List (Nat × En) := [(0, (.aload_n 0), 1, 0, 0, 0, 0), (1, (.iload_n 1), 1, 0, 0, 0, 0), (2, (.iconst 0), 1, 0, 0, 0, 0), (3, (.bipush 7), 2, 0, 0, 0, 0), (5, (.invokestatic 92), 3, 119, 3, 0, 893), (8, (.ifCond .eq 15), 3, 23, 0, 0, 0), (11, (.aload_n 0), 1, 0, 0, 0, 0), (12, (.iload_n 2), 1, 0, 0, 0, 0), (13, (.invokevirtual 96), 3, 120, 1, 1, 896), (16, (.ifCond .eq 7), 3, 23, 0, 0, 0), (19, (.iconst 1), 1, 0, 0, 0, 0), (20, (.goto 4), 3, 24, 0, 0, 0), (23, (.iconst 0), 1, 0, 0, 0, 0), (24, (.aload_n 0), 1, 0, 0, 0, 0), (25, (.getfield 82), 3, 9, 19, 1, 823), (28, (.ifCond .ne 7), 3, 35, 0, 0, 0), (31, (.iconst 1), 1, 0, 0, 0, 0), (32, (.goto 4), 3, 36, 0, 0, 0), (35, (.iconst 0), 1, 0, 0, 0, 0), (36, (.iconst 1), 1, 0, 0, 0, 0), (37, (.invokevirtual 88), 3, 117, 3, 1, 885), (40, (.ifCond .ne 5), 3, 45, 0, 0, 0), (43, (.iconst 0), 1, 0, 0, 0, 0), (44, .ireturn, 1, 0, 0, 0, 0), (45, (.aload_n 0), 1, 0, 0, 0, 0), (46, (.getfield 17), 3, 9, 3, 2, 807), (49, (.iload_n 1), 1, 0, 0, 0, 0), (50, .iaload, 1, 0, 0, 0, 0), (51, (.istore_n 3), 1, 0, 0, 0, 0), (52, (.aload_n 0), 1, 0, 0, 0, 0), (53, (.getfield 17), 3, 9, 3, 2, 807), (56, (.iload_n 1), 1, 0, 0, 0, 0), (57, (.iload_n 2), 1, 0, 0, 0, 0), (58, .iastore, 1, 0, 0, 0, 0), (59, (.iload_n 3), 1, 0, 0, 0, 0), (60, .ireturn, 1, 0, 0, 0, 0)]
def c122 : List (Nat × En) := [(0, (.aload_n 0), 1, 0, 0, 0, 0), (1, (.iload_n 1), 1, 0, 0, 0, 0), (2, (.iconst 0), 1, 0, 0, 0, 0), (3, (.bipush 7), 2, 0, 0, 0, 0), (5, (.invokestatic 92), 3, 119, 3, 0, 893), (8, (.ifCond .eq 15), 3, 23, 0, 0, 0), (11, (.aload_n 0), 1, 0, 0, 0, 0), (12, (.iload_n 2), 1, 0, 0, 0, 0), (13, (.invokevirtual 96), 3, 120, 1, 1, 896), (16, (.ifCond .eq 7), 3, 23, 0, 0, 0), (19, (.iconst 1), 1, 0, 0, 0, 0), (20, (.goto 4), 3, 24, 0, 0, 0), (23, (.iconst 0), 1, 0, 0, 0, 0), (24, (.aload_n 0), 1, 0, 0, 0, 0), (25, (.getfield 82), 3, 9, 19, 1, 823), (28, (.ifCond .ne 7), 3, 35, 0, 0, 0), (31, (.iconst 1), 1, 0, 0, 0, 0), (32, (.goto 4), 3, 36, 0, 0, 0), (35, (.iconst 0), 1, 0, 0, 0, 0), (36, (.iconst 1), 1, 0, 0, 0, 0), (37, (.invokevirtual 88), 3, 117, 3, 1, 885), (40, (.ifCond .ne 5), 3, 45, 0, 0, 0), (43, (.iconst 0), 1, 0, 0, 0, 0), (44, .ireturn, 1, 0, 0, 0, 0), (45, (.aload_n 0), 1, 0, 0, 0, 0), (46, (.getfield 20), 3, 9, 4, 2, 808), (49, (.bipush 32), 2, 0, 0, 0, 0), (51, (.iload_n 1), 1, 0, 0, 0, 0), (52, .imul, 1, 0, 0, 0, 0), (53, (.iload_n 2), 1, 0, 0, 0, 0), (54, .iadd, 1, 0, 0, 0, 0), (55, .baload, 1, 0, 0, 0, 0), (56, (.istore 4), 2, 0, 0, 0, 0), (58, (.aload_n 0), 1, 0, 0, 0, 0), (59, (.getfield 20), 3, 9, 4, 2, 808), (62, (.bipush 32), 2, 0, 0, 0, 0), (64, (.iload_n 1), 1, 0, 0, 0, 0), (65, .imul, 1, 0, 0, 0, 0), (66, (.iload_n 2), 1, 0, 0, 0, 0), (67, .iadd, 1, 0, 0, 0, 0), (68, (.iload_n 3), 1, 0, 0, 0, 0), (69, .bastore, 1, 0, 0, 0, 0), (70, (.iload 4), 2, 0, 0, 0, 0), (72, (.iload_n 3), 1, 0, 0, 0, 0), (73, (.if_icmp .eq 7), 3, 80, 0, 0, 0), (76, (.iconst 1), 1, 0, 0, 0, 0), (77, (.goto 4), 3, 81, 0, 0, 0), (80, (.iconst 0), 1, 0, 0, 0, 0), (81, .ireturn, 1, 0, 0, 0, 0)]
def c123_0 : List (Nat × En) := [(0, (.iconst 0), 1, 0, 0, 0, 0), (1, (.istore_n 3), 1, 0, 0, 0, 0), (2, (.iconst 0), 1, 0, 0, 0, 0), (3, (.istore 4), 2, 0, 0, 0, 0), (5, (.iload 4), 2, 0, 0, 0, 0), (7, (.bipush 6), 2, 0, 0, 0, 0), (9, (.if_icmp .ge 41), 3, 50, 0, 0, 0), (12, (.iload_n 3), 1, 0, 0, 0, 0), (13, (.ifCond .ne 25), 3, 38, 0, 0, 0), (16, (.iload 4), 2, 0, 0, 0, 0), (18, (.iload_n 1), 1, 0, 0, 0, 0), (19, (.if_icmp .eq 23), 3, 42, 0, 0, 0), (22, (.iload_n 2), 1, 0, 0, 0, 0), (23, (.iconst (-1)), 1, 0, 0, 0, 0), (24, (.if_icmp .eq 18), 3, 42, 0, 0, 0), (27, (.aload_n 0), 1, 0, 0, 0, 0), (28, (.getfield 24), 3, 9, 5, 2, 809), (31, (.iload 4), 2, 0, 0, 0, 0), (33, .iaload, 1, 0, 0, 0, 0), (34, (.iload_n 2), 1, 0, 0, 0, 0), (35, (.if_icmp .ne 7), 3, 42, 0, 0, 0), (38, (.iconst 1), 1, 0, 0, 0, 0), (39, (.goto 4), 3, 43, 0, 0, 0), (42, (.iconst 0), 1, 0, 0, 0, 0), (43, (.istore_n 3), 1, 0, 0, 0, 0), (44, (.iinc 4 1), 3, 0, 0, 0, 0), (47, (.goto (-42)), 3, 5, 0, 0, 0), (50, (.aload_n 0), 1, 0, 0, 0, 0), (51, (.iload_n 1), 1, 0, 0, 0, 0), (52, (.iconst 0), 1, 0, 0, 0, 0), (53, (.iconst 5), 1, 0, 0, 0, 0), (54, (.invokestatic 92), 3, 119, 3, 0, 893), (57, (.ifCond .eq 17), 3, 74, 0, 0, 0), (60, (.iload_n 2), 1, 0, 0, 0, 0), (61, (.iconst (-1)), 1, 0, 0, 0, 0), (62, (.bipush 7), 2, 0, 0, 0, 0), (64, (.invokestatic 92), 3, 119, 3, 0, 893), (67, (.ifCond .eq 7), 3, 74, 0, 0, 0), (70, (.iconst 1), 1, 0, 0, 0, 0), (71, (.goto 4), 3, 75, 0, 0, 0)]
def c123_1 : List (Nat × En) := [(74, (.iconst 0), 1, 0, 0, 0, 0), (75, (.aload_n 0), 1, 0, 0, 0, 0), (76, (.getfield 82), 3, 9, 19, 1, 823), (79, (.ifCond .ne 11), 3, 90, 0, 0, 0), (82, (.iload_n 3), 1, 0, 0, 0, 0), (83, (.ifCond .ne 7), 3, 90, 0, 0, 0), (86, (.iconst 1), 1, 0, 0, 0, 0), (87, (.goto 4), 3, 91, 0, 0, 0), (90, (.iconst 0), 1, 0, 0, 0, 0), (91, (.iconst 1), 1, 0, 0, 0, 0), (92, (.invokevirtual 88), 3, 117, 3, 1, 885), (95, (.ifCond .ne 5), 3, 100, 0, 0, 0), (98, (.iconst 0), 1, 0, 0, 0, 0), (99, .ireturn, 1, 0, 0, 0, 0), (100, (.aload_n 0), 1, 0, 0, 0, 0), (101, (.getfield 24), 3, 9, 5, 2, 809), (104, (.iload_n 1), 1, 0, 0, 0, 0), (105, .iaload, 1, 0, 0, 0, 0), (106, (.istore 4), 2, 0, 0, 0, 0), (108, (.aload_n 0), 1, 0, 0, 0, 0), (109, (.getfield 24), 3, 9, 5, 2, 809), (112, (.iload_n 1), 1, 0, 0, 0, 0), (113, (.iload_n 2), 1, 0, 0, 0, 0), (114, .iastore, 1, 0, 0, 0, 0), (115, (.iload 4), 2, 0, 0, 0, 0), (117, .ireturn, 1, 0, 0, 0, 0)]
def c123 : List (Nat × En) := c123_0 ++ (c123_1)
def c124_0 : List (Nat × En) := [(0, (.iload_n 1), 1, 0, 0, 0, 0), (1, (.iconst 0), 1, 0, 0, 0, 0), (2, (.iconst 1), 1, 0, 0, 0, 0), (3, (.invokestatic 92), 3, 119, 3, 0, 893), (6, (.ifCond .eq 23), 3, 29, 0, 0, 0), (9, (.aload_n 0), 1, 0, 0, 0, 0), (10, (.iload_n 2), 1, 0, 0, 0, 0), (11, (.invokevirtual 96), 3, 120, 1, 1, 896), (14, (.ifCond .eq 15), 3, 29, 0, 0, 0), (17, (.aload_n 0), 1, 0, 0, 0, 0), (18, (.iload_n 3), 1, 0, 0, 0, 0), (19, (.invokevirtual 96), 3, 120, 1, 1, 896), (22, (.ifCond .eq 7), 3, 29, 0, 0, 0), (25, (.iconst 1), 1, 0, 0, 0, 0), (26, (.goto 4), 3, 30, 0, 0, 0), (29, (.iconst 0), 1, 0, 0, 0, 0), (30, (.istore 4), 2, 0, 0, 0, 0), (32, (.aload_n 0), 1, 0, 0, 0, 0), (33, (.iload 4), 2, 0, 0, 0, 0), (35, (.iload_n 2), 1, 0, 0, 0, 0), (36, (.iload_n 3), 1, 0, 0, 0, 0), (37, (.if_icmp .eq 7), 3, 44, 0, 0, 0), (40, (.iconst 1), 1, 0, 0, 0, 0), (41, (.goto 4), 3, 45, 0, 0, 0), (44, (.iconst 0), 1, 0, 0, 0, 0), (45, (.aload_n 0), 1, 0, 0, 0, 0), (46, (.getfield 82), 3, 9, 19, 1, 823), (49, (.ifCond .ne 30), 3, 79, 0, 0, 0), (52, (.iload 4), 2, 0, 0, 0, 0), (54, (.ifCond .eq 25), 3, 79, 0, 0, 0), (57, (.aload_n 0), 1, 0, 0, 0, 0), (58, (.iload_n 1), 1, 0, 0, 0, 0), (59, (.iload_n 2), 1, 0, 0, 0, 0), (60, (.invokevirtual 100), 3, 125, 2, 1, 916), (63, (.ifCond .ne 16), 3, 79, 0, 0, 0), (66, (.aload_n 0), 1, 0, 0, 0, 0), (67, (.iload_n 1), 1, 0, 0, 0, 0), (68, (.iload_n 3), 1, 0, 0, 0, 0), (69, (.invokevirtual 100), 3, 125, 2, 1, 916), (72, (.ifCond .ne 7), 3, 79, 0, 0, 0)]
def c124_1 : List (Nat × En) := [(75, (.iconst 1), 1, 0, 0, 0, 0), (76, (.goto 4), 3, 80, 0, 0, 0), (79, (.iconst 0), 1, 0, 0, 0, 0), (80, (.invokevirtual 88), 3, 117, 3, 1, 885), (83, (.ifCond .eq 27), 3, 110, 0, 0, 0), (86, (.aload_n 0), 1, 0, 0, 0, 0), (87, (.getfield 27), 3, 9, 6, 2, 810), (90, (.bipush 32), 2, 0, 0, 0, 0), (92, (.iload_n 1), 1, 0, 0, 0, 0), (93, .imul, 1, 0, 0, 0, 0), (94, (.iload_n 2), 1, 0, 0, 0, 0), (95, .iadd, 1, 0, 0, 0, 0), (96, (.iload_n 3), 1, 0, 0, 0, 0), (97, .iastore, 1, 0, 0, 0, 0), (98, (.aload_n 0), 1, 0, 0, 0, 0), (99, (.getfield 27), 3, 9, 6, 2, 810), (102, (.bipush 32), 2, 0, 0, 0, 0), (104, (.iload_n 1), 1, 0, 0, 0, 0), (105, .imul, 1, 0, 0, 0, 0), (106, (.iload_n 3), 1, 0, 0, 0, 0), (107, .iadd, 1, 0, 0, 0, 0), (108, (.iload_n 2), 1, 0, 0, 0, 0), (109, .iastore, 1, 0, 0, 0, 0), (110, .return_, 1, 0, 0, 0, 0)]
def c124 : List (Nat × En) := c124_0 ++ (c124_1)
def c125 : List (Nat × En) := [(0, (.aload_n 0), 1, 0, 0, 0, 0), (1, (.getfield 27), 3, 9, 6, 2, 810), (4, (.bipush 32), 2, 0, 0, 0, 0), (6, (.iload_n 1), 1, 0, 0, 0, 0), (7, .imul, 1, 0, 0, 0, 0), (8, (.iload_n 2), 1, 0, 0, 0, 0), (9, .iadd, 1, 0, 0, 0, 0), (10, .iaload, 1, 0, 0, 0, 0), (11, (.iload_n 2), 1, 0, 0, 0, 0), (12, (.if_icmp .eq 7), 3, 19, 0, 0, 0), (15, (.iconst 1), 1, 0, 0, 0, 0), (16, (.goto 4), 3, 20, 0, 0, 0), (19, (.iconst 0), 1, 0, 0, 0, 0), (20, .ireturn, 1, 0, 0, 0, 0)]
def c126 : List (Nat × En) := [(0, (.aload_n 0), 1, 0, 0, 0, 0), (1, (.iload_n 1), 1, 0, 0, 0, 0), (2, (.iconst 0), 1, 0, 0, 0, 0), (3, (.iconst 1), 1, 0, 0, 0, 0), (4, (.invokestatic 92), 3, 119, 3, 0, 893), (7, (.ifCond .eq 15), 3, 22, 0, 0, 0), (10, (.aload_n 0), 1, 0, 0, 0, 0), (11, (.iload_n 2), 1, 0, 0, 0, 0), (12, (.invokevirtual 96), 3, 120, 1, 1, 896), (15, (.ifCond .eq 7), 3, 22, 0, 0, 0), (18, (.iconst 1), 1, 0, 0, 0, 0), (19, (.goto 4), 3, 23, 0, 0, 0), (22, (.iconst 0), 1, 0, 0, 0, 0), (23, (.aload_n 0), 1, 0, 0, 0, 0), (24, (.getfield 82), 3, 9, 19, 1, 823), (27, (.ifCond .ne 7), 3, 34, 0, 0, 0), (30, (.iconst 1), 1, 0, 0, 0, 0), (31, (.goto 4), 3, 35, 0, 0, 0), (34, (.iconst 0), 1, 0, 0, 0, 0), (35, (.iconst 1), 1, 0, 0, 0, 0), (36, (.invokevirtual 88), 3, 117, 3, 1, 885), (39, (.ifCond .ne 5), 3, 44, 0, 0, 0), (42, (.iconst 0), 1, 0, 0, 0, 0), (43, .ireturn, 1, 0, 0, 0, 0), (44, (.aload_n 0), 1, 0, 0, 0, 0), (45, (.getfield 27), 3, 9, 6, 2, 810), (48, (.bipush 32), 2, 0, 0, 0, 0), (50, (.iload_n 1), 1, 0, 0, 0, 0), (51, .imul, 1, 0, 0, 0, 0), (52, (.iload_n 2), 1, 0, 0, 0, 0), (53, .iadd, 1, 0, 0, 0, 0), (54, .iaload, 1, 0, 0, 0, 0), (55, (.istore_n 3), 1, 0, 0, 0, 0), (56, (.aload_n 0), 1, 0, 0, 0, 0), (57, (.getfield 27), 3, 9, 6, 2, 810), (60, (.bipush 32), 2, 0, 0, 0, 0), (62, (.iload_n 1), 1, 0, 0, 0, 0), (63, .imul, 1, 0, 0, 0, 0), (64, (.iload_n 2), 1, 0, 0, 0, 0), (65, .iadd, 1, 0, 0, 0, 0), (66, (.iload_n 2), 1, 0, 0, 0, 0), (67, .iastore, 1, 0, 0, 0, 0), (68, (.aload_n 0), 1, 0, 0, 0, 0), (69, (.getfield 27), 3, 9, 6, 2, 810), (72, (.bipush 32), 2, 0, 0, 0, 0), (74, (.iload_n 1), 1, 0, 0, 0, 0), (75, .imul, 1, 0, 0, 0, 0), (76, (.iload_n 3), 1, 0, 0, 0, 0), (77, .iadd, 1, 0, 0, 0, 0), (78, (.iload_n 3), 1, 0, 0, 0, 0), (79, .iastore, 1, 0, 0, 0, 0), (80, (.iload_n 3), 1, 0, 0, 0, 0), (81, (.iload_n 2), 1, 0, 0, 0, 0), (82, (.if_icmp .ne 7), 3, 89, 0, 0, 0), (85, (.iconst (-1)), 1, 0, 0, 0, 0), (86, (.goto 4), 3, 90, 0, 0, 0), (89, (.iload_n 3), 1, 0, 0, 0, 0), (90, .ireturn, 1, 0, 0, 0, 0)]
def c127 : List (Nat × En) := [(0, (.aload_n 0), 1, 0, 0, 0, 0), (1, (.aload_n 0), 1, 0, 0, 0, 0), (2, (.getfield 82), 3, 9, 19, 1, 823), (5, (.ifCond .ne 7), 3, 12, 0, 0, 0), (8, (.iconst 1), 1, 0, 0, 0, 0), (9, (.goto 4), 3, 13, 0, 0, 0), (12, (.iconst 0), 1, 0, 0, 0, 0), (13, (.iconst 1), 1, 0, 0, 0, 0), (14, (.iconst 1), 1, 0, 0, 0, 0), (15, (.invokevirtual 88), 3, 117, 3, 1, 885), (18, (.ifCond .ne 5), 3, 23, 0, 0, 0), (21, (.iconst 0), 1, 0, 0, 0, 0), (22, .ireturn, 1, 0, 0, 0, 0), (23, (.aload_n 0), 1, 0, 0, 0, 0), (24, (.getfield 66), 3, 9, 7, 1, 811), (27, (.istore_n 2), 1, 0, 0, 0, 0), (28, (.aload_n 0), 1, 0, 0, 0, 0), (29, (.iload_n 1), 1, 0, 0, 0, 0), (30, (.putfield 66), 3, 9, 7, 1, 811), (33, (.iload_n 2), 1, 0, 0, 0, 0), (34, (.iload_n 1), 1, 0, 0, 0, 0), (35, (.if_icmp .eq 7), 3, 42, 0, 0, 0), (38, (.iconst 1), 1, 0, 0, 0, 0), (39, (.goto 4), 3, 43, 0, 0, 0), (42, (.iconst 0), 1, 0, 0, 0, 0), (43, .ireturn, 1, 0, 0, 0, 0)]
def c128 : List (Nat × En) := [(0, (.aload_n 0), 1, 0, 0, 0, 0), (1, (.iload_n 1), 1, 0, 0, 0, 0), (2, (.invokestatic 104), 3, 129, 1, 0, 932), (5, (.iload_n 2), 1, 0, 0, 0, 0), (6, (.iconst 0), 1, 0, 0, 0, 0), (7, (.bipush 61), 2, 0, 0, 0, 0), (9, (.invokestatic 92), 3, 119, 3, 0, 893), (12, (.aload_n 0), 1, 0, 0, 0, 0), (13, (.getfield 82), 3, 9, 19, 1, 823), (16, (.ifCond .ne 7), 3, 23, 0, 0, 0), (19, (.iconst 1), 1, 0, 0, 0, 0), (20, (.goto 4), 3, 24, 0, 0, 0), (23, (.iconst 0), 1, 0, 0, 0, 0), (24, (.invokevirtual 88), 3, 117, 3, 1, 885), (27, (.ifCond .ne 5), 3, 32, 0, 0, 0), (30, (.iconst 0), 1, 0, 0, 0, 0), (31, .ireturn, 1, 0, 0, 0, 0), (32, (.aload_n 0), 1, 0, 0, 0, 0), (33, (.getfield 30), 3, 9, 8, 2, 812), (36, (.iload_n 1), 1, 0, 0, 0, 0), (37, .iaload, 1, 0, 0, 0, 0), (38, (.istore_n 3), 1, 0, 0, 0, 0), (39, (.aload_n 0), 1, 0, 0, 0, 0), (40, (.getfield 30), 3, 9, 8, 2, 812), (43, (.iload_n 1), 1, 0, 0, 0, 0), (44, (.iload_n 2), 1, 0, 0, 0, 0), (45, .iastore, 1, 0, 0, 0, 0), (46, (.iconst 0), 1, 0, 0, 0, 0), (47, (.istore 4), 2, 0, 0, 0, 0), (49, (.iload 4), 2, 0, 0, 0, 0), (51, (.bipush 64), 2, 0, 0, 0, 0), (53, (.if_icmp .ge 22), 3, 75, 0, 0, 0), (56, (.aload_n 0), 1, 0, 0, 0, 0), (57, (.getfield 33), 3, 9, 9, 2, 813), (60, (.bipush 64), 2, 0, 0, 0, 0), (62, (.iload_n 1), 1, 0, 0, 0, 0), (63, .imul, 1, 0, 0, 0, 0), (64, (.iload 4), 2, 0, 0, 0, 0), (66, .iadd, 1, 0, 0, 0, 0), (67, (.iconst 0), 1, 0, 0, 0, 0), (68, .bastore, 1, 0, 0, 0, 0), (69, (.iinc 4 1), 3, 0, 0, 0, 0), (72, (.goto (-23)), 3, 49, 0, 0, 0), (75, (.aload_n 0), 1, 0, 0, 0, 0), (76, (.getfield 39), 3, 9, 13, 2, 817), (79, (.bipush 6), 2, 0, 0, 0, 0), (81, (.iload_n 1), 1, 0, 0, 0, 0), (82, .iadd, 1, 0, 0, 0, 0), (83, (.iconst 0), 1, 0, 0, 0, 0), (84, .iastore, 1, 0, 0, 0, 0), (85, (.aload_n 0), 1, 0, 0, 0, 0), (86, (.iconst 0), 1, 0, 0, 0, 0), (87, (.putfield 76), 3, 9, 16, 0, 820), (90, (.iload_n 3), 1, 0, 0, 0, 0), (91, .ireturn, 1, 0, 0, 0, 0)]
def c129 : List (Nat × En) := [(0, (.iload_n 0), 1, 0, 0, 0, 0), (1, (.iconst 0), 1, 0, 0, 0, 0), (2, (.bipush 11), 2, 0, 0, 0, 0), (4, (.invokestatic 92), 3, 119, 3, 0, 893), (7, .ireturn, 1, 0, 0, 0, 0)]
def c130 : List (Nat × En) := [(0, (.aload_n 0), 1, 0, 0, 0, 0), (1, (.iload_n 1), 1, 0, 0, 0, 0), (2, (.invokestatic 104), 3, 129, 1, 0, 932), (5, (.ifCond .eq 21), 3, 26, 0, 0, 0), (8, (.iload_n 2), 1, 0, 0, 0, 0), (9, (.ifCond .lt 17), 3, 26, 0, 0, 0), (12, (.iload_n 2), 1, 0, 0, 0, 0), (13, (.aload_n 0), 1, 0, 0, 0, 0), (14, (.getfield 30), 3, 9, 8, 2, 812), (17, (.iload_n 1), 1, 0, 0, 0, 0), (18, .iaload, 1, 0, 0, 0, 0), (19, (.if_icmp .ge 7), 3, 26, 0, 0, 0), (22, (.iconst 1), 1, 0, 0, 0, 0), (23, (.goto 4), 3, 27, 0, 0, 0), (26, (.iconst 0), 1, 0, 0, 0, 0), (27, (.aload_n 0), 1, 0, 0, 0, 0), (28, (.getfield 82), 3, 9, 19, 1, 823), (31, (.ifCond .ne 7), 3, 38, 0, 0, 0), (34, (.iconst 1), 1, 0, 0, 0, 0), (35, (.goto 4), 3, 39, 0, 0, 0), (38, (.iconst 0), 1, 0, 0, 0, 0), (39, (.iconst 1), 1, 0, 0, 0, 0), (40, (.invokevirtual 88), 3, 117, 3, 1, 885), (43, (.ifCond .ne 5), 3, 48, 0, 0, 0), (46, (.iconst 0), 1, 0, 0, 0, 0), (47, .ireturn, 1, 0, 0, 0, 0), (48, (.aload_n 0), 1, 0, 0, 0, 0), (49, (.getfield 33), 3, 9, 9, 2, 813), (52, (.bipush 64), 2, 0, 0, 0, 0), (54, (.iload_n 1), 1, 0, 0, 0, 0), (55, .imul, 1, 0, 0, 0, 0), (56, (.iload_n 2), 1, 0, 0, 0, 0), (57, .iadd, 1, 0, 0, 0, 0), (58, .baload, 1, 0, 0, 0, 0), (59, (.istore 4), 2, 0, 0, 0, 0), (61, (.aload_n 0), 1, 0, 0, 0, 0), (62, (.getfield 33), 3, 9, 9, 2, 813), (65, (.bipush 64), 2, 0, 0, 0, 0), (67, (.iload_n 1), 1, 0, 0, 0, 0), (68, .imul, 1, 0, 0, 0, 0), (69, (.iload_n 2), 1, 0, 0, 0, 0), (70, .iadd, 1, 0, 0, 0, 0), (71, (.iload_n 3), 1, 0, 0, 0, 0), (72, .bastore, 1, 0, 0, 0, 0), (73, (.iload 4), 2, 0, 0, 0, 0), (75, (.iload_n 3), 1, 0, 0, 0, 0), (76, (.if_icmp .eq 7), 3, 83, 0, 0, 0), (79, (.iconst 1), 1, 0, 0, 0, 0), (80, (.goto 4), 3, 84, 0, 0, 0), (83, (.iconst 0), 1, 0, 0, 0, 0), (84, .ireturn, 1, 0, 0, 0, 0)]
def c131 : List (Nat × En) := [(0, (.aload_n 0), 1, 0, 0, 0, 0), (1, (.iload_n 1), 1, 0, 0, 0, 0), (2, (.iconst 0), 1, 0, 0, 0, 0), (3, (.bipush 26), 2, 0, 0, 0, 0), (5, (.invokestatic 92), 3, 119, 3, 0, 893), (8, (.ifCond .eq 27), 3, 35, 0, 0, 0), (11, (.iload_n 2), 1, 0, 0, 0, 0), (12, (.iconst (-1)), 1, 0, 0, 0, 0), (13, (.bipush 11), 2, 0, 0, 0, 0), (15, (.invokestatic 92), 3, 119, 3, 0, 893), (18, (.ifCond .eq 17), 3, 35, 0, 0, 0), (21, (.iload_n 3), 1, 0, 0, 0, 0), (22, (.iconst (-1)), 1, 0, 0, 0, 0), (23, (.bipush 11), 2, 0, 0, 0, 0), (25, (.invokestatic 92), 3, 119, 3, 0, 893), (28, (.ifCond .eq 7), 3, 35, 0, 0, 0), (31, (.iconst 1), 1, 0, 0, 0, 0), (32, (.goto 4), 3, 36, 0, 0, 0), (35, (.iconst 0), 1, 0, 0, 0, 0), (36, (.aload_n 0), 1, 0, 0, 0, 0), (37, (.getfield 82), 3, 9, 19, 1, 823), (40, (.ifCond .ne 7), 3, 47, 0, 0, 0), (43, (.iconst 1), 1, 0, 0, 0, 0), (44, (.goto 4), 3, 48, 0, 0, 0), (47, (.iconst 0), 1, 0, 0, 0, 0), (48, (.iconst 1), 1, 0, 0, 0, 0), (49, (.invokevirtual 88), 3, 117, 3, 1, 885), (52, (.ifCond .eq 23), 3, 75, 0, 0, 0), (55, (.aload_n 0), 1, 0, 0, 0, 0), (56, (.getfield 36), 3, 9, 10, 2, 814), (59, (.iconst 2), 1, 0, 0, 0, 0), (60, (.iload_n 1), 1, 0, 0, 0, 0), (61, .imul, 1, 0, 0, 0, 0), (62, (.iload_n 2), 1, 0, 0, 0, 0), (63, .iastore, 1, 0, 0, 0, 0), (64, (.aload_n 0), 1, 0, 0, 0, 0), (65, (.getfield 36), 3, 9, 10, 2, 814), (68, (.iconst 2), 1, 0, 0, 0, 0), (69, (.iload_n 1), 1, 0, 0, 0, 0), (70, .imul, 1, 0, 0, 0, 0), (71, (.iconst 1), 1, 0, 0, 0, 0), (72, .iadd, 1, 0, 0, 0, 0), (73, (.iload_n 3), 1, 0, 0, 0, 0), (74, .iastore, 1, 0, 0, 0, 0), (75, .return_, 1, 0, 0, 0, 0)]
def c132 : List (Nat × En) := [(0, (.aload_n 0), 1, 0, 0, 0, 0), (1, (.iload_n 1), 1, 0, 0, 0, 0), (2, (.iconst 0), 1, 0, 0, 0, 0), (3, (.iconst 4), 1, 0, 0, 0, 0), (4, (.invokestatic 92), 3, 119, 3, 0, 893), (7, (.aload_n 0), 1, 0, 0, 0, 0), (8, (.getfield 82), 3, 9, 19, 1, 823), (11, (.ifCond .ne 7), 3, 18, 0, 0, 0), (14, (.iconst 1), 1, 0, 0, 0, 0), (15, (.goto 4), 3, 19, 0, 0, 0), (18, (.iconst 0), 1, 0, 0, 0, 0), (19, (.iconst 1), 1, 0, 0, 0, 0), (20, (.invokevirtual 88), 3, 117, 3, 1, 885), (23, (.ifCond .ne 5), 3, 28, 0, 0, 0), (26, (.iconst 0), 1, 0, 0, 0, 0), (27, .ireturn, 1, 0, 0, 0, 0), (28, (.aload_n 0), 1, 0, 0, 0, 0), (29, (.getfield 70), 3, 9, 11, 0, 815), (32, (.istore_n 2), 1, 0, 0, 0, 0), (33, (.aload_n 0), 1, 0, 0, 0, 0), (34, (.iload_n 1), 1, 0, 0, 0, 0), (35, (.putfield 70), 3, 9, 11, 0, 815), (38, (.iload_n 2), 1, 0, 0, 0, 0), (39, .ireturn, 1, 0, 0, 0, 0)]
def c133 : List (Nat × En) := [(0, (.aload_n 0), 1, 0, 0, 0, 0), (1, (.iload_n 1), 1, 0, 0, 0, 0), (2, (.iconst 0), 1, 0, 0, 0, 0), (3, (.iconst 2), 1, 0, 0, 0, 0), (4, (.invokestatic 92), 3, 119, 3, 0, 893), (7, (.aload_n 0), 1, 0, 0, 0, 0), (8, (.getfield 82), 3, 9, 19, 1, 823), (11, (.ifCond .ne 7), 3, 18, 0, 0, 0), (14, (.iconst 1), 1, 0, 0, 0, 0), (15, (.goto 4), 3, 19, 0, 0, 0), (18, (.iconst 0), 1, 0, 0, 0, 0), (19, (.iconst 1), 1, 0, 0, 0, 0), (20, (.invokevirtual 88), 3, 117, 3, 1, 885), (23, (.ifCond .ne 5), 3, 28, 0, 0, 0), (26, (.iconst 0), 1, 0, 0, 0, 0), (27, .ireturn, 1, 0, 0, 0, 0), (28, (.aload_n 0), 1, 0, 0, 0, 0), (29, (.getfield 73), 3, 9, 12, 0, 816), (32, (.istore_n 2), 1, 0, 0, 0, 0), (33, (.aload_n 0), 1, 0, 0, 0, 0), (34, (.iload_n 1), 1, 0, 0, 0, 0), (35, (.putfield 73), 3, 9, 12, 0, 816), (38, (.iload_n 2), 1, 0, 0, 0, 0), (39, .ireturn, 1, 0, 0, 0, 0)]
def c134 : List (Nat × En) := [(0, (.aload_n 0), 1, 0, 0, 0, 0), (1, (.iload_n 1), 1, 0, 0, 0, 0), (2, (.iload_n 2), 1, 0, 0, 0, 0), (3, (.invokevirtual 107), 3, 135, 2, 1, 955), (6, (.ifCond .eq 32), 3, 38, 0, 0, 0), (9, (.iload_n 3), 1, 0, 0, 0, 0), (10, (.ifCond .lt 28), 3, 38, 0, 0, 0), (13, (.iload_n 3), 1, 0, 0, 0, 0), (14, (.iload_n 1), 1, 0, 0, 0, 0), (15, (.ifCond .ne 10), 3, 25, 0, 0, 0), (18, (.aload_n 0), 1, 0, 0, 0, 0), (19, (.getfield 7), 3, 9, 1, 0, 805), (22, (.goto 9), 3, 31, 0, 0, 0), (25, (.aload_n 0), 1, 0, 0, 0, 0), (26, (.getfield 30), 3, 9, 8, 2, 812), (29, (.iload_n 2), 1, 0, 0, 0, 0), (30, .iaload, 1, 0, 0, 0, 0), (31, (.if_icmp .ge 7), 3, 38, 0, 0, 0), (34, (.iconst 1), 1, 0, 0, 0, 0), (35, (.goto 4), 3, 39, 0, 0, 0), (38, (.iconst 0), 1, 0, 0, 0, 0), (39, (.istore 4), 2, 0, 0, 0, 0), (41, (.aload_n 0), 1, 0, 0, 0, 0), (42, (.iload 4), 2, 0, 0, 0, 0), (44, (.aload_n 0), 1, 0, 0, 0, 0), (45, (.getfield 82), 3, 9, 19, 1, 823), (48, (.ifCond .ne 7), 3, 55, 0, 0, 0), (51, (.iconst 1), 1, 0, 0, 0, 0), (52, (.goto 4), 3, 56, 0, 0, 0), (55, (.iconst 0), 1, 0, 0, 0, 0), (56, (.iconst 1), 1, 0, 0, 0, 0), (57, (.invokevirtual 88), 3, 117, 3, 1, 885), (60, (.ifCond .ne 5), 3, 65, 0, 0, 0), (63, (.iconst 0), 1, 0, 0, 0, 0), (64, .ireturn, 1, 0, 0, 0, 0), (65, (.bipush 6), 2, 0, 0, 0, 0), (67, (.iload_n 1), 1, 0, 0, 0, 0), (68, .imul, 1, 0, 0, 0, 0), (69, (.iload_n 2), 1, 0, 0, 0, 0), (70, .iadd, 1, 0, 0, 0, 0), (71, (.istore 5), 2, 0, 0, 0, 0), (73, (.aload_n 0), 1, 0, 0, 0, 0), (74, (.getfield 39), 3, 9, 13, 2, 817), (77, (.iload 5), 2, 0, 0, 0, 0), (79, .iaload, 1, 0, 0, 0, 0), (80, (.istore 6), 2, 0, 0, 0, 0), (82, (.aload_n 0), 1, 0, 0, 0, 0), (83, (.getfield 39), 3, 9, 13, 2, 817), (86, (.iload 5), 2, 0, 0, 0, 0), (88, (.iload_n 3), 1, 0, 0, 0, 0), (89, .iastore, 1, 0, 0, 0, 0), (90, (.aload_n 0), 1, 0, 0, 0, 0), (91, (.iconst 0), 1, 0, 0, 0, 0), (92, (.putfield 76), 3, 9, 16, 0, 820), (95, (.iload 6), 2, 0, 0, 0, 0), (97, .ireturn, 1, 0, 0, 0, 0)]
def c135 : List (Nat × En) := [(0, (.iload_n 1), 1, 0, 0, 0, 0), (1, (.ifCond .ne 12), 3, 13, 0, 0, 0), (4, (.iload_n 2), 1, 0, 0, 0, 0), (5, (.iconst 0), 1, 0, 0, 0, 0), (6, (.iconst 5), 1, 0, 0, 0, 0), (7, (.invokestatic 92), 3, 119, 3, 0, 893), (10, (.ifCond .ne 15), 3, 25, 0, 0, 0), (13, (.iload_n 1), 1, 0, 0, 0, 0), (14, (.iconst 1), 1, 0, 0, 0, 0), (15, (.if_icmp .ne 14), 3, 29, 0, 0, 0), (18, (.iload_n 2), 1, 0, 0, 0, 0), (19, (.invokestatic 104), 3, 129, 1, 0, 932), (22, (.ifCond .eq 7), 3, 29, 0, 0, 0), (25, (.iconst 1), 1, 0, 0, 0, 0), (26, (.goto 4), 3, 30, 0, 0, 0), (29, (.iconst 0), 1, 0, 0, 0, 0), (30, .ireturn, 1, 0, 0, 0, 0)]
def c136_0 : List (Nat × En) := [(0, (.aload_n 0), 1, 0, 0, 0, 0), (1, (.aload_n 0), 1, 0, 0, 0, 0), (2, (.iload_n 1), 1, 0, 0, 0, 0), (3, (.invokevirtual 96), 3, 120, 1, 1, 896), (6, (.aload_n 0), 1, 0, 0, 0, 0), (7, (.getfield 82), 3, 9, 19, 1, 823), (10, (.ifCond .eq 19), 3, 29, 0, 0, 0), (13, (.aload_n 0), 1, 0, 0, 0, 0), (14, (.getfield 51), 3, 9, 20, 2, 824), (17, (.aload_n 0), 1, 0, 0, 0, 0), (18, (.getfield 79), 3, 9, 18, 0, 822), (21, (.iconst 1), 1, 0, 0, 0, 0), (22, .isub, 1, 0, 0, 0, 0), (23, .iaload, 1, 0, 0, 0, 0), (24, (.bipush 60), 2, 0, 0, 0, 0), (26, (.if_icmp .ge 7), 3, 33, 0, 0, 0), (29, (.iconst 1), 1, 0, 0, 0, 0), (30, (.goto 4), 3, 34, 0, 0, 0), (33, (.iconst 0), 1, 0, 0, 0, 0), (34, (.iconst 1), 1, 0, 0, 0, 0), (35, (.invokevirtual 88), 3, 117, 3, 1, 885), (38, (.ifCond .ne 5), 3, 43, 0, 0, 0), (41, (.iconst 0), 1, 0, 0, 0, 0), (42, .ireturn, 1, 0, 0, 0, 0), (43, (.aload_n 0), 1, 0, 0, 0, 0), (44, (.invokevirtual 146), 3, 137, 0, 1, 963), (47, (.aload_n 0), 1, 0, 0, 0, 0), (48, (.iload_n 1), 1, 0, 0, 0, 0), (49, (.invokevirtual 149), 3, 144, 1, 1, 991), (52, (.istore_n 2), 1, 0, 0, 0, 0), (53, (.aload_n 0), 1, 0, 0, 0, 0), (54, (.getfield 82), 3, 9, 19, 1, 823), (57, (.ifCond .eq 54), 3, 111, 0, 0, 0), (60, (.bipush 60), 2, 0, 0, 0, 0), (62, (.aload_n 0), 1, 0, 0, 0, 0), (63, (.getfield 79), 3, 9, 18, 0, 822), (66, (.iconst 1), 1, 0, 0, 0, 0), (67, .isub, 1, 0, 0, 0, 0), (68, .imul, 1, 0, 0, 0, 0), (69, (.aload_n 0), 1, 0, 0, 0, 0)]
def c136_1 : List (Nat × En) := [(70, (.getfield 51), 3, 9, 20, 2, 824), (73, (.aload_n 0), 1, 0, 0, 0, 0), (74, (.getfield 79), 3, 9, 18, 0, 822), (77, (.iconst 1), 1, 0, 0, 0, 0), (78, .isub, 1, 0, 0, 0, 0), (79, .iaload, 1, 0, 0, 0, 0), (80, .iadd, 1, 0, 0, 0, 0), (81, (.istore_n 3), 1, 0, 0, 0, 0), (82, (.aload_n 0), 1, 0, 0, 0, 0), (83, (.getfield 57), 3, 9, 22, 2, 826), (86, (.iload_n 3), 1, 0, 0, 0, 0), (87, (.iload_n 1), 1, 0, 0, 0, 0), (88, .iastore, 1, 0, 0, 0, 0), (89, (.aload_n 0), 1, 0, 0, 0, 0), (90, (.getfield 60), 3, 9, 23, 2, 827), (93, (.iload_n 3), 1, 0, 0, 0, 0), (94, (.iload_n 2), 1, 0, 0, 0, 0), (95, .iastore, 1, 0, 0, 0, 0), (96, (.aload_n 0), 1, 0, 0, 0, 0), (97, (.getfield 51), 3, 9, 20, 2, 824), (100, (.aload_n 0), 1, 0, 0, 0, 0), (101, (.getfield 79), 3, 9, 18, 0, 822), (104, (.iconst 1), 1, 0, 0, 0, 0), (105, .isub, 1, 0, 0, 0, 0), (106, .dup2, 1, 0, 0, 0, 0), (107, .iaload, 1, 0, 0, 0, 0), (108, (.iconst 1), 1, 0, 0, 0, 0), (109, .iadd, 1, 0, 0, 0, 0), (110, .iastore, 1, 0, 0, 0, 0), (111, (.iload_n 2), 1, 0, 0, 0, 0), (112, .ireturn, 1, 0, 0, 0, 0)]
def c136 : List (Nat × En) := c136_0 ++ (c136_1)
def c137 : List (Nat × En) := [(0, (.aload_n 0), 1, 0, 0, 0, 0), (1, (.getfield 76), 3, 9, 16, 0, 820), (4, (.bipush 40), 2, 0, 0, 0, 0), (6, (.if_icmp .ne 39), 3, 45, 0, 0, 0), (9, (.iconst 0), 1, 0, 0, 0, 0), (10, (.istore_n 1), 1, 0, 0, 0, 0), (11, (.iload_n 1), 1, 0, 0, 0, 0), (12, (.sipush 702), 3, 0, 0, 0, 0), (15, (.if_icmp .ge 24), 3, 39, 0, 0, 0), (18, (.aload_n 0), 1, 0, 0, 0, 0), (19, (.getfield 48), 3, 9, 17, 2, 821), (22, (.iload_n 1), 1, 0, 0, 0, 0), (23, (.aload_n 0), 1, 0, 0, 0, 0), (24, (.getfield 48), 3, 9, 17, 2, 821), (27, (.iload_n 1), 1, 0, 0, 0, 0), (28, (.bipush 18), 2, 0, 0, 0, 0), (30, .iadd, 1, 0, 0, 0, 0), (31, .iaload, 1, 0, 0, 0, 0), (32, .iastore, 1, 0, 0, 0, 0), (33, (.iinc 1 1), 3, 0, 0, 0, 0), (36, (.goto (-25)), 3, 11, 0, 0, 0), (39, (.aload_n 0), 1, 0, 0, 0, 0), (40, (.bipush 39), 2, 0, 0, 0, 0), (42, (.putfield 76), 3, 9, 16, 0, 820), (45, (.iconst 0), 1, 0, 0, 0, 0), (46, (.istore_n 1), 1, 0, 0, 0, 0), (47, (.iload_n 1), 1, 0, 0, 0, 0), (48, (.bipush 18), 2, 0, 0, 0, 0), (50, (.if_icmp .ge 29), 3, 79, 0, 0, 0), (53, (.aload_n 0), 1, 0, 0, 0, 0), (54, (.getfield 48), 3, 9, 17, 2, 821), (57, (.bipush 18), 2, 0, 0, 0, 0), (59, (.aload_n 0), 1, 0, 0, 0, 0), (60, (.getfield 76), 3, 9, 16, 0, 820), (63, .imul, 1, 0, 0, 0, 0), (64, (.iload_n 1), 1, 0, 0, 0, 0), (65, .iadd, 1, 0, 0, 0, 0), (66, (.aload_n 0), 1, 0, 0, 0, 0), (67, (.getfield 39), 3, 9, 13, 2, 817), (70, (.iload_n 1), 1, 0, 0, 0, 0), (71, .iaload, 1, 0, 0, 0, 0), (72, .iastore, 1, 0, 0, 0, 0), (73, (.iinc 1 1), 3, 0, 0, 0, 0), (76, (.goto (-29)), 3, 47, 0, 0, 0), (79, (.aload_n 0), 1, 0, 0, 0, 0), (80, .dup, 1, 0, 0, 0, 0), (81, (.getfield 76), 3, 9, 16, 0, 820), (84, (.iconst 1), 1, 0, 0, 0, 0), (85, .iadd, 1, 0, 0, 0, 0), (86, (.putfield 76), 3, 9, 16, 0, 820), (89, (.aload_n 0), 1, 0, 0, 0, 0), (90, (.invokevirtual 126), 3, 138, 0, 1, 967), (93, .return_, 1, 0, 0, 0, 0)]
def c138_0 : List (Nat × En) := [(0, (.iconst 0), 1, 0, 0, 0, 0), (1, (.istore_n 1), 1, 0, 0, 0, 0), (2, (.iload_n 1), 1, 0, 0, 0, 0), (3, (.bipush 6), 2, 0, 0, 0, 0), (5, (.if_icmp .ge 38), 3, 43, 0, 0, 0), (8, (.aload_n 0), 1, 0, 0, 0, 0), (9, (.getfield 45), 3, 9, 15, 2, 819), (12, (.iload_n 1), 1, 0, 0, 0, 0), (13, (.aload_n 0), 1, 0, 0, 0, 0), (14, (.getfield 24), 3, 9, 5, 2, 809), (17, (.iload_n 1), 1, 0, 0, 0, 0), (18, .iaload, 1, 0, 0, 0, 0), (19, (.iconst (-1)), 1, 0, 0, 0, 0), (20, (.if_icmp .eq 15), 3, 35, 0, 0, 0), (23, (.aload_n 0), 1, 0, 0, 0, 0), (24, (.iload_n 1), 1, 0, 0, 0, 0), (25, (.invokevirtual 123), 3, 139, 1, 1, 971), (28, (.ifCond .eq 7), 3, 35, 0, 0, 0), (31, (.iconst 1), 1, 0, 0, 0, 0), (32, (.goto 4), 3, 36, 0, 0, 0), (35, (.iconst 0), 1, 0, 0, 0, 0), (36, .bastore, 1, 0, 0, 0, 0), (37, (.iinc 1 1), 3, 0, 0, 0, 0), (40, (.goto (-38)), 3, 2, 0, 0, 0), (43, (.iconst 0), 1, 0, 0, 0, 0), (44, (.istore_n 1), 1, 0, 0, 0, 0), (45, (.iload_n 1), 1, 0, 0, 0, 0), (46, (.bipush 6), 2, 0, 0, 0, 0), (48, (.if_icmp .ge 46), 3, 94, 0, 0, 0), (51, (.aload_n 0), 1, 0, 0, 0, 0), (52, (.getfield 39), 3, 9, 13, 2, 817), (55, (.iload_n 1), 1, 0, 0, 0, 0), (56, (.aload_n 0), 1, 0, 0, 0, 0), (57, (.getfield 45), 3, 9, 15, 2, 819), (60, (.iload_n 1), 1, 0, 0, 0, 0), (61, .baload, 1, 0, 0, 0, 0), (62, (.ifCond .eq 19), 3, 81, 0, 0, 0), (65, (.aload_n 0), 1, 0, 0, 0, 0), (66, (.getfield 39), 3, 9, 13, 2, 817), (69, (.iload_n 1), 1, 0, 0, 0, 0)]
def c138_1 : List (Nat × En) := [(70, .iaload, 1, 0, 0, 0, 0), (71, (.iconst 1), 1, 0, 0, 0, 0), (72, .iadd, 1, 0, 0, 0, 0), (73, (.aload_n 0), 1, 0, 0, 0, 0), (74, (.getfield 7), 3, 9, 1, 0, 805), (77, .irem, 1, 0, 0, 0, 0), (78, (.goto 9), 3, 87, 0, 0, 0), (81, (.aload_n 0), 1, 0, 0, 0, 0), (82, (.getfield 39), 3, 9, 13, 2, 817), (85, (.iload_n 1), 1, 0, 0, 0, 0), (86, .iaload, 1, 0, 0, 0, 0), (87, .iastore, 1, 0, 0, 0, 0), (88, (.iinc 1 1), 3, 0, 0, 0, 0), (91, (.goto (-46)), 3, 45, 0, 0, 0), (94, (.iconst 0), 1, 0, 0, 0, 0), (95, (.istore_n 1), 1, 0, 0, 0, 0), (96, (.iload_n 1), 1, 0, 0, 0, 0), (97, (.bipush 12), 2, 0, 0, 0, 0), (99, (.if_icmp .ge 49), 3, 148, 0, 0, 0), (102, (.aload_n 0), 1, 0, 0, 0, 0), (103, (.getfield 39), 3, 9, 13, 2, 817), (106, (.bipush 6), 2, 0, 0, 0, 0), (108, (.iload_n 1), 1, 0, 0, 0, 0), (109, .iadd, 1, 0, 0, 0, 0), (110, (.aload_n 0), 1, 0, 0, 0, 0), (111, (.getfield 30), 3, 9, 8, 2, 812), (114, (.iload_n 1), 1, 0, 0, 0, 0), (115, .iaload, 1, 0, 0, 0, 0), (116, (.ifCond .le 24), 3, 140, 0, 0, 0), (119, (.aload_n 0), 1, 0, 0, 0, 0), (120, (.getfield 39), 3, 9, 13, 2, 817), (123, (.bipush 6), 2, 0, 0, 0, 0), (125, (.iload_n 1), 1, 0, 0, 0, 0), (126, .iadd, 1, 0, 0, 0, 0), (127, .iaload, 1, 0, 0, 0, 0), (128, (.iconst 1), 1, 0, 0, 0, 0), (129, .iadd, 1, 0, 0, 0, 0), (130, (.aload_n 0), 1, 0, 0, 0, 0), (131, (.getfield 30), 3, 9, 8, 2, 812), (134, (.iload_n 1), 1, 0, 0, 0, 0)]
def c138_2 : List (Nat × En) := [(135, .iaload, 1, 0, 0, 0, 0), (136, .irem, 1, 0, 0, 0, 0), (137, (.goto 4), 3, 141, 0, 0, 0), (140, (.iconst 0), 1, 0, 0, 0, 0), (141, .iastore, 1, 0, 0, 0, 0), (142, (.iinc 1 1), 3, 0, 0, 0, 0), (145, (.goto (-49)), 3, 96, 0, 0, 0), (148, .return_, 1, 0, 0, 0, 0)]
def c138 : List (Nat × En) := c138_0 ++ (c138_1 ++ (c138_2))
def c139_0 : List (Nat × En) := [(0, (.aload_n 0), 1, 0, 0, 0, 0), (1, (.iload_n 1), 1, 0, 0, 0, 0), (2, (.iconst (-1)), 1, 0, 0, 0, 0), (3, (.iconst 0), 1, 0, 0, 0, 0), (4, (.invokevirtual 113), 3, 140, 3, 1, 975), (7, (.istore_n 2), 1, 0, 0, 0, 0), (8, (.aload_n 0), 1, 0, 0, 0, 0), (9, (.iload_n 1), 1, 0, 0, 0, 0), (10, (.iconst 1), 1, 0, 0, 0, 0), (11, (.iconst 0), 1, 0, 0, 0, 0), (12, (.invokevirtual 113), 3, 140, 3, 1, 975), (15, (.istore_n 3), 1, 0, 0, 0, 0), (16, (.aload_n 0), 1, 0, 0, 0, 0), (17, (.bipush 6), 2, 0, 0, 0, 0), (19, (.iconst (-1)), 1, 0, 0, 0, 0), (20, (.iconst 0), 1, 0, 0, 0, 0), (21, (.invokevirtual 113), 3, 140, 3, 1, 975), (24, (.istore 4), 2, 0, 0, 0, 0), (26, (.aload_n 0), 1, 0, 0, 0, 0), (27, (.getfield 70), 3, 9, 11, 0, 815), (30, (.tableswitch 111 0 3 #[30, 36, 68, 88]), 30, 0, 0, 0, 0), (60, (.aload_n 0), 1, 0, 0, 0, 0), (61, (.iload_n 1), 1, 0, 0, 0, 0), (62, (.invokevirtual 117), 3, 141, 1, 1, 979), (65, .ireturn, 1, 0, 0, 0, 0), (66, (.iload_n 2), 1, 0, 0, 0, 0), (67, (.iconst (-1)), 1, 0, 0, 0, 0), (68, (.if_icmp .eq 24), 3, 92, 0, 0, 0), (71, (.aload_n 0), 1, 0, 0, 0, 0), (72, (.iload_n 2), 1, 0, 0, 0, 0), (73, (.invokevirtual 110), 3, 142, 1, 1, 983), (76, (.ifCond .ne 16), 3, 92, 0, 0, 0), (79, (.aload_n 0), 1, 0, 0, 0, 0), (80, (.iload_n 1), 1, 0, 0, 0, 0), (81, (.invokevirtual 110), 3, 142, 1, 1, 983), (84, (.ifCond .eq 12), 3, 96, 0, 0, 0), (87, (.iload_n 3), 1, 0, 0, 0, 0), (88, (.iconst (-1)), 1, 0, 0, 0, 0), (89, (.if_icmp .eq 7), 3, 96, 0, 0, 0), (92, (.iconst 1), 1, 0, 0, 0, 0)]
def c139_1 : List (Nat × En) := [(93, (.goto 4), 3, 97, 0, 0, 0), (96, (.iconst 0), 1, 0, 0, 0, 0), (97, .ireturn, 1, 0, 0, 0, 0), (98, (.aload_n 0), 1, 0, 0, 0, 0), (99, (.aload_n 0), 1, 0, 0, 0, 0), (100, (.iload_n 1), 1, 0, 0, 0, 0), (101, (.iconst 1), 1, 0, 0, 0, 0), (102, (.iconst 1), 1, 0, 0, 0, 0), (103, (.invokevirtual 113), 3, 140, 3, 1, 975), (106, (.invokevirtual 110), 3, 142, 1, 1, 983), (109, (.ifCond .ne 7), 3, 116, 0, 0, 0), (112, (.iconst 1), 1, 0, 0, 0, 0), (113, (.goto 4), 3, 117, 0, 0, 0), (116, (.iconst 0), 1, 0, 0, 0, 0), (117, .ireturn, 1, 0, 0, 0, 0), (118, (.aload_n 0), 1, 0, 0, 0, 0), (119, (.getfield 30), 3, 9, 8, 2, 812), (122, (.iload_n 1), 1, 0, 0, 0, 0), (123, .iaload, 1, 0, 0, 0, 0), (124, (.ifCond .eq 11), 3, 135, 0, 0, 0), (127, (.aload_n 0), 1, 0, 0, 0, 0), (128, (.iload_n 1), 1, 0, 0, 0, 0), (129, (.invokevirtual 120), 3, 143, 1, 1, 987), (132, (.ifCond .eq 7), 3, 139, 0, 0, 0), (135, (.iconst 1), 1, 0, 0, 0, 0), (136, (.goto 4), 3, 140, 0, 0, 0), (139, (.iconst 0), 1, 0, 0, 0, 0), (140, .ireturn, 1, 0, 0, 0, 0), (141, (.iload_n 1), 1, 0, 0, 0, 0), (142, (.iload 4), 2, 0, 0, 0, 0), (144, (.if_icmp .eq 12), 3, 156, 0, 0, 0), (147, (.aload_n 0), 1, 0, 0, 0, 0), (148, (.iload 4), 2, 0, 0, 0, 0), (150, (.invokevirtual 110), 3, 142, 1, 1, 983), (153, (.ifCond .ne 7), 3, 160, 0, 0, 0), (156, (.iconst 1), 1, 0, 0, 0, 0), (157, (.goto 4), 3, 161, 0, 0, 0), (160, (.iconst 0), 1, 0, 0, 0, 0), (161, .ireturn, 1, 0, 0, 0, 0)]
def c139 : List (Nat × En) := c139_0 ++ (c139_1)
def c140 : List (Nat × En) := [(0, (.iload_n 1), 1, 0, 0, 0, 0), (1, (.iload_n 2), 1, 0, 0, 0, 0), (2, .iadd, 1, 0, 0, 0, 0), (3, (.istore 4), 2, 0, 0, 0, 0), (5, (.iconst 0), 1, 0, 0, 0, 0), (6, (.istore 5), 2, 0, 0, 0, 0), (8, (.iload 5), 2, 0, 0, 0, 0), (10, (.bipush 6), 2, 0, 0, 0, 0), (12, (.if_icmp .ge 61), 3, 73, 0, 0, 0), (15, (.iload_n 3), 1, 0, 0, 0, 0), (16, (.ifCond .eq 14), 3, 30, 0, 0, 0), (19, (.iload 4), 2, 0, 0, 0, 0), (21, (.bipush 6), 2, 0, 0, 0, 0), (23, .iadd, 1, 0, 0, 0, 0), (24, (.bipush 6), 2, 0, 0, 0, 0), (26, .irem, 1, 0, 0, 0, 0), (27, (.goto 5), 3, 32, 0, 0, 0), (30, (.iload 4), 2, 0, 0, 0, 0), (32, (.istore 4), 2, 0, 0, 0, 0), (34, (.iload 4), 2, 0, 0, 0, 0), (36, (.ifCond .lt 9), 3, 45, 0, 0, 0), (39, (.iload 4), 2, 0, 0, 0, 0), (41, (.iconst 5), 1, 0, 0, 0, 0), (42, (.if_icmp .le 5), 3, 47, 0, 0, 0), (45, (.iconst (-1)), 1, 0, 0, 0, 0), (46, .ireturn, 1, 0, 0, 0, 0), (47, (.aload_n 0), 1, 0, 0, 0, 0), (48, (.getfield 24), 3, 9, 5, 2, 809), (51, (.iload 4), 2, 0, 0, 0, 0), (53, .iaload, 1, 0, 0, 0, 0), (54, (.iconst (-1)), 1, 0, 0, 0, 0), (55, (.if_icmp .eq 6), 3, 61, 0, 0, 0), (58, (.iload 4), 2, 0, 0, 0, 0), (60, .ireturn, 1, 0, 0, 0, 0), (61, (.iload 4), 2, 0, 0, 0, 0), (63, (.iload_n 2), 1, 0, 0, 0, 0), (64, .iadd, 1, 0, 0, 0, 0), (65, (.istore 4), 2, 0, 0, 0, 0), (67, (.iinc 5 1), 3, 0, 0, 0, 0), (70, (.goto (-62)), 3, 8, 0, 0, 0), (73, (.iconst (-1)), 1, 0, 0, 0, 0), (74, .ireturn, 1, 0, 0, 0, 0)]
def c141 : List (Nat × En) := [(0, (.iconst 1), 1, 0, 0, 0, 0), (1, (.istore_n 2), 1, 0, 0, 0, 0), (2, (.iconst 0), 1, 0, 0, 0, 0), (3, (.istore_n 3), 1, 0, 0, 0, 0), (4, (.iload_n 3), 1, 0, 0, 0, 0), (5, (.iload_n 1), 1, 0, 0, 0, 0), (6, (.if_icmp .ge 37), 3, 43, 0, 0, 0), (9, (.iload_n 2), 1, 0, 0, 0, 0), (10, (.ifCond .eq 25), 3, 35, 0, 0, 0), (13, (.aload_n 0), 1, 0, 0, 0, 0), (14, (.getfield 24), 3, 9, 5, 2, 809), (17, (.iload_n 3), 1, 0, 0, 0, 0), (18, .iaload, 1, 0, 0, 0, 0), (19, (.iconst (-1)), 1, 0, 0, 0, 0), (20, (.if_icmp .eq 11), 3, 31, 0, 0, 0), (23, (.aload_n 0), 1, 0, 0, 0, 0), (24, (.iload_n 3), 1, 0, 0, 0, 0), (25, (.invokevirtual 110), 3, 142, 1, 1, 983), (28, (.ifCond .eq 7), 3, 35, 0, 0, 0), (31, (.iconst 1), 1, 0, 0, 0, 0), (32, (.goto 4), 3, 36, 0, 0, 0), (35, (.iconst 0), 1, 0, 0, 0, 0), (36, (.istore_n 2), 1, 0, 0, 0, 0), (37, (.iinc 3 1), 3, 0, 0, 0, 0), (40, (.goto (-36)), 3, 4, 0, 0, 0), (43, (.iload_n 2), 1, 0, 0, 0, 0), (44, .ireturn, 1, 0, 0, 0, 0)]
def c142 : List (Nat × En) := [(0, (.aload_n 0), 1, 0, 0, 0, 0), (1, (.getfield 20), 3, 9, 4, 2, 808), (4, (.bipush 32), 2, 0, 0, 0, 0), (6, (.aload_n 0), 1, 0, 0, 0, 0), (7, (.getfield 24), 3, 9, 5, 2, 809), (10, (.iload_n 1), 1, 0, 0, 0, 0), (11, .iaload, 1, 0, 0, 0, 0), (12, .imul, 1, 0, 0, 0, 0), (13, (.aload_n 0), 1, 0, 0, 0, 0), (14, (.getfield 39), 3, 9, 13, 2, 817), (17, (.iload_n 1), 1, 0, 0, 0, 0), (18, .iaload, 1, 0, 0, 0, 0), (19, .iadd, 1, 0, 0, 0, 0), (20, .baload, 1, 0, 0, 0, 0), (21, .ireturn, 1, 0, 0, 0, 0)]
def c143 : List (Nat × En) := [(0, (.aload_n 0), 1, 0, 0, 0, 0), (1, (.getfield 30), 3, 9, 8, 2, 812), (4, (.iload_n 1), 1, 0, 0, 0, 0), (5, .iaload, 1, 0, 0, 0, 0), (6, (.ifCond .le 29), 3, 35, 0, 0, 0), (9, (.aload_n 0), 1, 0, 0, 0, 0), (10, (.getfield 33), 3, 9, 9, 2, 813), (13, (.bipush 64), 2, 0, 0, 0, 0), (15, (.iload_n 1), 1, 0, 0, 0, 0), (16, .imul, 1, 0, 0, 0, 0), (17, (.aload_n 0), 1, 0, 0, 0, 0), (18, (.getfield 39), 3, 9, 13, 2, 817), (21, (.bipush 6), 2, 0, 0, 0, 0), (23, (.iload_n 1), 1, 0, 0, 0, 0), (24, .iadd, 1, 0, 0, 0, 0), (25, .iaload, 1, 0, 0, 0, 0), (26, .iadd, 1, 0, 0, 0, 0), (27, .baload, 1, 0, 0, 0, 0), (28, (.ifCond .eq 7), 3, 35, 0, 0, 0), (31, (.iconst 1), 1, 0, 0, 0, 0), (32, (.goto 4), 3, 36, 0, 0, 0), (35, (.iconst 0), 1, 0, 0, 0, 0), (36, .ireturn, 1, 0, 0, 0, 0)]
def c144 : List (Nat × En) := [(0, (.aload_n 0), 1, 0, 0, 0, 0), (1, (.getfield 27), 3, 9, 6, 2, 810), (4, (.iload_n 1), 1, 0, 0, 0, 0), (5, .iaload, 1, 0, 0, 0, 0), (6, (.istore_n 2), 1, 0, 0, 0, 0), (7, (.aload_n 0), 1, 0, 0, 0, 0), (8, (.getfield 73), 3, 9, 12, 0, 816), (11, (.ifCond .ne 11), 3, 22, 0, 0, 0), (14, (.aload_n 0), 1, 0, 0, 0, 0), (15, (.iload_n 2), 1, 0, 0, 0, 0), (16, (.invokevirtual 136), 3, 145, 1, 1, 995), (19, (.goto 24), 3, 43, 0, 0, 0), (22, (.aload_n 0), 1, 0, 0, 0, 0), (23, (.getfield 73), 3, 9, 12, 0, 816), (26, (.iconst 1), 1, 0, 0, 0, 0), (27, (.if_icmp .ne 11), 3, 38, 0, 0, 0), (30, (.aload_n 0), 1, 0, 0, 0, 0), (31, (.iload_n 2), 1, 0, 0, 0, 0), (32, (.invokevirtual 140), 3, 148, 1, 1, 1007), (35, (.goto 8), 3, 43, 0, 0, 0), (38, (.aload_n 0), 1, 0, 0, 0, 0), (39, (.iload_n 2), 1, 0, 0, 0, 0), (40, (.invokevirtual 143), 3, 149, 1, 1, 1011), (43, (.istore_n 2), 1, 0, 0, 0, 0), (44, (.aload_n 0), 1, 0, 0, 0, 0), (45, (.getfield 27), 3, 9, 6, 2, 810), (48, (.iload_n 2), 1, 0, 0, 0, 0), (49, .iaload, 1, 0, 0, 0, 0), (50, .ireturn, 1, 0, 0, 0, 0)]
def c145 : List (Nat × En) := [(0, (.iload_n 1), 1, 0, 0, 0, 0), (1, (.istore_n 2), 1, 0, 0, 0, 0), (2, (.iconst 0), 1, 0, 0, 0, 0), (3, (.istore_n 3), 1, 0, 0, 0, 0), (4, (.iload_n 3), 1, 0, 0, 0, 0), (5, (.bipush 6), 2, 0, 0, 0, 0), (7, (.if_icmp .ge 30), 3, 37, 0, 0, 0), (10, (.aload_n 0), 1, 0, 0, 0, 0), (11, (.getfield 24), 3, 9, 5, 2, 809), (14, (.iload_n 3), 1, 0, 0, 0, 0), (15, .iaload, 1, 0, 0, 0, 0), (16, (.iconst (-1)), 1, 0, 0, 0, 0), (17, (.if_icmp .ne 7), 3, 24, 0, 0, 0), (20, (.iload_n 2), 1, 0, 0, 0, 0), (21, (.goto 9), 3, 30, 0, 0, 0), (24, (.aload_n 0), 1, 0, 0, 0, 0), (25, (.iload_n 3), 1, 0, 0, 0, 0), (26, (.iload_n 2), 1, 0, 0, 0, 0), (27, (.invokevirtual 129), 3, 146, 2, 1, 999), (30, (.istore_n 2), 1, 0, 0, 0, 0), (31, (.iinc 3 1), 3, 0, 0, 0, 0), (34, (.goto (-30)), 3, 4, 0, 0, 0), (37, (.aload_n 0), 1, 0, 0, 0, 0), (38, (.getfield 66), 3, 9, 7, 1, 811), (41, (.ifCond .ne 5), 3, 46, 0, 0, 0), (44, (.iload_n 2), 1, 0, 0, 0, 0), (45, .ireturn, 1, 0, 0, 0, 0), (46, (.aload_n 0), 1, 0, 0, 0, 0), (47, (.getfield 27), 3, 9, 6, 2, 810), (50, (.bipush 32), 2, 0, 0, 0, 0), (52, (.iload_n 2), 1, 0, 0, 0, 0), (53, .iadd, 1, 0, 0, 0, 0), (54, .iaload, 1, 0, 0, 0, 0), (55, (.istore_n 2), 1, 0, 0, 0, 0), (56, (.iconst 5), 1, 0, 0, 0, 0), (57, (.istore_n 3), 1, 0, 0, 0, 0), (58, (.iload_n 3), 1, 0, 0, 0, 0), (59, (.ifCond .lt 30), 3, 89, 0, 0, 0), (62, (.aload_n 0), 1, 0, 0, 0, 0), (63, (.getfield 24), 3, 9, 5, 2, 809), (66, (.iload_n 3), 1, 0, 0, 0, 0), (67, .iaload, 1, 0, 0, 0, 0), (68, (.iconst (-1)), 1, 0, 0, 0, 0), (69, (.if_icmp .ne 7), 3, 76, 0, 0, 0), (72, (.iload_n 2), 1, 0, 0, 0, 0), (73, (.goto 9), 3, 82, 0, 0, 0), (76, (.aload_n 0), 1, 0, 0, 0, 0), (77, (.iload_n 3), 1, 0, 0, 0, 0), (78, (.iload_n 2), 1, 0, 0, 0, 0), (79, (.invokevirtual 133), 3, 147, 2, 1, 1003), (82, (.istore_n 2), 1, 0, 0, 0, 0), (83, (.iinc 3 (-1)), 3, 0, 0, 0, 0), (86, (.goto (-28)), 3, 58, 0, 0, 0), (89, (.iload_n 2), 1, 0, 0, 0, 0), (90, .ireturn, 1, 0, 0, 0, 0)]
def c146 : List (Nat × En) := [(0, (.aload_n 0), 1, 0, 0, 0, 0), (1, (.getfield 39), 3, 9, 13, 2, 817), (4, (.iload_n 1), 1, 0, 0, 0, 0), (5, .iaload, 1, 0, 0, 0, 0), (6, (.aload_n 0), 1, 0, 0, 0, 0), (7, (.getfield 17), 3, 9, 3, 2, 807), (10, (.aload_n 0), 1, 0, 0, 0, 0), (11, (.getfield 24), 3, 9, 5, 2, 809), (14, (.iload_n 1), 1, 0, 0, 0, 0), (15, .iaload, 1, 0, 0, 0, 0), (16, .iaload, 1, 0, 0, 0, 0), (17, .isub, 1, 0, 0, 0, 0), (18, (.aload_n 0), 1, 0, 0, 0, 0), (19, (.getfield 7), 3, 9, 1, 0, 805), (22, .iadd, 1, 0, 0, 0, 0), (23, (.istore_n 3), 1, 0, 0, 0, 0), (24, (.aload_n 0), 1, 0, 0, 0, 0), (25, (.getfield 13), 3, 9, 2, 2, 806), (28, (.bipush 32), 2, 0, 0, 0, 0), (30, (.aload_n 0), 1, 0, 0, 0, 0), (31, (.getfield 24), 3, 9, 5, 2, 809), (34, (.iload_n 1), 1, 0, 0, 0, 0), (35, .iaload, 1, 0, 0, 0, 0), (36, .imul, 1, 0, 0, 0, 0), (37, (.iload_n 2), 1, 0, 0, 0, 0), (38, (.iload_n 3), 1, 0, 0, 0, 0), (39, .iadd, 1, 0, 0, 0, 0), (40, (.aload_n 0), 1, 0, 0, 0, 0), (41, (.getfield 7), 3, 9, 1, 0, 805), (44, .irem, 1, 0, 0, 0, 0), (45, .iadd, 1, 0, 0, 0, 0), (46, .iaload, 1, 0, 0, 0, 0), (47, (.iload_n 3), 1, 0, 0, 0, 0), (48, .isub, 1, 0, 0, 0, 0), (49, (.iconst 2), 1, 0, 0, 0, 0), (50, (.aload_n 0), 1, 0, 0, 0, 0), (51, (.getfield 7), 3, 9, 1, 0, 805), (54, .imul, 1, 0, 0, 0, 0), (55, .iadd, 1, 0, 0, 0, 0), (56, (.aload_n 0), 1, 0, 0, 0, 0), (57, (.getfield 7), 3, 9, 1, 0, 805), (60, .irem, 1, 0, 0, 0, 0), (61, .ireturn, 1, 0, 0, 0, 0)]
def c147 : List (Nat × En) := [(0, (.iconst 0), 1, 0, 0, 0, 0), (1, (.istore_n 3), 1, 0, 0, 0, 0), (2, (.aload_n 0), 1, 0, 0, 0, 0), (3, (.iload_n 1), 1, 0, 0, 0, 0), (4, (.iload_n 3), 1, 0, 0, 0, 0), (5, (.invokevirtual 129), 3, 146, 2, 1, 999), (8, (.iload_n 2), 1, 0, 0, 0, 0), (9, (.if_icmp .eq 9), 3, 18, 0, 0, 0), (12, (.iinc 3 1), 3, 0, 0, 0, 0), (15, (.goto (-13)), 3, 2, 0, 0, 0), (18, (.iload_n 3), 1, 0, 0, 0, 0), (19, .ireturn, 1, 0, 0, 0, 0)]
def c148 : List (Nat × En) := [(0, (.iload_n 1), 1, 0, 0, 0, 0), (1, (.istore_n 2), 1, 0, 0, 0, 0), (2, (.iconst 0), 1, 0, 0, 0, 0), (3, (.istore_n 3), 1, 0, 0, 0, 0), (4, (.iload_n 3), 1, 0, 0, 0, 0), (5, (.iconst 5), 1, 0, 0, 0, 0), (6, (.if_icmp .ge 43), 3, 49, 0, 0, 0), (9, (.aload_n 0), 1, 0, 0, 0, 0), (10, (.getfield 7), 3, 9, 1, 0, 805), (13, (.bipush 32), 2, 0, 0, 0, 0), (15, (.if_icmp .ne 34), 3, 49, 0, 0, 0), (18, (.aload_n 0), 1, 0, 0, 0, 0), (19, (.iload_n 3), 1, 0, 0, 0, 0), (20, (.invokevirtual 120), 3, 143, 1, 1, 987), (23, (.aload_n 0), 1, 0, 0, 0, 0), (24, (.iload_n 3), 1, 0, 0, 0, 0), (25, (.iconst 5), 1, 0, 0, 0, 0), (26, .iadd, 1, 0, 0, 0, 0), (27, (.invokevirtual 120), 3, 143, 1, 1, 987), (30, (.if_icmp .eq 11), 3, 41, 0, 0, 0), (33, (.iload_n 2), 1, 0, 0, 0, 0), (34, (.iconst 1), 1, 0, 0, 0, 0), (35, (.iload_n 3), 1, 0, 0, 0, 0), (36, .ishl, 1, 0, 0, 0, 0), (37, .ixor, 1, 0, 0, 0, 0), (38, (.goto 4), 3, 42, 0, 0, 0), (41, (.iload_n 2), 1, 0, 0, 0, 0), (42, (.istore_n 2), 1, 0, 0, 0, 0), (43, (.iinc 3 1), 3, 0, 0, 0, 0), (46, (.goto (-42)), 3, 4, 0, 0, 0), (49, (.iload_n 2), 1, 0, 0, 0, 0), (50, .ireturn, 1, 0, 0, 0, 0)]
def c149_0 : List (Nat × En) := [(0, (.iconst 0), 1, 0, 0, 0, 0), (1, (.istore_n 2), 1, 0, 0, 0, 0), (2, (.iconst 0), 1, 0, 0, 0, 0), (3, (.istore_n 3), 1, 0, 0, 0, 0), (4, (.iload_n 3), 1, 0, 0, 0, 0), (5, (.bipush 27), 2, 0, 0, 0, 0), (7, (.if_icmp .ge 99), 3, 106, 0, 0, 0), (10, (.aload_n 0), 1, 0, 0, 0, 0), (11, (.getfield 36), 3, 9, 10, 2, 814), (14, (.iconst 2), 1, 0, 0, 0, 0), (15, (.iload_n 3), 1, 0, 0, 0, 0), (16, .imul, 1, 0, 0, 0, 0), (17, .iaload, 1, 0, 0, 0, 0), (18, (.iconst (-1)), 1, 0, 0, 0, 0), (19, (.if_icmp .eq 22), 3, 41, 0, 0, 0), (22, (.aload_n 0), 1, 0, 0, 0, 0), (23, (.aload_n 0), 1, 0, 0, 0, 0), (24, (.getfield 36), 3, 9, 10, 2, 814), (27, (.iconst 2), 1, 0, 0, 0, 0), (28, (.iload_n 3), 1, 0, 0, 0, 0), (29, .imul, 1, 0, 0, 0, 0), (30, .iaload, 1, 0, 0, 0, 0), (31, (.invokevirtual 120), 3, 143, 1, 1, 987), (34, (.ifCond .eq 7), 3, 41, 0, 0, 0), (37, (.iconst 1), 1, 0, 0, 0, 0), (38, (.goto 4), 3, 42, 0, 0, 0), (41, (.iconst 0), 1, 0, 0, 0, 0), (42, (.istore 4), 2, 0, 0, 0, 0), (44, (.aload_n 0), 1, 0, 0, 0, 0), (45, (.getfield 36), 3, 9, 10, 2, 814), (48, (.iconst 2), 1, 0, 0, 0, 0), (49, (.iload_n 3), 1, 0, 0, 0, 0), (50, .imul, 1, 0, 0, 0, 0), (51, (.iconst 1), 1, 0, 0, 0, 0), (52, .iadd, 1, 0, 0, 0, 0), (53, .iaload, 1, 0, 0, 0, 0), (54, (.iconst (-1)), 1, 0, 0, 0, 0), (55, (.if_icmp .eq 24), 3, 79, 0, 0, 0), (58, (.aload_n 0), 1, 0, 0, 0, 0), (59, (.aload_n 0), 1, 0, 0, 0, 0)]
def c149_1 : List (Nat × En) := [(60, (.getfield 36), 3, 9, 10, 2, 814), (63, (.iconst 2), 1, 0, 0, 0, 0), (64, (.iload_n 3), 1, 0, 0, 0, 0), (65, .imul, 1, 0, 0, 0, 0), (66, (.iconst 1), 1, 0, 0, 0, 0), (67, .iadd, 1, 0, 0, 0, 0), (68, .iaload, 1, 0, 0, 0, 0), (69, (.invokevirtual 120), 3, 143, 1, 1, 987), (72, (.ifCond .eq 7), 3, 79, 0, 0, 0), (75, (.iconst 1), 1, 0, 0, 0, 0), (76, (.goto 4), 3, 80, 0, 0, 0), (79, (.iconst 0), 1, 0, 0, 0, 0), (80, (.istore 5), 2, 0, 0, 0, 0), (82, (.iload 4), 2, 0, 0, 0, 0), (84, (.ifCond .ne 8), 3, 92, 0, 0, 0), (87, (.iload 5), 2, 0, 0, 0, 0), (89, (.ifCond .eq 9), 3, 98, 0, 0, 0), (92, (.iload_n 2), 1, 0, 0, 0, 0), (93, (.iconst 1), 1, 0, 0, 0, 0), (94, .iadd, 1, 0, 0, 0, 0), (95, (.goto 4), 3, 99, 0, 0, 0), (98, (.iload_n 2), 1, 0, 0, 0, 0), (99, (.istore_n 2), 1, 0, 0, 0, 0), (100, (.iinc 3 1), 3, 0, 0, 0, 0), (103, (.goto (-99)), 3, 4, 0, 0, 0), (106, (.iload_n 2), 1, 0, 0, 0, 0), (107, (.iload_n 1), 1, 0, 0, 0, 0), (108, .isub, 1, 0, 0, 0, 0), (109, (.iconst 2), 1, 0, 0, 0, 0), (110, (.aload_n 0), 1, 0, 0, 0, 0), (111, (.getfield 7), 3, 9, 1, 0, 805), (114, .imul, 1, 0, 0, 0, 0), (115, .iadd, 1, 0, 0, 0, 0), (116, (.aload_n 0), 1, 0, 0, 0, 0), (117, (.getfield 7), 3, 9, 1, 0, 805), (120, .irem, 1, 0, 0, 0, 0), (121, .ireturn, 1, 0, 0, 0, 0)]
def c149 : List (Nat × En) := c149_0 ++ (c149_1)
def c150 : List (Nat × En) := [(0, (.aload_n 0), 1, 0, 0, 0, 0), (1, (.aload_n 0), 1, 0, 0, 0, 0), (2, (.iload_n 1), 1, 0, 0, 0, 0), (3, (.invokevirtual 96), 3, 120, 1, 1, 896), (6, (.aload_n 0), 1, 0, 0, 0, 0), (7, (.getfield 82), 3, 9, 19, 1, 823), (10, (.ifCond .ne 7), 3, 17, 0, 0, 0), (13, (.iconst 1), 1, 0, 0, 0, 0), (14, (.goto 4), 3, 18, 0, 0, 0), (17, (.iconst 0), 1, 0, 0, 0, 0), (18, (.iconst 1), 1, 0, 0, 0, 0), (19, (.invokevirtual 88), 3, 117, 3, 1, 885), (22, (.ifCond .ne 5), 3, 27, 0, 0, 0), (25, (.iconst 0), 1, 0, 0, 0, 0), (26, .ireturn, 1, 0, 0, 0, 0), (27, (.aload_n 0), 1, 0, 0, 0, 0), (28, (.invokevirtual 146), 3, 137, 0, 1, 963), (31, (.iconst 0), 1, 0, 0, 0, 0), (32, (.istore_n 2), 1, 0, 0, 0, 0), (33, (.aload_n 0), 1, 0, 0, 0, 0), (34, (.iload_n 2), 1, 0, 0, 0, 0), (35, (.invokevirtual 149), 3, 144, 1, 1, 991), (38, (.iload_n 1), 1, 0, 0, 0, 0), (39, (.if_icmp .eq 9), 3, 48, 0, 0, 0), (42, (.iinc 2 1), 3, 0, 0, 0, 0), (45, (.goto (-12)), 3, 33, 0, 0, 0), (48, (.iload_n 2), 1, 0, 0, 0, 0), (49, .ireturn, 1, 0, 0, 0, 0)]
def c151 : List (Nat × En) := [(0, (.aload_n 0), 1, 0, 0, 0, 0), (1, (.aload_n 0), 1, 0, 0, 0, 0), (2, (.iload_n 1), 1, 0, 0, 0, 0), (3, (.invokevirtual 96), 3, 120, 1, 1, 896), (6, (.iconst 1), 1, 0, 0, 0, 0), (7, (.iconst 1), 1, 0, 0, 0, 0), (8, (.invokevirtual 88), 3, 117, 3, 1, 885), (11, (.ifCond .eq 11), 3, 22, 0, 0, 0), (14, (.aload_n 0), 1, 0, 0, 0, 0), (15, (.iload_n 1), 1, 0, 0, 0, 0), (16, (.invokevirtual 149), 3, 144, 1, 1, 991), (19, (.goto 4), 3, 23, 0, 0, 0), (22, (.iconst 0), 1, 0, 0, 0, 0), (23, .ireturn, 1, 0, 0, 0, 0)]
def c152 : List (Nat × En) := [(0, (.aload_n 0), 1, 0, 0, 0, 0), (1, (.aload_n 0), 1, 0, 0, 0, 0), (2, (.iload_n 1), 1, 0, 0, 0, 0), (3, (.iload_n 2), 1, 0, 0, 0, 0), (4, (.invokevirtual 107), 3, 135, 2, 1, 955), (7, (.iconst 1), 1, 0, 0, 0, 0), (8, (.iconst 1), 1, 0, 0, 0, 0), (9, (.invokevirtual 88), 3, 117, 3, 1, 885), (12, (.ifCond .eq 17), 3, 29, 0, 0, 0), (15, (.aload_n 0), 1, 0, 0, 0, 0), (16, (.getfield 39), 3, 9, 13, 2, 817), (19, (.bipush 6), 2, 0, 0, 0, 0), (21, (.iload_n 1), 1, 0, 0, 0, 0), (22, .imul, 1, 0, 0, 0, 0), (23, (.iload_n 2), 1, 0, 0, 0, 0), (24, .iadd, 1, 0, 0, 0, 0), (25, .iaload, 1, 0, 0, 0, 0), (26, (.goto 4), 3, 30, 0, 0, 0), (29, (.iconst 0), 1, 0, 0, 0, 0), (30, .ireturn, 1, 0, 0, 0, 0)]
def c153 : List (Nat × En) := [(0, (.aload_n 0), 1, 0, 0, 0, 0), (1, (.aload_n 0), 1, 0, 0, 0, 0), (2, (.getfield 82), 3, 9, 19, 1, 823), (5, (.ifCond .ne 14), 3, 19, 0, 0, 0), (8, (.aload_n 0), 1, 0, 0, 0, 0), (9, (.getfield 76), 3, 9, 16, 0, 820), (12, (.ifCond .le 7), 3, 19, 0, 0, 0), (15, (.iconst 1), 1, 0, 0, 0, 0), (16, (.goto 4), 3, 20, 0, 0, 0), (19, (.iconst 0), 1, 0, 0, 0, 0), (20, (.iconst 1), 1, 0, 0, 0, 0), (21, (.iconst 1), 1, 0, 0, 0, 0), (22, (.invokevirtual 88), 3, 117, 3, 1, 885), (25, (.ifCond .ne 5), 3, 30, 0, 0, 0), (28, (.iconst 0), 1, 0, 0, 0, 0), (29, .ireturn, 1, 0, 0, 0, 0), (30, (.aload_n 0), 1, 0, 0, 0, 0), (31, .dup, 1, 0, 0, 0, 0), (32, (.getfield 76), 3, 9, 16, 0, 820), (35, (.iconst 1), 1, 0, 0, 0, 0), (36, .isub, 1, 0, 0, 0, 0), (37, (.putfield 76), 3, 9, 16, 0, 820), (40, (.iconst 0), 1, 0, 0, 0, 0), (41, (.istore_n 1), 1, 0, 0, 0, 0), (42, (.iload_n 1), 1, 0, 0, 0, 0), (43, (.bipush 18), 2, 0, 0, 0, 0), (45, (.if_icmp .ge 29), 3, 74, 0, 0, 0), (48, (.aload_n 0), 1, 0, 0, 0, 0), (49, (.getfield 39), 3, 9, 13, 2, 817), (52, (.iload_n 1), 1, 0, 0, 0, 0), (53, (.aload_n 0), 1, 0, 0, 0, 0), (54, (.getfield 48), 3, 9, 17, 2, 821), (57, (.bipush 18), 2, 0, 0, 0, 0), (59, (.aload_n 0), 1, 0, 0, 0, 0), (60, (.getfield 76), 3, 9, 16, 0, 820), (63, .imul, 1, 0, 0, 0, 0), (64, (.iload_n 1), 1, 0, 0, 0, 0), (65, .iadd, 1, 0, 0, 0, 0), (66, .iaload, 1, 0, 0, 0, 0), (67, .iastore, 1, 0, 0, 0, 0), (68, (.iinc 1 1), 3, 0, 0, 0, 0), (71, (.goto (-29)), 3, 42, 0, 0, 0), (74, (.aload_n 0), 1, 0, 0, 0, 0), (75, (.getfield 76), 3, 9, 16, 0, 820), (78, .ireturn, 1, 0, 0, 0, 0)]
def c154 : List (Nat × En) := [(0, (.aload_n 0), 1, 0, 0, 0, 0), (1, (.iload_n 1), 1, 0, 0, 0, 0), (2, (.iconst 1), 1, 0, 0, 0, 0), (3, (.sipush 5000), 3, 0, 0, 0, 0), (6, (.invokestatic 92), 3, 119, 3, 0, 893), (9, (.aload_n 0), 1, 0, 0, 0, 0), (10, (.getfield 82), 3, 9, 19, 1, 823), (13, (.ifCond .ne 7), 3, 20, 0, 0, 0), (16, (.iconst 1), 1, 0, 0, 0, 0), (17, (.goto 4), 3, 21, 0, 0, 0), (20, (.iconst 0), 1, 0, 0, 0, 0), (21, (.iconst 1), 1, 0, 0, 0, 0), (22, (.invokevirtual 88), 3, 117, 3, 1, 885), (25, (.ifCond .ne 5), 3, 30, 0, 0, 0), (28, (.iconst 0), 1, 0, 0, 0, 0), (29, .ireturn, 1, 0, 0, 0, 0), (30, (.aload_n 0), 1, 0, 0, 0, 0), (31, (.invokevirtual 152), 3, 155, 0, 1, 1035), (34, (.iconst 0), 1, 0, 0, 0, 0), (35, (.istore_n 2), 1, 0, 0, 0, 0), (36, (.iconst 0), 1, 0, 0, 0, 0), (37, (.istore_n 3), 1, 0, 0, 0, 0), (38, (.iload_n 2), 1, 0, 0, 0, 0), (39, (.iload_n 1), 1, 0, 0, 0, 0), (40, (.if_icmp .ge 22), 3, 62, 0, 0, 0), (43, (.iload_n 3), 1, 0, 0, 0, 0), (44, (.ifCond .ne 18), 3, 62, 0, 0, 0), (47, (.aload_n 0), 1, 0, 0, 0, 0), (48, (.invokevirtual 126), 3, 138, 0, 1, 967), (51, (.iinc 2 1), 3, 0, 0, 0, 0), (54, (.aload_n 0), 1, 0, 0, 0, 0), (55, (.invokevirtual 155), 3, 156, 0, 1, 1039), (58, (.istore_n 3), 1, 0, 0, 0, 0), (59, (.goto (-21)), 3, 38, 0, 0, 0), (62, (.aload_n 0), 1, 0, 0, 0, 0), (63, (.invokevirtual 159), 3, 157, 0, 1, 1043), (66, (.iload_n 3), 1, 0, 0, 0, 0), (67, (.ifCond .eq 7), 3, 74, 0, 0, 0), (70, (.iload_n 2), 1, 0, 0, 0, 0), (71, (.goto 4), 3, 75, 0, 0, 0), (74, (.iconst 0), 1, 0, 0, 0, 0), (75, .ireturn, 1, 0, 0, 0, 0)]
def c155 : List (Nat × En) := [(0, (.iconst 0), 1, 0, 0, 0, 0), (1, (.istore_n 1), 1, 0, 0, 0, 0), (2, (.iload_n 1), 1, 0, 0, 0, 0), (3, (.bipush 18), 2, 0, 0, 0, 0), (5, (.if_icmp .ge 21), 3, 26, 0, 0, 0), (8, (.aload_n 0), 1, 0, 0, 0, 0), (9, (.getfield 42), 3, 9, 14, 2, 818), (12, (.iload_n 1), 1, 0, 0, 0, 0), (13, (.aload_n 0), 1, 0, 0, 0, 0), (14, (.getfield 39), 3, 9, 13, 2, 817), (17, (.iload_n 1), 1, 0, 0, 0, 0), (18, .iaload, 1, 0, 0, 0, 0), (19, .iastore, 1, 0, 0, 0, 0), (20, (.iinc 1 1), 3, 0, 0, 0, 0), (23, (.goto (-21)), 3, 2, 0, 0, 0), (26, .return_, 1, 0, 0, 0, 0)]
def c156 : List (Nat × En) := [(0, (.iconst 1), 1, 0, 0, 0, 0), (1, (.istore_n 1), 1, 0, 0, 0, 0), (2, (.iconst 0), 1, 0, 0, 0, 0), (3, (.istore_n 2), 1, 0, 0, 0, 0), (4, (.iload_n 2), 1, 0, 0, 0, 0), (5, (.bipush 18), 2, 0, 0, 0, 0), (7, (.if_icmp .ge 34), 3, 41, 0, 0, 0), (10, (.iload_n 1), 1, 0, 0, 0, 0), (11, (.ifCond .eq 22), 3, 33, 0, 0, 0), (14, (.aload_n 0), 1, 0, 0, 0, 0), (15, (.getfield 42), 3, 9, 14, 2, 818), (18, (.iload_n 2), 1, 0, 0, 0, 0), (19, .iaload, 1, 0, 0, 0, 0), (20, (.aload_n 0), 1, 0, 0, 0, 0), (21, (.getfield 39), 3, 9, 13, 2, 817), (24, (.iload_n 2), 1, 0, 0, 0, 0), (25, .iaload, 1, 0, 0, 0, 0), (26, (.if_icmp .ne 7), 3, 33, 0, 0, 0), (29, (.iconst 1), 1, 0, 0, 0, 0), (30, (.goto 4), 3, 34, 0, 0, 0), (33, (.iconst 0), 1, 0, 0, 0, 0), (34, (.istore_n 1), 1, 0, 0, 0, 0), (35, (.iinc 2 1), 3, 0, 0, 0, 0), (38, (.goto (-34)), 3, 4, 0, 0, 0), (41, (.iload_n 1), 1, 0, 0, 0, 0), (42, .ireturn, 1, 0, 0, 0, 0)]
def c157 : List (Nat × En) := [(0, (.iconst 0), 1, 0, 0, 0, 0), (1, (.istore_n 1), 1, 0, 0, 0, 0), (2, (.iload_n 1), 1, 0, 0, 0, 0), (3, (.bipush 18), 2, 0, 0, 0, 0), (5, (.if_icmp .ge 21), 3, 26, 0, 0, 0), (8, (.aload_n 0), 1, 0, 0, 0, 0), (9, (.getfield 39), 3, 9, 13, 2, 817), (12, (.iload_n 1), 1, 0, 0, 0, 0), (13, (.aload_n 0), 1, 0, 0, 0, 0), (14, (.getfield 42), 3, 9, 14, 2, 818), (17, (.iload_n 1), 1, 0, 0, 0, 0), (18, .iaload, 1, 0, 0, 0, 0), (19, .iastore, 1, 0, 0, 0, 0), (20, (.iinc 1 1), 3, 0, 0, 0, 0), (23, (.goto (-21)), 3, 2, 0, 0, 0), (26, .return_, 1, 0, 0, 0, 0)]
def c158 : List (Nat × En) := [(0, (.aload_n 0), 1, 0, 0, 0, 0), (1, (.iconst 0), 1, 0, 0, 0, 0), (2, (.putfield 85), 3, 9, 0, 0, 804), (5, (.iconst 0), 1, 0, 0, 0, 0), (6, (.istore_n 1), 1, 0, 0, 0, 0), (7, (.iconst 0), 1, 0, 0, 0, 0), (8, (.istore_n 2), 1, 0, 0, 0, 0), (9, (.iload_n 2), 1, 0, 0, 0, 0), (10, (.aload_n 0), 1, 0, 0, 0, 0), (11, (.getfield 7), 3, 9, 1, 0, 805), (14, (.if_icmp .ge 26), 3, 40, 0, 0, 0), (17, (.aload_n 0), 1, 0, 0, 0, 0), (18, (.iload_n 2), 1, 0, 0, 0, 0), (19, (.invokevirtual 149), 3, 144, 1, 1, 991), (22, (.iload_n 2), 1, 0, 0, 0, 0), (23, (.if_icmp .ne 9), 3, 32, 0, 0, 0), (26, (.iload_n 1), 1, 0, 0, 0, 0), (27, (.iconst 1), 1, 0, 0, 0, 0), (28, .iadd, 1, 0, 0, 0, 0), (29, (.goto 4), 3, 33, 0, 0, 0), (32, (.iload_n 1), 1, 0, 0, 0, 0), (33, (.istore_n 1), 1, 0, 0, 0, 0), (34, (.iinc 2 1), 3, 0, 0, 0, 0), (37, (.goto (-28)), 3, 9, 0, 0, 0), (40, (.iload_n 1), 1, 0, 0, 0, 0), (41, .ireturn, 1, 0, 0, 0, 0)]
def c159 : List (Nat × En) := [(0, (.aload_n 0), 1, 0, 0, 0, 0), (1, (.aload_n 0), 1, 0, 0, 0, 0), (2, (.getfield 82), 3, 9, 19, 1, 823), (5, (.ifCond .ne 16), 3, 21, 0, 0, 0), (8, (.aload_n 0), 1, 0, 0, 0, 0), (9, (.getfield 79), 3, 9, 18, 0, 822), (12, (.bipush 20), 2, 0, 0, 0, 0), (14, (.if_icmp .ge 7), 3, 21, 0, 0, 0), (17, (.iconst 1), 1, 0, 0, 0, 0), (18, (.goto 4), 3, 22, 0, 0, 0), (21, (.iconst 0), 1, 0, 0, 0, 0), (22, (.iconst 1), 1, 0, 0, 0, 0), (23, (.iconst 1), 1, 0, 0, 0, 0), (24, (.invokevirtual 88), 3, 117, 3, 1, 885), (27, (.ifCond .ne 5), 3, 32, 0, 0, 0), (30, (.iconst 0), 1, 0, 0, 0, 0), (31, .ireturn, 1, 0, 0, 0, 0), (32, (.iconst 0), 1, 0, 0, 0, 0), (33, (.istore_n 1), 1, 0, 0, 0, 0), (34, (.iload_n 1), 1, 0, 0, 0, 0), (35, (.bipush 18), 2, 0, 0, 0, 0), (37, (.if_icmp .ge 29), 3, 66, 0, 0, 0), (40, (.aload_n 0), 1, 0, 0, 0, 0), (41, (.getfield 54), 3, 9, 21, 2, 825), (44, (.bipush 18), 2, 0, 0, 0, 0), (46, (.aload_n 0), 1, 0, 0, 0, 0), (47, (.getfield 79), 3, 9, 18, 0, 822), (50, .imul, 1, 0, 0, 0, 0), (51, (.iload_n 1), 1, 0, 0, 0, 0), (52, .iadd, 1, 0, 0, 0, 0), (53, (.aload_n 0), 1, 0, 0, 0, 0), (54, (.getfield 39), 3, 9, 13, 2, 817), (57, (.iload_n 1), 1, 0, 0, 0, 0), (58, .iaload, 1, 0, 0, 0, 0), (59, .iastore, 1, 0, 0, 0, 0), (60, (.iinc 1 1), 3, 0, 0, 0, 0), (63, (.goto (-29)), 3, 34, 0, 0, 0), (66, (.aload_n 0), 1, 0, 0, 0, 0), (67, (.getfield 51), 3, 9, 20, 2, 824), (70, (.aload_n 0), 1, 0, 0, 0, 0), (71, (.getfield 79), 3, 9, 18, 0, 822), (74, (.iconst 0), 1, 0, 0, 0, 0), (75, .iastore, 1, 0, 0, 0, 0), (76, (.aload_n 0), 1, 0, 0, 0, 0), (77, .dup, 1, 0, 0, 0, 0), (78, (.getfield 79), 3, 9, 18, 0, 822), (81, (.iconst 1), 1, 0, 0, 0, 0), (82, .iadd, 1, 0, 0, 0, 0), (83, (.putfield 79), 3, 9, 18, 0, 822), (86, (.aload_n 0), 1, 0, 0, 0, 0), (87, (.iconst 1), 1, 0, 0, 0, 0), (88, (.putfield 82), 3, 9, 19, 1, 823), (91, (.aload_n 0), 1, 0, 0, 0, 0), (92, (.getfield 79), 3, 9, 18, 0, 822), (95, (.iconst 1), 1, 0, 0, 0, 0), (96, .isub, 1, 0, 0, 0, 0), (97, .ireturn, 1, 0, 0, 0, 0)]
def c160 : List (Nat × En) := [(0, (.aload_n 0), 1, 0, 0, 0, 0), (1, (.aload_n 0), 1, 0, 0, 0, 0), (2, (.getfield 82), 3, 9, 19, 1, 823), (5, (.iconst 1), 1, 0, 0, 0, 0), (6, (.iconst 1), 1, 0, 0, 0, 0), (7, (.invokevirtual 88), 3, 117, 3, 1, 885), (10, (.ifCond .ne 5), 3, 15, 0, 0, 0), (13, (.iconst 0), 1, 0, 0, 0, 0), (14, .ireturn, 1, 0, 0, 0, 0), (15, (.aload_n 0), 1, 0, 0, 0, 0), (16, (.iconst 0), 1, 0, 0, 0, 0), (17, (.putfield 82), 3, 9, 19, 1, 823), (20, (.aload_n 0), 1, 0, 0, 0, 0), (21, (.getfield 51), 3, 9, 20, 2, 824), (24, (.aload_n 0), 1, 0, 0, 0, 0), (25, (.getfield 79), 3, 9, 18, 0, 822), (28, (.iconst 1), 1, 0, 0, 0, 0), (29, .isub, 1, 0, 0, 0, 0), (30, .iaload, 1, 0, 0, 0, 0), (31, .ireturn, 1, 0, 0, 0, 0)]
def c161 : List (Nat × En) := [(0, (.aload_n 0), 1, 0, 0, 0, 0), (1, (.aload_n 0), 1, 0, 0, 0, 0), (2, (.iload_n 1), 1, 0, 0, 0, 0), (3, (.invokevirtual 162), 3, 162, 1, 1, 1063), (6, (.ifCond .eq 21), 3, 27, 0, 0, 0), (9, (.iload_n 2), 1, 0, 0, 0, 0), (10, (.ifCond .lt 17), 3, 27, 0, 0, 0), (13, (.iload_n 2), 1, 0, 0, 0, 0), (14, (.aload_n 0), 1, 0, 0, 0, 0), (15, (.getfield 51), 3, 9, 20, 2, 824), (18, (.iload_n 1), 1, 0, 0, 0, 0), (19, .iaload, 1, 0, 0, 0, 0), (20, (.if_icmp .ge 7), 3, 27, 0, 0, 0), (23, (.iconst 1), 1, 0, 0, 0, 0), (24, (.goto 4), 3, 28, 0, 0, 0), (27, (.iconst 0), 1, 0, 0, 0, 0), (28, (.iload_n 3), 1, 0, 0, 0, 0), (29, (.iconst 0), 1, 0, 0, 0, 0), (30, (.iconst 1), 1, 0, 0, 0, 0), (31, (.invokestatic 92), 3, 119, 3, 0, 893), (34, (.iconst 1), 1, 0, 0, 0, 0), (35, (.invokevirtual 88), 3, 117, 3, 1, 885), (38, (.ifCond .ne 5), 3, 43, 0, 0, 0), (41, (.iconst 0), 1, 0, 0, 0, 0), (42, .ireturn, 1, 0, 0, 0, 0), (43, (.iload_n 3), 1, 0, 0, 0, 0), (44, (.ifCond .ne 17), 3, 61, 0, 0, 0), (47, (.aload_n 0), 1, 0, 0, 0, 0), (48, (.getfield 57), 3, 9, 22, 2, 826), (51, (.bipush 60), 2, 0, 0, 0, 0), (53, (.iload_n 1), 1, 0, 0, 0, 0), (54, .imul, 1, 0, 0, 0, 0), (55, (.iload_n 2), 1, 0, 0, 0, 0), (56, .iadd, 1, 0, 0, 0, 0), (57, .iaload, 1, 0, 0, 0, 0), (58, (.goto 14), 3, 72, 0, 0, 0), (61, (.aload_n 0), 1, 0, 0, 0, 0), (62, (.getfield 60), 3, 9, 23, 2, 827), (65, (.bipush 60), 2, 0, 0, 0, 0), (67, (.iload_n 1), 1, 0, 0, 0, 0), (68, .imul, 1, 0, 0, 0, 0), (69, (.iload_n 2), 1, 0, 0, 0, 0), (70, .iadd, 1, 0, 0, 0, 0), (71, .iaload, 1, 0, 0, 0, 0), (72, .ireturn, 1, 0, 0, 0, 0)]
def c162 : List (Nat × En) := [(0, (.iload_n 1), 1, 0, 0, 0, 0), (1, (.ifCond .lt 15), 3, 16, 0, 0, 0), (4, (.iload_n 1), 1, 0, 0, 0, 0), (5, (.aload_n 0), 1, 0, 0, 0, 0), (6, (.getfield 79), 3, 9, 18, 0, 822), (9, (.if_icmp .ge 7), 3, 16, 0, 0, 0), (12, (.iconst 1), 1, 0, 0, 0, 0), (13, (.goto 4), 3, 17, 0, 0, 0), (16, (.iconst 0), 1, 0, 0, 0, 0), (17, .ireturn, 1, 0, 0, 0, 0)]
def c163_0 : List (Nat × En) := [(0, (.aload_n 0), 1, 0, 0, 0, 0), (1, (.aload_n 0), 1, 0, 0, 0, 0), (2, (.iload_n 1), 1, 0, 0, 0, 0), (3, (.invokevirtual 162), 3, 162, 1, 1, 1063), (6, (.aload_n 0), 1, 0, 0, 0, 0), (7, (.getfield 82), 3, 9, 19, 1, 823), (10, (.ifCond .eq 13), 3, 23, 0, 0, 0), (13, (.iload_n 1), 1, 0, 0, 0, 0), (14, (.aload_n 0), 1, 0, 0, 0, 0), (15, (.getfield 79), 3, 9, 18, 0, 822), (18, (.iconst 1), 1, 0, 0, 0, 0), (19, .isub, 1, 0, 0, 0, 0), (20, (.if_icmp .eq 7), 3, 27, 0, 0, 0), (23, (.iconst 1), 1, 0, 0, 0, 0), (24, (.goto 4), 3, 28, 0, 0, 0), (27, (.iconst 0), 1, 0, 0, 0, 0), (28, (.iconst 1), 1, 0, 0, 0, 0), (29, (.invokevirtual 88), 3, 117, 3, 1, 885), (32, (.ifCond .ne 5), 3, 37, 0, 0, 0), (35, (.iconst 0), 1, 0, 0, 0, 0), (36, .ireturn, 1, 0, 0, 0, 0), (37, (.aload_n 0), 1, 0, 0, 0, 0), (38, (.invokevirtual 152), 3, 155, 0, 1, 1035), (41, (.iconst 0), 1, 0, 0, 0, 0), (42, (.istore_n 2), 1, 0, 0, 0, 0), (43, (.iload_n 2), 1, 0, 0, 0, 0), (44, (.bipush 18), 2, 0, 0, 0, 0), (46, (.if_icmp .ge 59), 3, 105, 0, 0, 0), (49, (.iload_n 2), 1, 0, 0, 0, 0), (50, (.bipush 6), 2, 0, 0, 0, 0), (52, (.if_icmp .ge 10), 3, 62, 0, 0, 0), (55, (.aload_n 0), 1, 0, 0, 0, 0), (56, (.getfield 7), 3, 9, 1, 0, 805), (59, (.goto 12), 3, 71, 0, 0, 0), (62, (.aload_n 0), 1, 0, 0, 0, 0), (63, (.getfield 30), 3, 9, 8, 2, 812), (66, (.iload_n 2), 1, 0, 0, 0, 0), (67, (.bipush 6), 2, 0, 0, 0, 0), (69, .isub, 1, 0, 0, 0, 0), (70, .iaload, 1, 0, 0, 0, 0)]
def c163_1 : List (Nat × En) := [(71, (.istore_n 3), 1, 0, 0, 0, 0), (72, (.aload_n 0), 1, 0, 0, 0, 0), (73, (.getfield 39), 3, 9, 13, 2, 817), (76, (.iload_n 2), 1, 0, 0, 0, 0), (77, (.iload_n 3), 1, 0, 0, 0, 0), (78, (.ifCond .ne 7), 3, 85, 0, 0, 0), (81, (.iconst 0), 1, 0, 0, 0, 0), (82, (.goto 16), 3, 98, 0, 0, 0), (85, (.aload_n 0), 1, 0, 0, 0, 0), (86, (.getfield 54), 3, 9, 21, 2, 825), (89, (.bipush 18), 2, 0, 0, 0, 0), (91, (.iload_n 1), 1, 0, 0, 0, 0), (92, .imul, 1, 0, 0, 0, 0), (93, (.iload_n 2), 1, 0, 0, 0, 0), (94, .iadd, 1, 0, 0, 0, 0), (95, .iaload, 1, 0, 0, 0, 0), (96, (.iload_n 3), 1, 0, 0, 0, 0), (97, .irem, 1, 0, 0, 0, 0), (98, .iastore, 1, 0, 0, 0, 0), (99, (.iinc 2 1), 3, 0, 0, 0, 0), (102, (.goto (-59)), 3, 43, 0, 0, 0), (105, (.iconst (-1)), 1, 0, 0, 0, 0), (106, (.istore_n 2), 1, 0, 0, 0, 0), (107, (.iconst 0), 1, 0, 0, 0, 0), (108, (.istore_n 3), 1, 0, 0, 0, 0), (109, (.iload_n 3), 1, 0, 0, 0, 0), (110, (.aload_n 0), 1, 0, 0, 0, 0), (111, (.getfield 51), 3, 9, 20, 2, 824), (114, (.iload_n 1), 1, 0, 0, 0, 0), (115, .iaload, 1, 0, 0, 0, 0), (116, (.if_icmp .ge 53), 3, 169, 0, 0, 0), (119, (.iload_n 2), 1, 0, 0, 0, 0), (120, (.iconst (-1)), 1, 0, 0, 0, 0), (121, (.if_icmp .ne 48), 3, 169, 0, 0, 0), (124, (.aload_n 0), 1, 0, 0, 0, 0), (125, (.invokevirtual 126), 3, 138, 0, 1, 967), (128, (.aload_n 0), 1, 0, 0, 0, 0), (129, (.aload_n 0), 1, 0, 0, 0, 0), (130, (.getfield 57), 3, 9, 22, 2, 826), (133, (.bipush 60), 2, 0, 0, 0, 0)]
def c163_2 : List (Nat × En) := [(135, (.iload_n 1), 1, 0, 0, 0, 0), (136, .imul, 1, 0, 0, 0, 0), (137, (.iload_n 3), 1, 0, 0, 0, 0), (138, .iadd, 1, 0, 0, 0, 0), (139, .iaload, 1, 0, 0, 0, 0), (140, (.invokevirtual 149), 3, 144, 1, 1, 991), (143, (.aload_n 0), 1, 0, 0, 0, 0), (144, (.getfield 60), 3, 9, 23, 2, 827), (147, (.bipush 60), 2, 0, 0, 0, 0), (149, (.iload_n 1), 1, 0, 0, 0, 0), (150, .imul, 1, 0, 0, 0, 0), (151, (.iload_n 3), 1, 0, 0, 0, 0), (152, .iadd, 1, 0, 0, 0, 0), (153, .iaload, 1, 0, 0, 0, 0), (154, (.if_icmp .eq 7), 3, 161, 0, 0, 0), (157, (.iload_n 3), 1, 0, 0, 0, 0), (158, (.goto 4), 3, 162, 0, 0, 0), (161, (.iconst (-1)), 1, 0, 0, 0, 0), (162, (.istore_n 2), 1, 0, 0, 0, 0), (163, (.iinc 3 1), 3, 0, 0, 0, 0), (166, (.goto (-57)), 3, 109, 0, 0, 0), (169, (.aload_n 0), 1, 0, 0, 0, 0), (170, (.invokevirtual 159), 3, 157, 0, 1, 1043), (173, (.iload_n 2), 1, 0, 0, 0, 0), (174, .ireturn, 1, 0, 0, 0, 0)]
def c163 : List (Nat × En) := c163_0 ++ (c163_1 ++ (c163_2))
def c164_0 : List (Nat × En) := [(0, (.aload_n 0), 1, 0, 0, 0, 0), (1, (.iload_n 1), 1, 0, 0, 0, 0), (2, (.iconst 0), 1, 0, 0, 0, 0), (3, (.bipush 7), 2, 0, 0, 0, 0), (5, (.invokestatic 92), 3, 119, 3, 0, 893), (8, (.iconst 1), 1, 0, 0, 0, 0), (9, (.iconst 1), 1, 0, 0, 0, 0), (10, (.invokevirtual 88), 3, 117, 3, 1, 885), (13, (.ifCond .ne 5), 3, 18, 0, 0, 0), (16, (.iconst 0), 1, 0, 0, 0, 0), (17, .ireturn, 1, 0, 0, 0, 0), (18, (.iconst 0), 1, 0, 0, 0, 0), (19, (.istore_n 2), 1, 0, 0, 0, 0), (20, (.iconst 0), 1, 0, 0, 0, 0), (21, (.istore_n 3), 1, 0, 0, 0, 0), (22, (.iload_n 3), 1, 0, 0, 0, 0), (23, (.bipush 6), 2, 0, 0, 0, 0), (25, (.if_icmp .ge 27), 3, 52, 0, 0, 0), (28, (.aload_n 0), 1, 0, 0, 0, 0), (29, (.getfield 24), 3, 9, 5, 2, 809), (32, (.iload_n 3), 1, 0, 0, 0, 0), (33, .iaload, 1, 0, 0, 0, 0), (34, (.iconst (-1)), 1, 0, 0, 0, 0), (35, (.if_icmp .eq 9), 3, 44, 0, 0, 0), (38, (.iload_n 2), 1, 0, 0, 0, 0), (39, (.iconst 1), 1, 0, 0, 0, 0), (40, .iadd, 1, 0, 0, 0, 0), (41, (.goto 4), 3, 45, 0, 0, 0), (44, (.iload_n 2), 1, 0, 0, 0, 0), (45, (.istore_n 2), 1, 0, 0, 0, 0), (46, (.iinc 3 1), 3, 0, 0, 0, 0), (49, (.goto (-27)), 3, 22, 0, 0, 0), (52, (.iconst 0), 1, 0, 0, 0, 0), (53, (.istore_n 3), 1, 0, 0, 0, 0), (54, (.iconst 0), 1, 0, 0, 0, 0), (55, (.istore 4), 2, 0, 0, 0, 0), (57, (.iload 4), 2, 0, 0, 0, 0), (59, (.bipush 12), 2, 0, 0, 0, 0), (61, (.if_icmp .ge 27), 3, 88, 0, 0, 0), (64, (.aload_n 0), 1, 0, 0, 0, 0)]
def c164_1 : List (Nat × En) := [(65, (.getfield 30), 3, 9, 8, 2, 812), (68, (.iload 4), 2, 0, 0, 0, 0), (70, .iaload, 1, 0, 0, 0, 0), (71, (.ifCond .le 9), 3, 80, 0, 0, 0), (74, (.iload_n 3), 1, 0, 0, 0, 0), (75, (.iconst 1), 1, 0, 0, 0, 0), (76, .iadd, 1, 0, 0, 0, 0), (77, (.goto 4), 3, 81, 0, 0, 0), (80, (.iload_n 3), 1, 0, 0, 0, 0), (81, (.istore_n 3), 1, 0, 0, 0, 0), (82, (.iinc 4 1), 3, 0, 0, 0, 0), (85, (.goto (-28)), 3, 57, 0, 0, 0), (88, (.iload_n 1), 1, 0, 0, 0, 0), (89, (.tableswitch 82 0 6 #[43, 48, 50, 56, 62, 64, 69]), 43, 0, 0, 0, 0), (132, (.aload_n 0), 1, 0, 0, 0, 0), (133, (.getfield 7), 3, 9, 1, 0, 805), (136, .ireturn, 1, 0, 0, 0, 0), (137, (.iload_n 2), 1, 0, 0, 0, 0), (138, .ireturn, 1, 0, 0, 0, 0), (139, (.aload_n 0), 1, 0, 0, 0, 0), (140, (.iconst 0), 1, 0, 0, 0, 0), (141, (.invokevirtual 165), 3, 165, 1, 1, 1075), (144, .ireturn, 1, 0, 0, 0, 0), (145, (.aload_n 0), 1, 0, 0, 0, 0), (146, (.iconst 1), 1, 0, 0, 0, 0), (147, (.invokevirtual 165), 3, 165, 1, 1, 1075), (150, .ireturn, 1, 0, 0, 0, 0), (151, (.iload_n 3), 1, 0, 0, 0, 0), (152, .ireturn, 1, 0, 0, 0, 0), (153, (.aload_n 0), 1, 0, 0, 0, 0), (154, (.getfield 79), 3, 9, 18, 0, 822), (157, .ireturn, 1, 0, 0, 0, 0), (158, (.aload_n 0), 1, 0, 0, 0, 0), (159, (.getfield 82), 3, 9, 19, 1, 823), (162, (.ifCond .eq 7), 3, 169, 0, 0, 0), (165, (.iconst 1), 1, 0, 0, 0, 0), (166, (.goto 4), 3, 170, 0, 0, 0), (169, (.iconst 0), 1, 0, 0, 0, 0), (170, .ireturn, 1, 0, 0, 0, 0), (171, (.aload_n 0), 1, 0, 0, 0, 0)]
def c164_2 : List (Nat × En) := [(172, (.getfield 76), 3, 9, 16, 0, 820), (175, .ireturn, 1, 0, 0, 0, 0)]
def c164 : List (Nat × En) := c164_0 ++ (c164_1 ++ (c164_2))
def c165 : List (Nat × En) := [(0, (.iconst 0), 1, 0, 0, 0, 0), (1, (.istore_n 2), 1, 0, 0, 0, 0), (2, (.iconst 0), 1, 0, 0, 0, 0), (3, (.istore_n 3), 1, 0, 0, 0, 0), (4, (.iload_n 3), 1, 0, 0, 0, 0), (5, (.aload_n 0), 1, 0, 0, 0, 0), (6, (.getfield 7), 3, 9, 1, 0, 805), (9, (.if_icmp .ge 26), 3, 35, 0, 0, 0), (12, (.aload_n 0), 1, 0, 0, 0, 0), (13, (.iload_n 1), 1, 0, 0, 0, 0), (14, (.iload_n 3), 1, 0, 0, 0, 0), (15, (.invokevirtual 100), 3, 125, 2, 1, 916), (18, (.ifCond .eq 9), 3, 27, 0, 0, 0), (21, (.iload_n 2), 1, 0, 0, 0, 0), (22, (.iconst 1), 1, 0, 0, 0, 0), (23, .iadd, 1, 0, 0, 0, 0), (24, (.goto 4), 3, 28, 0, 0, 0), (27, (.iload_n 2), 1, 0, 0, 0, 0), (28, (.istore_n 2), 1, 0, 0, 0, 0), (29, (.iinc 3 1), 3, 0, 0, 0, 0), (32, (.goto (-28)), 3, 4, 0, 0, 0), (35, (.iload_n 2), 1, 0, 0, 0, 0), (36, (.iconst 2), 1, 0, 0, 0, 0), (37, .idiv, 1, 0, 0, 0, 0), (38, .ireturn, 1, 0, 0, 0, 0)]
def cds : List (List (Nat × En)) := [c0, c1, c2, c3, c4, c5, c6, c7, c8, c9, c10, c11, c12, c13, c14, c15, c16, c17, c18, c19, c20, c21, c22, c23, c24, c25, c26, c27, c28, c29, c30, c31, c32, c33, c34, c35, c36, c37, c38, c39, c40, c41, c42, c43, c44, c45, c46, c47, c48, c49, c50, c51, c52, c53, c54, c55, c56, c57, c58, c59, c60, c61, c62, c63, c64, c65, c66, c67, c68, c69, c70, c71, c72, c73, c74, c75, c76, c77, c78, c79, c80, c81, c82, c83, c84, c85, c86, c87, c88, c89, c90, c91, c92, c93, c94, c95, c96, c97, c98, c99, c100, c101, c102, c103, c104, c105, c106, c107, c108, c109, c110, c111, c112, c113, c114, c115, c116, c117, c118, c119, c120, c121, c122, c123, c124, c125, c126, c127, c128, c129, c130, c131, c132, c133, c134, c135, c136, c137, c138, c139, c140, c141, c142, c143, c144, c145, c146, c147, c148, c149, c150, c151, c152, c153, c154, c155, c156, c157, c158, c159, c160, c161, c162, c163, c164, c165]
def cd (mi pc : Nat) : Option En := match cds[mi]? with
  | some l => (l.find? (fun q => q.1 == pc)).map (fun q => q.2)
  | none => none
end
section
/-! the small machine: a heap is shapes (code, length), ints, longs, references; cell 0 is the script; cell k + 1 lies at base + k. Codes 0..9: an object; 10..12: an exception; 100 int[], 101 boolean[], 102 long[], 103.. arrays of references. -/
abbrev Hp : Type := List (Nat × Nat) × (Nat → Nat → Int32) × (Nat → Nat → Int64) × (Nat → Nat → Option Nat)
abbrev Lc : Type := List (Nat × Value)
/-- method, pc, locals, stack, heap, slots made -/
abbrev Cf : Type := Nat × Nat × Lc × List Value × Hp × Nat
/-- an end: what is returned, or (cell, number) of what is thrown; the heap, slots made -/
abbrev Out : Type := (Option Value ⊕ Nat × Nat) × Hp × Nat
/-- a place within a method: pc, locals, stack, heap, slots made -/
abbrev Cg : Type := Nat × Lc × List Value × Hp × Nat
/-- a step: on to a place; a call (callee, arguments, the place with them off the stack, pc at the call); an end -/
abbrev Rs : Type := Cg ⊕ (Nat × List Value × Cg) ⊕ Out
def u2 {α : Type} (g : Nat → Nat → α) (k j : Nat) (v : α) : Nat → Nat → α := fun a b => if a = k then (if b = j then v else g a b) else g a b
def rw0 {α : Type} (g : Nat → Nat → α) (k : Nat) (v : α) : Nat → Nat → α := fun a b => if a = k then v else g a b
def cpy2 (g : Nat → Nat → Int32) (k k' sp dp n : Nat) : Nat → Nat → Int32 := fun a b => if a = k' then va_cpy (g k) (g k') sp dp n b else g a b
def lget (ls : Lc) (i : Nat) : Option Value := (ls.find? (fun q => q.1 == i)).map (fun q => q.2)
def lput (ls : Lc) (i : Nat) (v : Value) : Lc := (i, v) :: ls.filter (fun q => !(q.1 == i) && !(q.1 + 1 == i && q.2.category == 2))
def wsum (st : List Value) : Nat := (st.map fun v => v.category).sum
def isB (v : Int32) : Bool := v == 0 || v == 1
def mxC : Nat := 601024
def mxS : Nat := 7293034
section
variable (mi pc : Nat) (ls : Lc) (sh : List (Nat × Nat)) (gi : Nat → Nat → Int32) (gl : Nat → Nat → Int64) (gr : Nat → Nat → Option Nat) (sl : Nat)
def go (_ : Nat) (ls : Lc) (sh : List (Nat × Nat)) (gi : Nat → Nat → Int32) (gl : Nat → Nat → Int64) (gr : Nat → Nat → Option Nat) (sl : Nat) (pc' : Nat) (st : List Value) : Option Cg := some (pc', ls, st, (sh, gi, gl, gr), sl)
/-- an int at place j of cell q, of an array of code x -/
def ldI (x q : Nat) (i : Int32) (k : Nat → Option Cg) : Option Cg := match sh[q]? with
  | some (y, n) => if y = x then (if i < 0 ∨ n ≤ i.toNatClampNeg then none else k i.toNatClampNeg) else none
  | none => none
end
def br (c : ClassFile.Cond) (x y : Int32) (A B : Option Cg) : Option Cg := match c with
  | .eq => if x = y then A else B
  | .ne => if x = y then B else A
  | .lt => if x < y then A else B
  | .ge => if y ≤ x then A else B
  | .gt => if y < x then A else B
  | .le => if x ≤ y then A else B
section
variable (len a b c : Nat) (mi pc : Nat) (ls : Lc) (st : List Value) (sh : List (Nat × Nat)) (gi : Nat → Nat → Int32) (gl : Nat → Nat → Int64) (gr : Nat → Nat → Option Nat) (sl : Nat)
def s_push (v : Value) : Option Cg := go mi ls sh gi gl gr sl (pc + len) (v :: st)
def s_iload (k : Nat) : Option Cg := match lget ls k with
  | some (.int x) => go mi ls sh gi gl gr sl (pc + len) (.int x :: st)
  | _ => none
def s_aload (k : Nat) : Option Cg := match lget ls k with
  | some (.ref x) => go mi ls sh gi gl gr sl (pc + len) (.ref x :: st)
  | _ => none
def s_istore (k : Nat) : Option Cg := match st with
  | .int x :: r => if k < mL mi then go mi (lput ls k (.int x)) sh gi gl gr sl (pc + len) r else none
  | _ => none
def s_astore (k : Nat) : Option Cg := match st with
  | .ref x :: r => if k < mL mi then go mi (lput ls k (.ref x)) sh gi gl gr sl (pc + len) r else none
  | _ => none
def s_iinc (k : Nat) (n : Int) : Option Cg := match lget ls k with
  | some (.int x) => if k < mL mi then go mi (lput ls k (.int (x + Int32.ofInt n))) sh gi gl gr sl (pc + len) st else none
  | _ => none
def s_bin (f : Int32 → Int32 → Int32) : Option Cg := match st with
  | .int y :: .int x :: r => go mi ls sh gi gl gr sl (pc + len) (.int (f x y) :: r)
  | _ => none
def s_div (f : Int32 → Int32 → Int32) : Option Cg := match st with
  | .int y :: .int x :: r => if y = 0 then none else go mi ls sh gi gl gr sl (pc + len) (.int (f x y) :: r)
  | _ => none
def s_i2l : Option Cg := match st with
  | .int x :: r => go mi ls sh gi gl gr sl (pc + len) (.long x.toInt64 :: r)
  | _ => none
def s_lcmp : Option Cg := match st with
  | .long y :: .long x :: r => go mi ls sh gi gl gr sl (pc + len) (.int (lg_cmp x y) :: r)
  | _ => none
def s_dup : Option Cg := match st with
  | v :: r => if v.category = 1 then go mi ls sh gi gl gr sl (pc + len) (v :: v :: r) else none
  | _ => none
def s_dup2 : Option Cg := match st with
  | w :: v :: r => if w.category = 1 ∧ v.category = 1 then go mi ls sh gi gl gr sl (pc + len) (w :: v :: w :: v :: r) else none
  | _ => none
def s_pop : Option Cg := match st with
  | v :: r => if v.category = 1 then go mi ls sh gi gl gr sl (pc + len) r else none
  | _ => none
def s_if (cc : ClassFile.Cond) : Option Cg := match st with
  | .int x :: r => br cc x 0 (go mi ls sh gi gl gr sl a r) (go mi ls sh gi gl gr sl (pc + 3) r)
  | _ => none
def s_icmp (cc : ClassFile.Cond) : Option Cg := match st with
  | .int y :: .int x :: r => br cc x y (go mi ls sh gi gl gr sl a r) (go mi ls sh gi gl gr sl (pc + 3) r)
  | _ => none
def s_tab (d lo hi : Int) (offs : Array Int) : Option Cg := match st with
  | .int x :: r => if x.toInt < lo ∨ hi < x.toInt then go mi ls sh gi gl gr sl ((pc : Int) + d).toNat r else match offs[(x.toInt - lo).toNat]? with
    | some o => go mi ls sh gi gl gr sl ((pc : Int) + o).toNat r
    | none => none
  | _ => none
def s_look (d : Int) (ps : Array (Int × Int)) : Option Cg := match st with
  | .int x :: r => go mi ls sh gi gl gr sl ((pc : Int) + Op.lookupswitch.offset ps.toList d x.toInt).toNat r
  | _ => none
def s_get : Option Cg := match st with
  | .ref q :: r => match sh[q]? with
    | some (x, _) => if x = a then go mi ls sh gi gl gr sl (pc + 3) ((if c = 2 then va_rf (gr q b) else .int (gi q b)) :: r) else none
    | none => none
  | _ => none
def s_put : Option Cg := match st with
  | .int w :: .ref q :: r => match sh[q]? with
    | some (x, _) => if x = a ∧ (c = 0 ∨ (c = 1 ∧ isB w = true)) then go mi ls sh (u2 gi q b w) gl gr sl (pc + 3) r else none
    | none => none
  | .ref w :: .ref q :: r => match sh[q]? with
    | some (x, _) => if x = a ∧ c = 2 then go mi ls sh gi gl (u2 gr q b (some w)) sl (pc + 3) r else none
    | none => none
  | _ => none
def s_iald (x : Nat) : Option Cg := match st with
  | .int i :: .ref q :: r => ldI sh x q i (fun j => go mi ls sh gi gl gr sl (pc + 1) (.int (gi q j) :: r))
  | _ => none
def s_lald : Option Cg := match st with
  | .int i :: .ref q :: r => ldI sh 102 q i (fun j => go mi ls sh gi gl gr sl (pc + 1) (.long (gl q j) :: r))
  | _ => none
def s_aald : Option Cg := match st with
  | .int i :: .ref q :: r => match sh[q]? with
    | some (y, _) => if 103 ≤ y ∧ y < 106 then ldI sh y q i (fun j => go mi ls sh gi gl gr sl (pc + 1) (va_rf (gr q j) :: r)) else none
    | none => none
  | _ => none
def s_iast (x : Nat) : Option Cg := match st with
  | .int v :: .int i :: .ref q :: r => if q = 0 ∨ (x = 101 ∧ isB v = false) then none else ldI sh x q i (fun j => go mi ls sh (u2 gi q j v) gl gr sl (pc + 1) r)
  | _ => none
def s_last : Option Cg := match st with
  | .long v :: .int i :: .ref q :: r => if q = 0 then none else ldI sh 102 q i (fun j => go mi ls sh gi (u2 gl q j v) gr sl (pc + 1) r)
  | _ => none
def s_aast : Option Cg := match st with
  | .ref v :: .int i :: .ref q :: r => match sh[q]?, sh[v]? with
    | some (y, _), some (z, _) => if 103 ≤ y ∧ y < 106 ∧ z = elc y then ldI sh y q i (fun j => go mi ls sh gi gl (u2 gr q j (some v)) sl (pc + 1) r) else none
    | _, _ => none
  | _ => none
def s_len : Option Cg := match st with
  | .ref q :: r => match sh[q]? with
    | some (y, n) => if 100 ≤ y ∧ y < 106 then go mi ls sh gi gl gr sl (pc + 1) (.int (Int32.ofNat n) :: r) else none
    | none => none
  | _ => none
def s_newa : Option Cg := match st with
  | .int n :: r => if n < 0 ∨ mxC < sh.length ∨ mxS < sl + n.toNatClampNeg ∨ 2000 < n.toNatClampNeg then none else
      go mi ls (sh ++ [(100 + a, n.toNatClampNeg)]) (rw0 gi sh.length 0) (rw0 gl sh.length 0) (rw0 gr sh.length none) (sl + n.toNatClampNeg) (pc + len) (.ref sh.length :: r)
  | _ => none
def s_new : Option Cg := if mxC < sh.length ∨ mxS < sl + b then none else
    go mi ls (sh ++ [(a, b)]) (rw0 gi sh.length 0) (rw0 gl sh.length 0) (rw0 gr sh.length none) (sl + b) (pc + 3) (.ref sh.length :: st)
def s_thr : Option Out := if mxC < sh.length ∨ mxS < sl + 6 ∨ 8 < wsum st then none else some (.inr (sh.length, a - 900), (sh ++ [(a - 890, 0)], gi, gl, gr), sl + 6)
def s_min : Option Cg := match st with
  | .int y :: .int x :: r => if 8 < wsum r then none else go mi ls sh gi gl gr sl (pc + 3) (.int (if y < x then y else x) :: r)
  | _ => none
def s_copy : Option Cg := match st with
  | .int n :: .int dp :: .ref q' :: .int sp :: .ref q :: r => match sh[q]?, sh[q']? with
    | some (y, m), some (y', m') => if y = 100 ∧ y' = 100 ∧ q ≠ 0 ∧ q' ≠ 0 ∧ ¬ n < 0 ∧ ¬ dp < 0 ∧ ¬ sp < 0 ∧ sp.toNatClampNeg + n.toNatClampNeg ≤ m ∧ dp.toNatClampNeg + n.toNatClampNeg ≤ m' ∧ wsum r ≤ 8 then
        go mi ls sh (cpy2 gi q q' sp.toNatClampNeg dp.toNatClampNeg n.toNatClampNeg) gl gr sl (pc + 3) r else none
    | _, _ => none
  | _ => none
def s_obj : Option Cg := match st with
  | .ref _ :: r => if 8 < wsum r then none else go mi ls sh gi gl gr sl (pc + 3) r
  | _ => none
def s_call (kind : Nat) : Option (Nat × List Value × Cg) := if 9000 ≤ a then none
  else if kind = 0 then (if b ≤ st.length ∧ wsum (st.drop b) ≤ 8 ∧ wsum (st.take b) ≤ mL a then some (a, (st.take b).reverse, (pc, ls, st.drop b, (sh, gi, gl, gr), sl)) else none)
  else match (st.drop b).head? with
    | some (.ref q) => match sh[q]? with
      | some (x, _) => if x = mK a ∧ b ≤ st.length ∧ wsum (st.drop (b + 1)) ≤ 8 ∧ wsum (st.take b) + 1 ≤ mL a then some (a, .ref q :: (st.take b).reverse, (pc, ls, st.drop (b + 1), (sh, gi, gl, gr), sl)) else none
      | none => none
    | _ => none
def s_iret : Option Out := match st with
  | [.int v] => if mZ mi = 1 ∨ (mZ mi = 2 ∧ isB v = true) then some (.inl (some (.int v)), (sh, gi, gl, gr), sl) else none
  | _ => none
def s_aret : Option Out := match st with
  | [.ref q] => if mZ mi = 3 then some (.inl (some (.ref q)), (sh, gi, gl, gr), sl) else none
  | _ => none
def s_vret : Option Out := match st with
  | [] => if mZ mi = 0 then some (.inl none, (sh, gi, gl, gr), sl) else none
  | _ => none
end
def stI (i : Instr) (len a b c : Nat) (mi pc : Nat) (ls : Lc) (st : List Value) (sh : List (Nat × Nat)) (gi : Nat → Nat → Int32) (gl : Nat → Nat → Int64) (gr : Nat → Nat → Option Nat) (sl : Nat) : Option Cg := match i with
  | .iconst n => s_push len mi pc ls st sh gi gl gr sl (.int (Int32.ofInt n))
  | .bipush n => s_push len mi pc ls st sh gi gl gr sl (.int (Int8.ofInt n).toInt32)
  | .sipush n => s_push len mi pc ls st sh gi gl gr sl (.int (Int16.ofInt n).toInt32)
  | .lconst n => s_push len mi pc ls st sh gi gl gr sl (.long (Int64.ofNat (n : Nat)))
  | .iload k => s_iload len mi pc ls st sh gi gl gr sl k
  | .iload_n k => s_iload len mi pc ls st sh gi gl gr sl k.val
  | .aload k => s_aload len mi pc ls st sh gi gl gr sl k
  | .aload_n k => s_aload len mi pc ls st sh gi gl gr sl k.val
  | .istore k => s_istore len mi pc ls st sh gi gl gr sl k
  | .istore_n k => s_istore len mi pc ls st sh gi gl gr sl k.val
  | .astore k => s_astore len mi pc ls st sh gi gl gr sl k
  | .astore_n k => s_astore len mi pc ls st sh gi gl gr sl k.val
  | .iinc k n => s_iinc len mi pc ls st sh gi gl gr sl k n
  | .iadd => s_bin len mi pc ls st sh gi gl gr sl (fun x y => x + y)
  | .isub => s_bin len mi pc ls st sh gi gl gr sl (fun x y => x - y)
  | .imul => s_bin len mi pc ls st sh gi gl gr sl (fun x y => x * y)
  | .iand => s_bin len mi pc ls st sh gi gl gr sl (fun x y => x &&& y)
  | .ior => s_bin len mi pc ls st sh gi gl gr sl (fun x y => x ||| y)
  | .ixor => s_bin len mi pc ls st sh gi gl gr sl (fun x y => x ^^^ y)
  | .ishl => s_bin len mi pc ls st sh gi gl gr sl (fun x y => x <<< (y &&& 31))
  | .ishr => s_bin len mi pc ls st sh gi gl gr sl (fun x y => x >>> (y &&& 31))
  | .idiv => s_div len mi pc ls st sh gi gl gr sl (fun x y => x / y)
  | .irem => s_div len mi pc ls st sh gi gl gr sl (fun x y => x - x / y * y)
  | .i2l => s_i2l len mi pc ls st sh gi gl gr sl
  | .lcmp => s_lcmp len mi pc ls st sh gi gl gr sl
  | .dup => s_dup len mi pc ls st sh gi gl gr sl
  | .dup2 => s_dup2 len mi pc ls st sh gi gl gr sl
  | .pop => s_pop len mi pc ls st sh gi gl gr sl
  | .goto _ => go mi ls sh gi gl gr sl a st
  | .ifCond cc _ => s_if a mi pc ls st sh gi gl gr sl cc
  | .if_icmp cc _ => s_icmp a mi pc ls st sh gi gl gr sl cc
  | .tableswitch d lo hi offs => s_tab mi pc ls st sh gi gl gr sl d lo hi offs
  | .lookupswitch d ps => s_look mi pc ls st sh gi gl gr sl d ps
  | .getfield _ => s_get a b c mi pc ls st sh gi gl gr sl
  | .putfield _ => s_put a b c mi pc ls st sh gi gl gr sl
  | .iaload => s_iald mi pc ls st sh gi gl gr sl 100
  | .baload => s_iald mi pc ls st sh gi gl gr sl 101
  | .laload => s_lald mi pc ls st sh gi gl gr sl
  | .aaload => s_aald mi pc ls st sh gi gl gr sl
  | .iastore => s_iast mi pc ls st sh gi gl gr sl 100
  | .bastore => s_iast mi pc ls st sh gi gl gr sl 101
  | .lastore => s_last mi pc ls st sh gi gl gr sl
  | .aastore => s_aast mi pc ls st sh gi gl gr sl
  | .arraylength => s_len mi pc ls st sh gi gl gr sl
  | .newarray _ => s_newa len a mi pc ls st sh gi gl gr sl
  | .anewarray _ => s_newa len a mi pc ls st sh gi gl gr sl
  | .new _ => if 900 ≤ a then none else s_new a b mi pc ls st sh gi gl gr sl
  | .invokestatic _ => if a = 9002 then s_min mi pc ls st sh gi gl gr sl else if a = 9003 then s_copy mi pc ls st sh gi gl gr sl else none
  | .invokespecial _ => if a = 9001 then s_obj mi pc ls st sh gi gl gr sl else none
  | _ => none
def enI (i : Instr) (a : Nat) (mi : Nat) (st : List Value) (sh : List (Nat × Nat)) (gi : Nat → Nat → Int32) (gl : Nat → Nat → Int64) (gr : Nat → Nat → Option Nat) (sl : Nat) : Option Out := match i with
  | .ireturn => s_iret mi st sh gi gl gr sl
  | .areturn => s_aret mi st sh gi gl gr sl
  | .return_ => s_vret mi st sh gi gl gr sl
  | .new _ => if 900 ≤ a then s_thr a st sh gi gl gr sl else none
  | _ => none
def caI (i : Instr) (a b : Nat) (pc : Nat) (ls : Lc) (st : List Value) (sh : List (Nat × Nat)) (gi : Nat → Nat → Int32) (gl : Nat → Nat → Int64) (gr : Nat → Nat → Option Nat) (sl : Nat) : Option (Nat × List Value × Cg) := match i with
  | .invokestatic _ => s_call a b pc ls st sh gi gl gr sl 0
  | .invokevirtual _ => s_call a b pc ls st sh gi gl gr sl 1
  | .invokespecial _ => s_call a b pc ls st sh gi gl gr sl 2
  | _ => none
def sx (x : Cf) : Option Rs := match x with
  | (mi, pc, ls, st, (sh, gi, gl, gr), sl) => match cd mi pc with
    | some (i, len, a, b, c, _) => match stI i len a b c mi pc ls st sh gi gl gr sl with
      | some y => some (.inl y)
      | none => match enI i a mi st sh gi gl gr sl with
        | some o => some (.inr (.inr o))
        | none => (caI i a b pc ls st sh gi gl gr sl).map (fun q => .inr (.inl q))
    | none => none
def cvr (pc : Nat) (q : Nat × Nat × Nat × Nat) : Bool := decide (q.1 ≤ pc) && decide (pc < q.2.1)
/-- none: stuck; some none: it goes on to the caller; some (some pc'): a handler -/
def hnd (mi pc E : Nat) : Option (Option Nat) := if (hT mi).any (cvr pc) then ((hT mi).find? (fun q => cvr pc q && q.2.2.2 == E)).map (fun q => some q.2.2.1) else some none
def exe : Nat → Cf → Option Out
  | 0, _ => none
  | n + 1, x => match sx x with
    | none => none
    | some (.inl y) => exe n (x.1, y)
    | some (.inr (.inr o)) => some o
    | some (.inr (.inl (mj, as, y))) => match exe n (mj, 0, lv_args 0 as, [], y.2.2.2) with
      | none => none
      | some (.inl v, hs) => exe n (x.1, y.1 + 3, y.2.1, v.toList ++ y.2.2.1, hs)
      | some (.inr (k, E), hs) => match hnd x.1 y.1 E with
        | none => none
        | some none => some (.inr (k, E), hs)
        | some (some pc') => exe n (x.1, pc', y.2.1, [.ref k], hs)
def Ev (x : Cf) (r : Out) : Prop := ∃ n, exe n x = some r
theorem exe_mono : ∀ (n : Nat) (x : Cf) (r : Out), exe n x = some r → exe (n + 1) x = some r := by
  intro n
  induction n with
  | zero => intro x r h; simp [exe] at h
  | succ n ih =>
    intro x r h
    rw [exe] at h ⊢
    cases hs : sx x with
    | none => simp [hs] at h
    | some z =>
      rcases z with y | ⟨mj, as, y⟩ | o
      · simp only [hs] at h ⊢
        exact ih _ _ h
      · simp only [hs] at h ⊢
        cases he : exe n (mj, 0, lv_args 0 as, [], y.2.2.2) with
        | none => simp [he] at h
        | some q =>
          rw [ih _ _ he]
          simp only [he] at h
          rcases q with ⟨v | ⟨k, E⟩, hs'⟩
          · simp only at h ⊢
            exact ih _ _ h
          · simp only at h ⊢
            cases hh : hnd x.1 y.1 E with
            | none => simp [hh] at h
            | some z =>
              cases z with
              | none => simp only [hh] at h ⊢; exact h
              | some pc' => simp only [hh] at h ⊢; exact ih _ _ h
      · simp only [hs] at h ⊢
        exact h
theorem exe_le {n m : Nat} {x : Cf} {r : Out} (h : exe n x = some r) (hm : n ≤ m) : exe m x = some r := by
  induction hm with
  | refl => exact h
  | step _ ih => exact exe_mono _ _ _ ih
theorem Ev.det {x : Cf} {r r' : Out} (h : Ev x r) (h' : Ev x r') : r = r' := by
  obtain ⟨n, h⟩ := h
  obtain ⟨m, h'⟩ := h'
  have h1 := exe_le h (Nat.le_max_left n m)
  have h2 := exe_le h' (Nat.le_max_right n m)
  rw [h1] at h2
  exact Option.some.inj h2
theorem Ev.step {x : Cf} {y : Cg} {r : Out} (h : sx x = some (.inl y)) : Ev x r ↔ Ev (x.1, y) r := by
  constructor
  · rintro ⟨n, hn⟩
    cases n with
    | zero => simp [exe] at hn
    | succ n => rw [exe, h] at hn; exact ⟨n, hn⟩
  · rintro ⟨n, hn⟩
    exact ⟨n + 1, by rw [exe, h]; exact hn⟩
theorem Ev.fin {x : Cf} {r o : Out} (h : sx x = some (.inr (.inr o))) : Ev x r ↔ r = o := by
  constructor
  · rintro ⟨n, hn⟩
    cases n with
    | zero => simp [exe] at hn
    | succ n => rw [exe, h] at hn; exact (Option.some.inj hn).symm
  · rintro rfl
    exact ⟨1, by rw [exe, h]⟩
theorem Ev.call {x : Cf} {y : Cg} {r : Out} {mj : Nat} {as : List Value} {v : Option Value} {hs : Hp × Nat} (h : sx x = some (.inr (.inl (mj, as, y)))) (hc : Ev (mj, 0, lv_args 0 as, [], y.2.2.2) (.inl v, hs)) : Ev x r ↔ Ev (x.1, y.1 + 3, y.2.1, v.toList ++ y.2.2.1, hs) r := by
  obtain ⟨k, hk⟩ := hc
  constructor
  · rintro ⟨n, hn⟩
    have hn' := exe_le hn (Nat.le_max_left n (k + 1))
    have hkM : k + 1 ≤ max n (k + 1) := Nat.le_max_right _ _
    generalize max n (k + 1) = M at hn' hkM
    cases M with
    | zero => omega
    | succ M => rw [exe, h] at hn'; simp only at hn'; rw [exe_le hk (by omega)] at hn'; exact ⟨M, hn'⟩
  · rintro ⟨n, hn⟩
    refine ⟨max n k + 1, ?_⟩
    rw [exe, h]
    simp only
    rw [exe_le hk (Nat.le_max_right _ _)]
    exact exe_le hn (Nat.le_max_left _ _)
theorem Ev.throw {x : Cf} {y : Cg} {mj : Nat} {as : List Value} {k E : Nat} {hs : Hp × Nat} (h : sx x = some (.inr (.inl (mj, as, y)))) (hc : Ev (mj, 0, lv_args 0 as, [], y.2.2.2) (.inr (k, E), hs)) (hh : hnd x.1 y.1 E = some none) : Ev x (.inr (k, E), hs) := by
  obtain ⟨n, hn⟩ := hc
  exact ⟨n + 1, by rw [exe, h]; simp only; rw [hn]; simp only [hh]⟩
theorem Ev.caught {x : Cf} {y : Cg} {r : Out} {mj : Nat} {as : List Value} {k E pc' : Nat} {hs : Hp × Nat} (h : sx x = some (.inr (.inl (mj, as, y)))) (hc : Ev (mj, 0, lv_args 0 as, [], y.2.2.2) (.inr (k, E), hs)) (hh : hnd x.1 y.1 E = some (some pc')) (hr : Ev (x.1, pc', y.2.1, [.ref k], hs) r) : Ev x r := by
  obtain ⟨n, hn⟩ := hc
  obtain ⟨n', hn'⟩ := hr
  refine ⟨max n n' + 1, ?_⟩
  rw [exe, h]
  simp only
  rw [exe_le hn (Nat.le_max_left _ _)]
  simp only [hh]
  exact exe_le hn' (Nat.le_max_right _ _)
end
section
/-! from the small heap to the machine's: addresses, values, the world as a list; what holds at an activation's start -/
def ad (b base : Nat) : Nat → Nat
  | 0 => b
  | k + 1 => base + k
def cv (b base : Nat) (v : Value) : Value := match v with
  | .ref k => .ref (ad b base k)
  | v => v
theorem cv_cat (b base : Nat) (v : Value) : (cv b base v).category = v.category := by cases v <;> rfl
theorem cv_sum (b base : Nat) (st : List Value) : ((st.map (cv b base)).map fun v => v.category).sum = wsum st := by
  simp only [wsum, List.map_map]
  congr 1
  apply List.map_congr_left
  intro v _
  exact cv_cat b base v
theorem cv_rf (b base : Nat) (o : Option Nat) : cv b base (va_rf o) = va_rf (o.map (ad b base)) := by cases o <;> rfl
def kKd (x : Nat) : List Nat := kKl.getD x []
def fldv (b base : Nat) (x : Nat) (gi : Nat → Nat → Int32) (gr : Nat → Nat → Option Nat) (k : Nat) : List Value :=
  (List.range (kKd x).length).map (fun j => if (kKd x).getD j 0 = 2 then va_rf ((gr k j).map (ad b base)) else .int (gi k j))
def cel (aC : Nat → ClassId) (b base : Nat) (gi : Nat → Nat → Int32) (gl : Nat → Nat → Int64) (gr : Nat → Nat → Option Nat) (k : Nat) (z : Nat × Nat) : va_E :=
  if z.1 < 100 then .inr (z.1, fldv b base z.1 gi gr k)
  else .inl (aC (z.1 - 100), z.2, if z.1 = 102 then .inr (.inl (gl k)) else if 103 ≤ z.1 then .inr (.inr (.inr (.inr (fun j => (gr k j).map (ad b base))))) else .inl (gi k))
theorem cel_congr {aC : Nat → ClassId} {b base : Nat} {gi gi' : Nat → Nat → Int32} {gl gl' : Nat → Nat → Int64} {gr gr' : Nat → Nat → Option Nat} {k : Nat} (h1 : gi' k = gi k) (h2 : gl' k = gl k) (h3 : gr' k = gr k) (z : Nat × Nat) : cel aC b base gi' gl' gr' k z = cel aC b base gi gl gr k z := by
  simp only [cel, fldv, h1, h2, h3]
def wld (aC : Nat → ClassId) (b base : Nat) (sh : List (Nat × Nat)) (gi : Nat → Nat → Int32) (gl : Nat → Nat → Int64) (gr : Nat → Nat → Option Nat) : va_W :=
  (List.range (sh.length - 1)).map (fun i => (base + i, cel aC b base gi gl gr (i + 1) (sh.getD (i + 1) (0, 0))))
section
variable {aC : Nat → ClassId} {b base : Nat} {sh : List (Nat × Nat)} {gi gi' : Nat → Nat → Int32} {gl gl' : Nat → Nat → Int64} {gr gr' : Nat → Nat → Option Nat}
theorem wld_len : (wld aC b base sh gi gl gr).length = sh.length - 1 := by simp [wld]
theorem wld_get {q : Nat} (h : q < sh.length - 1) : (wld aC b base sh gi gl gr)[q]? = some (base + q, cel aC b base gi gl gr (q + 1) (sh.getD (q + 1) (0, 0))) := by
  simp [wld, List.getElem?_map, List.getElem?_range h]
theorem wld_at {q : Nat} {z : Nat × Nat} (h : sh[q + 1]? = some z) : (wld aC b base sh gi gl gr)[q]? = some (base + q, cel aC b base gi gl gr (q + 1) z) := by
  have hl := (List.getElem?_eq_some_iff.mp h).1
  rw [wld_get (by omega)]
  simp [List.getD_eq_getElem?_getD, h]
theorem wld_inv {q : Nat} {y : Nat × va_E} (h : (wld aC b base sh gi gl gr)[q]? = some y) : q < sh.length - 1 ∧ y = (base + q, cel aC b base gi gl gr (q + 1) (sh.getD (q + 1) (0, 0))) := by
  have hl := (List.getElem?_eq_some_iff.mp h).1
  rw [wld_len] at hl
  rw [wld_get hl] at h
  exact ⟨hl, (Option.some.inj h).symm⟩
theorem wld_set {q : Nat} {z : Nat × Nat} (hz : sh[q + 1]? = some z) (h1 : ∀ k, k ≠ q + 1 → gi' k = gi k) (h2 : ∀ k, k ≠ q + 1 → gl' k = gl k) (h3 : ∀ k, k ≠ q + 1 → gr' k = gr k) : (wld aC b base sh gi gl gr).set q (base + q, cel aC b base gi' gl' gr' (q + 1) z) = wld aC b base sh gi' gl' gr' := by
  have hl := (List.getElem?_eq_some_iff.mp hz).1
  apply List.ext_getElem?
  intro i
  by_cases hi : i < sh.length - 1
  · by_cases hq : i = q
    · subst hq
      rw [List.getElem?_set_self (by rw [wld_len]; exact hi), wld_at hz]
    · rw [List.getElem?_set_ne (Ne.symm hq), wld_get hi, wld_get hi, cel_congr (h1 _ (by omega)) (h2 _ (by omega)) (h3 _ (by omega))]
  · rw [List.getElem?_eq_none (by rw [List.length_set, wld_len]; omega), List.getElem?_eq_none (by rw [wld_len]; omega)]
theorem wld_app {z : Nat × Nat} (h0 : 0 < sh.length) (h1 : ∀ k, k ≠ sh.length → gi' k = gi k) (h2 : ∀ k, k ≠ sh.length → gl' k = gl k) (h3 : ∀ k, k ≠ sh.length → gr' k = gr k) : wld aC b base (sh ++ [z]) gi' gl' gr' = wld aC b base sh gi gl gr ++ [(base + (sh.length - 1), cel aC b base gi' gl' gr' sh.length z)] := by
  apply List.ext_getElem?
  intro i
  by_cases hi : i < sh.length - 1
  · rw [List.getElem?_append_left (by rw [wld_len]; exact hi), wld_get hi, wld_get (by simp; omega), cel_congr (h1 _ (by omega)) (h2 _ (by omega)) (h3 _ (by omega))]
    simp only [List.getD_eq_getElem?_getD]
    rw [List.getElem?_append_left (by omega)]
  · by_cases hq : i = sh.length - 1
    · subst hq
      have e1 : sh.length - 1 + 1 = sh.length := by omega
      rw [List.getElem?_append_right (by rw [wld_len]; exact Nat.le_refl _), wld_len, Nat.sub_self, wld_get (by simp; omega), e1]
      simp
    · rw [List.getElem?_eq_none (by rw [wld_len]; simp; omega), List.getElem?_eq_none (by simp [wld_len]; omega)]
theorem wld_D : va_D (fun q => base ≤ q) (wld aC b base sh gi gl gr) := by
  refine ⟨fun i j x y hi hj hxy => ?_, fun k q hk => ?_⟩
  · rw [(wld_inv hi).2, (wld_inv hj).2] at hxy
    have : base + i = base + j := hxy
    omega
  · rw [(wld_inv hk).2]
    exact Nat.le_add_right _ _
end
theorem u2_ne {α : Type} (g : Nat → Nat → α) {q : Nat} (j : Nat) (v : α) : ∀ k, k ≠ q → u2 g q j v k = g k := by
  intro k h
  funext b
  simp [u2, h]
theorem rw0_ne {α : Type} (g : Nat → Nat → α) {q : Nat} (v : α) : ∀ k, k ≠ q → rw0 g q v k = g k := by
  intro k h
  funext b
  simp [rw0, h]
theorem rw0_eq {α : Type} (g : Nat → Nat → α) (q : Nat) (v : α) : rw0 g q v q = fun _ => v := by
  funext b
  simp [rw0]
theorem cpy2_ne (g : Nat → Nat → Int32) (k : Nat) {q : Nat} (sp dp n : Nat) : ∀ a, a ≠ q → cpy2 g k q sp dp n a = g a := by
  intro a h
  funext b
  simp [cpy2, h]
/-- D, array numbers, script's address, base, script's length, script -/
abbrev Wd : Type := va_G × (Nat → ClassId) × Nat × Nat × Nat × (Nat → Int32)
abbrev Wd.D (w : Wd) : va_G := w.1
abbrev Wd.aC (w : Wd) : Nat → ClassId := w.2.1
abbrev Wd.b (w : Wd) : Nat := w.2.2.1
abbrev Wd.base (w : Wd) : Nat := w.2.2.2.1
abbrev Wd.L (w : Wd) : Nat := w.2.2.2.2.1
abbrev Wd.xs (w : Wd) : Nat → Int32 := w.2.2.2.2.2
/-- the small heap and the machine's -/
def HR (w : Wd) (h : Hp) (H : Heap) : Prop := 0 < h.1.length ∧ va_P w.D kCl (wld w.aC w.b w.base h.1 h.2.1 h.2.2.1 h.2.2.2) H ∧ h.1[0]? = some (100, w.L) ∧ ∀ j, j < w.L → h.2.1 0 j = w.xs j
theorem HR.low {w : Wd} {h : Hp} {H : Heap} (hr : HR w h H) (hb : w.base ≤ H.size) : w.base + (h.1.length - 1) ≤ H.size := by
  obtain ⟨h0, h2, -, -⟩ := hr
  by_cases h1 : h.1.length = 1
  · omega
  · have h3 := (h2 (h.1.length - 2) _ (wld_get (by omega))).lt
    have h4 : w.base + (h.1.length - 2) < H.size := h3
    omega
theorem at_plain {D : va_G} {cl : List vw_C} {q : Nat} {z : va_E} {H : Heap} {cell : Cell} (h : va_at D cl (q, z) H) (hc : H[q]? = some cell) : cell.vm = .none := by
  rcases z with ⟨cA, n, f | f | f | f | f⟩ | ⟨o, fs⟩
  · have e2 : H[q]? = some (vp_cell cA (n, .inl f)) := h
    rw [hc] at e2
    rw [Option.some.inj e2]
    rfl
  · have e2 : H[q]? = some (vp_cell cA (n, .inr (.inl f))) := h
    rw [hc] at e2
    rw [Option.some.inj e2]
    rfl
  · have e2 : H[q]? = some (vp_cell cA (n, .inr (.inr (.inl f)))) := h
    rw [hc] at e2
    rw [Option.some.inj e2]
    rfl
  · have e2 : H[q]? = some (vp_cell cA (n, .inr (.inr (.inr (.inl f))))) := h
    rw [hc] at e2
    rw [Option.some.inj e2]
    rfl
  · have e2 : H[q]? = some (vp_cell cA (n, .inr (.inr (.inr (.inr f))))) := h
    rw [hc] at e2
    rw [Option.some.inj e2]
    rfl
  · obtain ⟨r, -, cell', g1, -, g3, -⟩ := h
    have g1' : H[q]? = some cell' := g1
    rw [hc] at g1'
    rw [Option.some.inj g1']
    exact g3
theorem HR.plain {w : Wd} {h : Hp} {H : Heap} (hr : HR w h H) (h1 : H.size = w.base + (h.1.length - 1)) : ∀ (q : Nat) (cell : Cell), w.base ≤ q → H[q]? = some cell → cell.vm = .none := by
  intro q cell hq hc
  have hl := (Array.getElem?_eq_some_iff.mp hc).1
  have h3 := hr.2.1 (q - w.base) _ (wld_get (by omega))
  have e : w.base + (q - w.base) = q := by omega
  rw [e] at h3
  exact at_plain h3 hc
/-- a word that stays true while the tables grow warmer, whatever the arguments and the heap -/
def okw (w : Cond) : Bool := match w with
  | .methodLinkNest .. => true
  | .castable .. => true
  | .declares _ => true
  | .arrayOver (.object _) => true
  | .stringRef .. => true
  | w => goodWord w
theorem okw_at {w : Cond} {s U : State} {a a' : Array Value} (hW : s.WarmedH U.vm) (hk : okw w = true) (h : w.before a s = true) : w.before a' U = true := by
  unfold okw at hk
  split at hk
  · exact va_Nw.use rfl (va_Nw.warmM hW (va_Nw.of rfl h))
  · exact va_Nw.use rfl (va_Nw.warmC hW (va_Nw.of rfl h))
  · exact va_Nw.use rfl (va_Nw.warmD hW (va_Nw.of rfl h))
  · exact va_AO.use (va_AO.moved hW.alike (va_AO.of h))
  · have h1 := Cond.stringRef_warmed hW h
    simp only [Cond.before, Cond.holds, Cond.value, State.names, State.poolOf?, State.resolvedAt?, State.vm_setVm] at h1 ⊢
    exact h1
  · exact word_at hW (good_of_word hk) h
/-- a static field that holds a reference or null, its cell below base -/
def ZL (C n d : String) (base : Nat) (U : State) (H : Heap) : Prop := ∃ (c : ClassId) (k : Class) (i : Nat) (f : Field) (a : Nat) (cell : Cell) (v : Value), U.vm.findClass C = some c ∧ U.fieldFound? C n d = some (c, k, i, f) ∧ f.isStatic = true ∧ k.statics = some a ∧ H[a]? = some cell ∧ cell.vm.isStatics = true ∧ cell.cls = c ∧ f.slot < cell.slots.size ∧ k.staticTypes[f.slot]? = some f.type ∧ cell.slots[f.slot]? = some v ∧ v.isRef = true ∧ a < base
theorem ZL.moved {C n d : String} {base : Nat} {u U : State} {H H' : Heap} (hvm : u.vm.Alike U.vm) (hq : ∀ a, a < base → H'[a]? = H[a]?) (h : ZL C n d base u H) : ZL C n d base U H' := by
  obtain ⟨c, k, i, f, a, cell, v, h1, h2, h3, h4, h5, h6, h7, h8, h9, h10, h11, h12⟩ := h
  obtain ⟨k', hi', he⟩ := State.fieldFound?_setVm hvm h2
  exact ⟨c, k', i, f, a, cell, v, by rw [hvm.findClass]; exact h1, hi', h3, by rw [he]; exact h4, by rw [hq a h12]; exact h5, h6, h7, h8, by rw [he]; exact h9, h10, h11, h12⟩
theorem ZL.lay {C n d : String} {base : Nat} {U : State} {args : Array Value} (h : ZL C n d base U U.heap) : (Cond.laysStatic C n d).before args U = true := by
  obtain ⟨c, k, i, f, a, cell, v, h1, h2, h3, h4, h5, h6, h7, h8, h9, h10, h11, h12⟩ := h
  exact Cond.laysStatic_of h1 h2 h3 h4 h5 h6 h7 h8 h9
theorem ZL.ref {C n d : String} {base : Nat} {U : State} {args : Array Value} (h : ZL C n d base U U.heap) : (Cond.isRef (.static C n d)).before args U = true := by
  obtain ⟨c, k, i, f, a, cell, v, h1, h2, h3, h4, h5, h6, h7, h8, h9, h10, h11, h12⟩ := h
  have he : (Term.static C n d).eval args U none [] U = some v := by
    simp [Term.eval, State.fieldNamed?, h2, h3, h4, h5, h6, h10]
  simp only [Cond.before, Cond.holds, Cond.value, he]
  cases v <;> simp_all [Value.isRef]
theorem ZL.of {C n d : String} {base : Nat} {s : State} {args : Array Value} (hb : s.heap.size ≤ base) (hl : (Cond.laysStatic C n d).before args s = true) (hr : (Cond.isRef (.static C n d)).before args s = true) : ZL C n d base s s.heap := by
  obtain ⟨c, k, i, f, a, cell, h1, h2, h3, h4, h5, h6, h7, h8, h9⟩ := Cond.laysStatic_spec hl
  have hlt : a < s.heap.size := (Array.getElem?_eq_some_iff.mp h5).1
  have hv : cell.slots[f.slot]? = some cell.slots[f.slot] := Array.getElem?_eq_getElem h8
  have he : (Term.static C n d).eval args s none [] s = some cell.slots[f.slot] := by
    simp [Term.eval, State.fieldNamed?, h2, h3, h4, h5, h6, hv]
  refine ⟨c, k, i, f, a, cell, cell.slots[f.slot], h1, h2, h3, h4, h5, h6, h7, h8, h9, hv, ?_, Nat.lt_of_lt_of_le hlt hb⟩
  simp only [Cond.before, Cond.holds, Cond.value, he] at hr
  revert hr
  cases cell.slots[f.slot] <;> simp [Value.isRef]
/-- one name can't be cast to another -/
def NCs (A B : String) (U : State) : Prop := ∃ x y : ClassId, U.vm.findClass A = some x ∧ U.vm.findClass B = some y ∧ U.vm.assignable x y = false
theorem NCs.moved {A B : String} {u U : State} (hvm : u.vm.Alike U.vm) (h : NCs A B u) : NCs A B U := by
  obtain ⟨x, y, h1, h2, h3⟩ := h
  exact ⟨x, y, by rw [hvm.findClass]; exact h1, by rw [hvm.findClass]; exact h2, by rw [hvm.assignable]; exact h3⟩
theorem NCs.of {A B : String} {s : State} {args : Array Value} (h : (Cond.not (.castable A B)).before args s = true) : NCs A B s := by
  have hv := Cond.holds_not_iff.mp h
  simp only [Cond.value] at hv
  cases h1 : s.vm.findClass A with
  | none => simp [h1] at hv
  | some x =>
    cases h2 : s.vm.findClass B with
    | none => simp [h1, h2] at hv
    | some y => exact ⟨x, y, h1, h2, by simpa [h1, h2] using hv⟩
def tyl (aC : Nat → ClassId) : List (ClassId × FieldType) := (aC 0, .int) :: (aC 1, .boolean) :: (aC 2, .long) :: (List.range arN.length).map (fun j => (aC (3 + j), .object (arN.getD j "")))
def exN (E : Nat) : String := exL.getD E ""
/-- what holds at every activation's start -/
def Cx (w : Wd) (s : State) : Prop := (∀ z, z ∈ lw_tbl → okw z = true → ∀ a : Array Value, z.before a s = true) ∧ va_K w.D kCl (tyl w.aC) s ∧ va_X w.b w.L w.xs s s.heap ∧ w.b < w.base ∧ w.base ≤ s.heap.size ∧
  (∀ (q : Nat) (cell : Cell), w.base ≤ q → s.heap[q]? = some cell → cell.vm = .none) ∧ ZL Bundle.tN "UNASSIGNED_STACK" Bundle.steD w.base s s.heap ∧ ZL Bundle.tN "SUPPRESSED_SENTINEL" Bundle.listD w.base s s.heap ∧
  ∀ i, i < 3 → ∀ j, j < 3 → i ≠ j → NCs (exN i) (exN j) s
theorem Cx.moved {w : Wd} {s U : State} {h : Hp} (C : Cx w s) (hW : s.WarmedH U.vm) (hr : HR w h U.heap) (hz : U.heap.size = w.base + (h.1.length - 1)) (hq : ∀ a, a < w.base → U.heap[a]? = s.heap[a]?) : Cx w U := by
  obtain ⟨c1, c2, c3, c4, c5, c6, c7, c8, c9⟩ := C
  refine ⟨fun z hz hk a => okw_at hW hk (c1 z hz hk #[]), c2.moved hW.alike, (c3.kept (hq _ c4)).moved hW.alike, c4, by rw [hz]; exact Nat.le_add_right _ _, hr.plain hz, c7.moved hW.alike hq, c8.moved hW.alike hq, fun i hi j hj hij => (c9 i hi j hj hij).moved hW.alike⟩
def wAt (p : Nat) (w : Cond) : Bool := decide (lw_tbl[p]? = some w)
theorem Cx.wd {w : Wd} {s : State} (C : Cx w s) {p : Nat} {z : Cond} (hp : wAt p z = true) (hk : okw z = true) (a : Array Value) : z.before a s = true :=
  C.1 z (List.mem_of_getElem? (of_decide_eq_true hp)) hk a
def tbG : List Cond := lw_tbl.filter okw
theorem Cx.tb {w : Wd} {s : State} (C : Cx w s) (a : Array Value) : ∀ z ∈ tbG, z.before a s = true := fun z hz => C.1 z (List.mem_filter.mp hz).1 (List.mem_filter.mp hz).2 a
end
section
/-! one instruction of the small machine, over the machine itself -/
def kYd (x k : Nat) : FieldType := (kYs.getD x (fun _ => .int)) k
def kty (ty : FieldType) : Nat := match ty with
  | .int => 0
  | .boolean => 1
  | .object _ => 2
  | .array _ => 2
  | _ => 9
def okK (x : Nat) : Bool := match kCl[x]? with
  | some (C, T, N) => decide (N = (kKd x).length) && (List.range N).all (fun k => decide (parseFieldDescriptor (T k).2.2.1 = some (kYd x k)) && decide (kty (kYd x k) = (kKd x).getD k 0) && decide (kty (kYd x k) < 3) && wAt ((kWl.getD x []).getD k 0) (u_lay C T k)) && (List.range N).all (fun a => (List.range N).all (fun b => a == b || decide ((T a).2.1 ≠ (T b).2.1)))
    && wAt (kPl.getD x (0, 0)).1 (.instantiable C N) && wAt (kPl.getD x (0, 0)).2 (.initialized C)
  | none => false
theorem okw_lay (C : String) (T : u_T) (k : Nat) : okw (u_lay C T k) = true := by
  unfold u_lay
  split <;> rfl
theorem okK_spec {x : Nat} {C : String} {T : u_T} {N : Nat} (hx : kCl[x]? = some (C, T, N)) (h : okK x = true) : N = (kKd x).length ∧ (∀ k, k < N → parseFieldDescriptor (T k).2.2.1 = some (kYd x k)) ∧ (∀ k, k < N → kty (kYd x k) = (kKd x).getD k 0 ∧ kty (kYd x k) < 3) ∧ (∀ a, a < N → ∀ b, b < N → a ≠ b → (T a).2.1 ≠ (T b).2.1) ∧ (∀ w ∈ u_ws C T N, w ∈ tbG) ∧
    wAt (kPl.getD x (0, 0)).1 (.instantiable C N) = true ∧ wAt (kPl.getD x (0, 0)).2 (.initialized C) = true := by
  unfold okK at h
  rw [hx] at h
  simp only [Bool.and_eq_true, List.all_eq_true, List.mem_range, decide_eq_true_eq, Bool.or_eq_true, beq_iff_eq] at h
  obtain ⟨⟨⟨⟨h1, h2⟩, h3⟩, h4⟩, h5⟩ := h
  refine ⟨h1, fun k hk => (h2 k hk).1.1.1, fun k hk => ⟨(h2 k hk).1.1.2, (h2 k hk).1.2⟩, fun a ha b hb hab => (h3 a ha b hb).resolve_left hab, fun w hw => ?_, h4, h5⟩
  obtain ⟨k, hk, rfl⟩ := List.mem_map.mp hw
  exact List.mem_filter.mpr ⟨List.mem_of_getElem? (of_decide_eq_true (h2 k (List.mem_range.mp hk)).2), okw_lay C T k⟩
def mY (i : Nat) : MethodName := mYl.getD i ⟨"", "", ""⟩
def mB (i : Nat) : ByteArray := mBl.getD i ⟨#[]⟩
def hX (i : Nat) : List (Nat × Nat × Nat × Nat) := (hXl.getD i []).map (fun q => (q.1, q.2.1, q.2.2.1, q.2.2.2.1))
def nF (i : Nat) : Nat := nFl.getD i 0
def nW (i : Nat) : Nat := nWl.getD i 0
def MC (mi : Nat) (s : State) (m : MethodId) (meth : Method) (c : Code) : Prop := s.vm.findClass (mY mi).cls = some m.cls ∧ c.code = mB mi ∧ c.maxLocals = mL mi ∧ meth.sig.returnType = mR mi ∧ meth.locks = false ∧ meth.name = (mY mi).name ∧ c.exceptionTable.toList.map (fun h => (h.startPc, h.endPc, h.handlerPc, h.catchType)) = hX mi
def RM (R : Room) (mi sh0 sl0 : Nat) : Prop := nF mi ≤ R.frames ∧ nW mi ≤ R.locals ∧ R.cells + sh0 = mxC + 1 ∧ R.slots + sl0 = mxS
def Bx (p : Program) (l : Launch) (R : Room) (s : State) (m : MethodId) (meth : Method) (c : Code) (w : Wd) (mi sh0 sl0 : Nat) : Prop :=
  p.tables.exec = Jvm.exec ∧ l.stackTraces = false ∧ Cx w s ∧ MC mi s m meth c ∧ RM R mi sh0 sl0 ∧ 0 < sh0 ∧ s.heap.size = w.base + (sh0 - 1)
def cvl (w : Wd) (lc : Lc) : List (Nat × Value) := lc.map (fun q => (q.1, cv w.b w.base q.2))
def In (w : Wd) (s : State) (sh0 sl0 mi : Nat) (lc : Lc) (h : Hp) (sl : Nat) (H : Heap) (locs : List Loc) (ls : Array Slot) : Prop :=
  HR w h H ∧ va_S (fun q => w.base ≤ q) s.heap H locs ∧ lv_has ls (mL mi) (cvl w lc) ∧ sh0 ≤ h.1.length ∧ h.1.length ≤ mxC + 1 ∧ sl0 ≤ sl ∧ sl ≤ mxS
abbrev KK (p : Program) (l : Launch) (e : Env) (R : Room) (s : State) (m : MethodId) (args : Array Value) (below : List Frame) (meth : Method) (c : Code) (w : Wd) (sh0 sl0 : Nat) (Q : State → Prop) (y : Cf) : Prop :=
  ∀ (H : Heap) (locs : List Loc) (ls : Array Slot), In w s sh0 sl0 y.1 y.2.2.1 y.2.2.2.2.1 y.2.2.2.2.2 H locs ls → W p l e R s m args below meth c H locs (y.2.2.2.2.1.1.length - sh0) (y.2.2.2.2.2 - sl0) Q (F0 m y.2.1 ls (y.2.2.2.1.map (cv w.b w.base)))
def oc (w : Wd) (o : Option Value ⊕ Nat × Nat) : Outcome := match o with
  | .inl v => .returned (v.map (cv w.b w.base))
  | .inr q => .threw (ad w.b w.base q.1)
def thk (r : Out) : Prop := match r.1 with
  | .inl _ => True
  | .inr q => r.2.1.1[q.1]? = some (10 + q.2, 0) ∧ q.1 ≠ 0 ∧ q.2 < 3
def QQ (w : Wd) (below : List Frame) (s : State) (sh0 sl0 : Nat) (r : Out) (t : State) : Prop :=
  t.status = .running ∧ Ended t below (oc w r.1) ∧ s.WarmedH t.vm ∧ HR w r.2.1 t.heap ∧ t.heap.size = w.base + (r.2.1.1.length - 1) ∧ (∀ a, a < w.base → t.heap[a]? = s.heap[a]?) ∧ sh0 ≤ r.2.1.1.length ∧ r.2.1.1.length ≤ mxC + 1 ∧ sl0 ≤ r.2.2 ∧ r.2.2 ≤ mxS ∧ thk r ∧ ∃ L1 : List Loc, (∀ q ∈ L1, w.base ≤ q.base) ∧ s.sameButNew ({ t with vm := s.vm } : State) L1 (r.2.1.1.length - sh0) (r.2.2 - sl0)
theorem lget_has {w : Wd} {ls : Array Slot} {n : Nat} {lc : Lc} (h : lv_has ls n (cvl w lc)) {k : Nat} {v : Value} (hk : lget lc k = some v) : ls[k]? = some (.val (cv w.b w.base v)) := by
  unfold lget at hk
  obtain ⟨q, hq, rfl⟩ := Option.map_eq_some_iff.mp hk
  have h1 := List.mem_of_find?_eq_some hq
  have h2 := List.find?_some hq
  have h3 : q.1 = k := by simpa using h2
  have h4 := h.2.2 (q.1, cv w.b w.base q.2) (List.mem_map.mpr ⟨q, h1, rfl⟩)
  rw [← h3]
  exact h4
theorem lput_cvl (w : Wd) (lc : Lc) (i : Nat) (v : Value) : (i, cv w.b w.base v) :: (cvl w lc).filter (fun q => !(q.1 == i) && !(q.1 + 1 == i && q.2.category == 2)) = cvl w (lput lc i v) := by
  unfold lput cvl
  rw [List.map_cons, List.filter_map]
  congr 2
  apply List.filter_congr
  intro q _
  simp [Function.comp, cv_cat]
theorem go_inv {mi : Nat} {ls : Lc} {sh : List (Nat × Nat)} {gi : Nat → Nat → Int32} {gl : Nat → Nat → Int64} {gr : Nat → Nat → Option Nat} {sl pc' : Nat} {st : List Value} {y : Cg} (h : go mi ls sh gi gl gr sl pc' st = some y) : (pc', ls, st, (sh, gi, gl, gr), sl) = y := by
  unfold go at h
  exact Option.some.inj h
theorem ldI_inv {sh : List (Nat × Nat)} {x q : Nat} {i : Int32} {k : Nat → Option Cg} {r : Cg} (h : ldI sh x q i k = some r) : ∃ n, sh[q]? = some (x, n) ∧ vp_in i n ∧ k i.toNatClampNeg = some r := by
  unfold ldI at h
  split at h
  · rename_i y n hq
    split at h
    · rename_i hy
      subst hy
      split at h
      · cases h
      · rename_i hn
        exact ⟨n, hq, hn, h⟩
    · cases h
  · cases h
section
variable {w : Wd} {sh : List (Nat × Nat)} {gi : Nat → Nat → Int32} {gl : Nat → Nat → Int64} {gr : Nat → Nat → Option Nat} {q n : Nat}
theorem wi {b base : Nat} {aC : Nat → ClassId} (h : sh[q + 1]? = some (100, n)) : (wld aC b base sh gi gl gr)[q]? = some (base + q, .inl (aC 0, n, .inl (gi (q + 1)))) := wld_at h
theorem wz {b base : Nat} {aC : Nat → ClassId} (h : sh[q + 1]? = some (101, n)) : (wld aC b base sh gi gl gr)[q]? = some (base + q, .inl (aC 1, n, .inl (gi (q + 1)))) := wld_at h
theorem wl {b base : Nat} {aC : Nat → ClassId} (h : sh[q + 1]? = some (102, n)) : (wld aC b base sh gi gl gr)[q]? = some (base + q, .inl (aC 2, n, .inr (.inl (gl (q + 1))))) := wld_at h
theorem cel_r {b base : Nat} {aC : Nat → ClassId} {x : Nat} (hx : 103 ≤ x) (k : Nat) : cel aC b base gi gl gr k (x, n) = .inl (aC (x - 100), n, .inr (.inr (.inr (.inr (fun j => (gr k j).map (ad b base)))))) := by
  unfold cel
  rw [if_neg (show ¬ (x, n).1 < 100 by show ¬ x < 100; omega), if_neg (show ¬ (x, n).1 = 102 by show ¬ x = 102; omega), if_pos (show 103 ≤ (x, n).1 from hx)]
theorem wr {b base : Nat} {aC : Nat → ClassId} {x : Nat} (hx : 103 ≤ x) (h : sh[q + 1]? = some (x, n)) : (wld aC b base sh gi gl gr)[q]? = some (base + q, .inl (aC (x - 100), n, .inr (.inr (.inr (.inr (fun j => (gr (q + 1) j).map (ad b base))))))) := by
  rw [wld_at h, cel_r hx]
theorem cel_o {b base : Nat} {aC : Nat → ClassId} {x : Nat} (hx : x < 100) (k : Nat) : cel aC b base gi gl gr k (x, n) = .inr (x, fldv b base x gi gr k) := by
  unfold cel
  rw [if_pos (show (x, n).1 < 100 from hx)]
theorem wo {b base : Nat} {aC : Nat → ClassId} {x : Nat} (hx : x < 100) (h : sh[q + 1]? = some (x, n)) : (wld aC b base sh gi gl gr)[q]? = some (base + q, .inr (x, fldv b base x gi gr (q + 1))) := by
  rw [wld_at h, cel_o hx]
theorem fldv_len (b base x k : Nat) : (fldv b base x gi gr k).length = (kKd x).length := by simp [fldv]
theorem fldv_get (b base x k : Nat) {j : Nat} (hj : j < (kKd x).length) : (fldv b base x gi gr k)[j]? = some (if (kKd x).getD j 0 = 2 then va_rf ((gr k j).map (ad b base)) else .int (gi k j)) := by
  simp [fldv, List.getElem?_map, List.getElem?_range hj]
theorem fldv_setI (b base x k : Nat) {j : Nat} (hj : j < (kKd x).length) (hk : (kKd x).getD j 0 ≠ 2) (v : Int32) : (fldv b base x gi gr k).set j (.int v) = fldv b base x (u2 gi k j v) gr k := by
  apply List.ext_getElem?
  intro i
  by_cases hi : i < (kKd x).length
  · by_cases e : i = j
    · subst e
      rw [List.getElem?_set_self (by rw [fldv_len]; exact hi), fldv_get _ _ _ _ hi, if_neg hk]
      simp [u2]
    · rw [List.getElem?_set_ne (Ne.symm e), fldv_get _ _ _ _ hi, fldv_get _ _ _ _ hi]
      simp [u2, e]
  · rw [List.getElem?_eq_none (by rw [List.length_set, fldv_len]; omega), List.getElem?_eq_none (by rw [fldv_len]; omega)]
theorem fldv_setR (b base x k : Nat) {j : Nat} (hj : j < (kKd x).length) (hk : (kKd x).getD j 0 = 2) (v : Nat) : (fldv b base x gi gr k).set j (.ref (ad b base v)) = fldv b base x gi (u2 gr k j (some v)) k := by
  apply List.ext_getElem?
  intro i
  by_cases hi : i < (kKd x).length
  · by_cases e : i = j
    · subst e
      rw [List.getElem?_set_self (by rw [fldv_len]; exact hi), fldv_get _ _ _ _ hi, if_pos hk]
      simp [u2, va_rf]
    · rw [List.getElem?_set_ne (Ne.symm e), fldv_get _ _ _ _ hi, fldv_get _ _ _ _ hi]
      simp [u2, e]
  · rw [List.getElem?_eq_none (by rw [List.length_set, fldv_len]; omega), List.getElem?_eq_none (by rw [fldv_len]; omega)]
end
theorem upd_u2 (g : Nat → Nat → Int32) (q j : Nat) (v : Int32) : upd (g q) j v = u2 g q j v q := by
  funext b
  simp [upd, u2]
theorem updL_u2 (g : Nat → Nat → Int64) (q j : Nat) (v : Int64) : vp_updL (g q) j v = u2 g q j v q := by
  funext b
  simp [vp_updL, u2]
theorem va_up_u2 (g : Nat → Nat → Option Nat) (f : Nat → Nat) (q j v : Nat) : va_up (fun i => (g q i).map f) j (some (f v)) = fun i => (u2 g q j (some v) q i).map f := by
  funext b
  by_cases hb : b = j
  · subst hb
    simp [va_up, u2]
  · simp [va_up, u2, hb]
theorem cpy_cpy2 (g : Nat → Nat → Int32) (k q sp dp n : Nat) : va_cpy (g k) (g q) sp dp n = cpy2 g k q sp dp n q := by
  funext b
  simp [cpy2]
theorem def_kty : ∀ ty : FieldType, kty ty < 3 → defaultValue ty = if kty ty = 2 then va_rf none else .int 0 := by
  intro ty h
  cases ty <;> first | rfl | (simp [kty] at h)
theorem tyl0 (aC : Nat → ClassId) : (tyl aC)[0]? = some (aC 0, .int) := rfl
theorem tyl1 (aC : Nat → ClassId) : (tyl aC)[1]? = some (aC 1, .boolean) := rfl
theorem tyl2 (aC : Nat → ClassId) : (tyl aC)[2]? = some (aC 2, .long) := rfl
theorem tyl3 (aC : Nat → ClassId) {j : Nat} (hj : j < arN.length) : (tyl aC)[3 + j]? = some (aC (3 + j), .object (arN.getD j "")) := by
  unfold tyl
  have e : 3 + j = j + 1 + 1 + 1 := by omega
  rw [e, List.getElem?_cons_succ, List.getElem?_cons_succ, List.getElem?_cons_succ]
  simp [List.getElem?_map, List.getElem?_range hj]
  exact congrArg aC e
/-- after a write of one cell, whose place in the list is q -/
theorem HR.wrote {w : Wd} {sh : List (Nat × Nat)} {gi gi' : Nat → Nat → Int32} {gl gl' : Nat → Nat → Int64} {gr gr' : Nat → Nat → Option Nat} {H H1 : Heap} {q : Nat} {z : Nat × Nat} {x : va_E} (hr : HR w (sh, gi, gl, gr) H) (hz : sh[q + 1]? = some z)
    (h1 : ∀ k, k ≠ q + 1 → gi' k = gi k) (h2 : ∀ k, k ≠ q + 1 → gl' k = gl k) (h3 : ∀ k, k ≠ q + 1 → gr' k = gr k) (hx : x = cel w.aC w.b w.base gi' gl' gr' (q + 1) z) (hP : va_P w.D kCl ((wld w.aC w.b w.base sh gi gl gr).set q (w.base + q, x)) H1) : HR w (sh, gi', gl', gr') H1 := by
  obtain ⟨r0, -, r3, r4⟩ := hr
  rw [hx, wld_set hz h1 h2 h3] at hP
  refine ⟨r0, hP, r3, fun j hj => ?_⟩
  show gi' 0 j = _
  rw [h1 0 (by omega)]
  exact r4 j hj
section
variable {p : Program} {l : Launch} {e : Env} {R : Room} {s : State} {m : MethodId} {args : Array Value} {below : List Frame} {meth : Method} {c : Code} {Q : State → Prop}
variable {w : Wd} {mi sh0 sl0 pc : Nat} {lc : Lc} {st : List Value} {sh : List (Nat × Nat)} {gi : Nat → Nat → Int32} {gl : Nat → Nat → Int64} {gr : Nat → Nat → Option Nat} {sl : Nat} {H : Heap} {locs : List Loc} {ls : Array Slot} {y : Cg}
theorem W.sized {cells slots : Nat} {g : JFrame} (h : H.size ≤ s.heap.size + cells → W p l e R s m args below meth c H locs cells slots Q g) : W p l e R s m args below meth c H locs cells slots Q g := by
  intro T hT X
  have := X.heapSize
  rw [hT] at this
  exact h this T hT X
theorem W.mono {Q' : State → Prop} {cells slots : Nat} {g : JFrame} (hQ : ∀ t, Q t → Q' t) (h : W p l e R s m args below meth c H locs cells slots Q g) : W p l e R s m args below meth c H locs cells slots Q' g := by
  intro T hT X
  obtain ⟨t, a, b⟩ := h T hT X
  exact ⟨t, a, hQ t b⟩
theorem In.size (B : Bx p l R s m meth c w mi sh0 sl0) {lc : Lc} {h : Hp} (I : In w s sh0 sl0 mi lc h sl H locs ls) (hz : H.size ≤ s.heap.size + (h.1.length - sh0)) : H.size = w.base + (h.1.length - 1) := by
  obtain ⟨-, -, C, -, -, h0, hs⟩ := B
  have h1 := I.1.low (Nat.le_trans C.2.2.2.2.1 I.2.1.1)
  have h2 := I.2.2.2.1
  omega
theorem so_push {v : Value} {len : Nat} {y : Cg} (h : s_push len mi pc lc st sh gi gl gr sl v = some y) (hv : cv w.b w.base v = v) (I : In w s sh0 sl0 mi lc (sh, gi, gl, gr) sl H locs ls) (K : KK p l e R s m args below meth c w sh0 sl0 Q (mi, y)) : W p l e R s m args below meth c H locs (sh.length - sh0) (sl - sl0) Q (F0 m (pc + len) ls (v :: st.map (cv w.b w.base))) := by
  obtain rfl := go_inv h
  have := K H locs ls I
  simp only [List.map_cons, hv] at this
  exact this
theorem so_iload {k len : Nat} (h : s_iload len mi pc lc st sh gi gl gr sl k = some y) (I : In w s sh0 sl0 mi lc (sh, gi, gl, gr) sl H locs ls) (K : KK p l e R s m args below meth c w sh0 sl0 Q (mi, y)) : ∃ x, ls[k]? = some (.val (.int x)) ∧ W p l e R s m args below meth c H locs (sh.length - sh0) (sl - sl0) Q (F0 m (pc + len) ls (.int x :: st.map (cv w.b w.base))) := by
  unfold s_iload at h
  split at h
  · rename_i x hx
    obtain rfl := go_inv h
    exact ⟨x, lget_has I.2.2.1 hx, K H locs ls I⟩
  · cases h
theorem so_aload {k len : Nat} (h : s_aload len mi pc lc st sh gi gl gr sl k = some y) (I : In w s sh0 sl0 mi lc (sh, gi, gl, gr) sl H locs ls) (K : KK p l e R s m args below meth c w sh0 sl0 Q (mi, y)) : ∃ x, ls[k]? = some (.val (.ref x)) ∧ W p l e R s m args below meth c H locs (sh.length - sh0) (sl - sl0) Q (F0 m (pc + len) ls (.ref x :: st.map (cv w.b w.base))) := by
  unfold s_aload at h
  split at h
  · rename_i x hx
    obtain rfl := go_inv h
    exact ⟨ad w.b w.base x, lget_has I.2.2.1 hx, K H locs ls I⟩
  · cases h
theorem so_istore {k len : Nat} (h : s_istore len mi pc lc st sh gi gl gr sl k = some y) (I : In w s sh0 sl0 mi lc (sh, gi, gl, gr) sl H locs ls) (K : KK p l e R s m args below meth c w sh0 sl0 Q (mi, y)) : ∃ x r lc', st.map (cv w.b w.base) = .int x :: r ∧ k < mL mi ∧ (k, Value.int x) :: (cvl w lc).filter (fun q => !(q.1 == k) && !(q.1 + 1 == k && q.2.category == 2)) = lc' ∧ ∀ ls', lv_has ls' (mL mi) lc' → W p l e R s m args below meth c H locs (sh.length - sh0) (sl - sl0) Q (F0 m (pc + len) ls' r) := by
  unfold s_istore at h
  split at h
  · rename_i x r
    split at h
    · rename_i hk
      obtain rfl := go_inv h
      exact ⟨x, r.map (cv w.b w.base), _, rfl, hk, rfl, fun ls' hl => K H locs ls' ⟨I.1, I.2.1, by rw [← lput_cvl]; exact hl, I.2.2.2⟩⟩
    · cases h
  · cases h
theorem so_astore {k len : Nat} (h : s_astore len mi pc lc st sh gi gl gr sl k = some y) (I : In w s sh0 sl0 mi lc (sh, gi, gl, gr) sl H locs ls) (K : KK p l e R s m args below meth c w sh0 sl0 Q (mi, y)) : ∃ x r lc', st.map (cv w.b w.base) = .ref x :: r ∧ k < mL mi ∧ (k, Value.ref x) :: (cvl w lc).filter (fun q => !(q.1 == k) && !(q.1 + 1 == k && q.2.category == 2)) = lc' ∧ ∀ ls', lv_has ls' (mL mi) lc' → W p l e R s m args below meth c H locs (sh.length - sh0) (sl - sl0) Q (F0 m (pc + len) ls' r) := by
  unfold s_astore at h
  split at h
  · rename_i x r
    split at h
    · rename_i hk
      obtain rfl := go_inv h
      exact ⟨ad w.b w.base x, r.map (cv w.b w.base), _, rfl, hk, rfl, fun ls' hl => K H locs ls' ⟨I.1, I.2.1, by rw [← lput_cvl]; exact hl, I.2.2.2⟩⟩
    · cases h
  · cases h
theorem so_iinc {k : Nat} {n : Int} (hx : p.tables.exec = Jvm.exec) (hb : c.code = mB mi) (hdg : decode (mB mi) pc = .ok (.iinc k n, 3)) (h : s_iinc 3 mi pc lc st sh gi gl gr sl k n = some y) (I : In w s sh0 sl0 mi lc (sh, gi, gl, gr) sl H locs ls) (K : KK p l e R s m args below meth c w sh0 sl0 Q (mi, y)) : W p l e R s m args below meth c H locs (sh.length - sh0) (sl - sl0) Q (F0 m pc ls (st.map (cv w.b w.base))) := by
  unfold s_iinc at h
  split at h
  · rename_i x hg
    split at h
    · rename_i hk
      obtain rfl := go_inv h
      unfold lget at hg
      obtain ⟨q, hq, hq2⟩ := Option.map_eq_some_iff.mp hg
      have h1 := List.mem_of_find?_eq_some hq
      have h3 : q.1 = k := by simpa using List.find?_some hq
      have h4 : (k, Value.int x) ∈ cvl w lc := List.mem_map.mpr ⟨q, h1, by rw [hq2, h3]; rfl⟩
      obtain ⟨j, hj⟩ := List.getElem?_of_mem h4
      exact lv_iinc hx hb hdg I.2.2.1 hj rfl hk rfl (fun ls' hl => K H locs ls' ⟨I.1, I.2.1, by rw [← lput_cvl]; exact hl, I.2.2.2⟩)
    · cases h
  · cases h
theorem so_bin {f : Int32 → Int32 → Int32} {len : Nat} (h : s_bin len mi pc lc st sh gi gl gr sl f = some y) (I : In w s sh0 sl0 mi lc (sh, gi, gl, gr) sl H locs ls) (K : KK p l e R s m args below meth c w sh0 sl0 Q (mi, y)) : ∃ x y r, st.map (cv w.b w.base) = .int y :: .int x :: r ∧ W p l e R s m args below meth c H locs (sh.length - sh0) (sl - sl0) Q (F0 m (pc + len) ls (.int (f x y) :: r)) := by
  unfold s_bin at h
  split at h
  · rename_i y x r
    obtain rfl := go_inv h
    exact ⟨x, y, r.map (cv w.b w.base), rfl, K H locs ls I⟩
  · cases h
theorem so_div {f : Int32 → Int32 → Int32} {len : Nat} (h : s_div len mi pc lc st sh gi gl gr sl f = some y) (I : In w s sh0 sl0 mi lc (sh, gi, gl, gr) sl H locs ls) (K : KK p l e R s m args below meth c w sh0 sl0 Q (mi, y)) : ∃ x y r, st.map (cv w.b w.base) = .int y :: .int x :: r ∧ ¬ y = 0 ∧ W p l e R s m args below meth c H locs (sh.length - sh0) (sl - sl0) Q (F0 m (pc + len) ls (.int (f x y) :: r)) := by
  unfold s_div at h
  split at h
  · rename_i y x r
    split at h
    · cases h
    · rename_i hy
      obtain rfl := go_inv h
      exact ⟨x, y, r.map (cv w.b w.base), rfl, hy, K H locs ls I⟩
  · cases h
theorem so_i2l (hx : p.tables.exec = Jvm.exec) (hb : c.code = mB mi) (hdg : decode (mB mi) pc = .ok (.i2l, 1)) (h : s_i2l 1 mi pc lc st sh gi gl gr sl = some y) (I : In w s sh0 sl0 mi lc (sh, gi, gl, gr) sl H locs ls) (K : KK p l e R s m args below meth c w sh0 sl0 Q (mi, y)) : W p l e R s m args below meth c H locs (sh.length - sh0) (sl - sl0) Q (F0 m pc ls (st.map (cv w.b w.base))) := by
  unfold s_i2l at h
  split at h
  · obtain rfl := go_inv h
    exact lv_i2l hx hb hdg rfl (K H locs ls I)
  · cases h
theorem so_lcmp (hx : p.tables.exec = Jvm.exec) (hb : c.code = mB mi) (hdg : decode (mB mi) pc = .ok (.lcmp, 1)) (h : s_lcmp 1 mi pc lc st sh gi gl gr sl = some y) (I : In w s sh0 sl0 mi lc (sh, gi, gl, gr) sl H locs ls) (K : KK p l e R s m args below meth c w sh0 sl0 Q (mi, y)) : W p l e R s m args below meth c H locs (sh.length - sh0) (sl - sl0) Q (F0 m pc ls (st.map (cv w.b w.base))) := by
  unfold s_lcmp at h
  split at h
  · obtain rfl := go_inv h
    exact W.lcmp hx hb hdg (K H locs ls I)
  · cases h
theorem so_dup (hx : p.tables.exec = Jvm.exec) (hb : c.code = mB mi) (hdg : decode (mB mi) pc = .ok (.dup, 1)) (h : s_dup 1 mi pc lc st sh gi gl gr sl = some y) (I : In w s sh0 sl0 mi lc (sh, gi, gl, gr) sl H locs ls) (K : KK p l e R s m args below meth c w sh0 sl0 Q (mi, y)) : W p l e R s m args below meth c H locs (sh.length - sh0) (sl - sl0) Q (F0 m pc ls (st.map (cv w.b w.base))) := by
  unfold s_dup at h
  split at h
  · split at h
    · rename_i hc
      obtain rfl := go_inv h
      exact lv_dup hx hb hdg (by rw [cv_cat]; exact hc) (K H locs ls I)
    · cases h
  · cases h
theorem so_pop (hx : p.tables.exec = Jvm.exec) (hb : c.code = mB mi) (hdg : decode (mB mi) pc = .ok (.pop, 1)) (h : s_pop 1 mi pc lc st sh gi gl gr sl = some y) (I : In w s sh0 sl0 mi lc (sh, gi, gl, gr) sl H locs ls) (K : KK p l e R s m args below meth c w sh0 sl0 Q (mi, y)) : W p l e R s m args below meth c H locs (sh.length - sh0) (sl - sl0) Q (F0 m pc ls (st.map (cv w.b w.base))) := by
  unfold s_pop at h
  split at h
  · split at h
    · rename_i hc
      obtain rfl := go_inv h
      exact lv_pop hx hb hdg (by rw [cv_cat]; exact hc) (K H locs ls I)
    · cases h
  · cases h
theorem so_dup2 (hx : p.tables.exec = Jvm.exec) (hb : c.code = mB mi) (hdg : decode (mB mi) pc = .ok (.dup2, 1)) (h : s_dup2 1 mi pc lc st sh gi gl gr sl = some y) (I : In w s sh0 sl0 mi lc (sh, gi, gl, gr) sl H locs ls) (K : KK p l e R s m args below meth c w sh0 sl0 Q (mi, y)) : W p l e R s m args below meth c H locs (sh.length - sh0) (sl - sl0) Q (F0 m pc ls (st.map (cv w.b w.base))) := by
  unfold s_dup2 at h
  split at h
  · split at h
    · rename_i hc
      obtain rfl := go_inv h
      exact lv_dup2_11 hx hb hdg (by rw [cv_cat]; exact hc.1) (by rw [cv_cat]; exact hc.2) (K H locs ls I)
    · cases h
  · cases h
theorem so_if {cc : ClassFile.Cond} {o : Int} {a : Nat} (hx : p.tables.exec = Jvm.exec) (hb : c.code = mB mi) (hdg : decode (mB mi) pc = .ok (.ifCond cc o, 3)) (ha : (pc : Int) + o = (a : Int)) (h : s_if a mi pc lc st sh gi gl gr sl cc = some y) (I : In w s sh0 sl0 mi lc (sh, gi, gl, gr) sl H locs ls) (K : KK p l e R s m args below meth c w sh0 sl0 Q (mi, y)) : W p l e R s m args below meth c H locs (sh.length - sh0) (sl - sl0) Q (F0 m pc ls (st.map (cv w.b w.base))) := by
  unfold s_if at h
  split at h
  · rename_i x r
    cases cc <;> simp only [br] at h
    · exact lv_if_eq hx hb hdg ha (fun q => by rw [if_pos q] at h; obtain rfl := go_inv h; exact K H locs ls I) (fun q => by rw [if_neg q] at h; obtain rfl := go_inv h; exact K H locs ls I)
    · exact lv_if_ne hx hb hdg ha (fun q => by rw [if_neg q] at h; obtain rfl := go_inv h; exact K H locs ls I) (fun q => by rw [if_pos q] at h; obtain rfl := go_inv h; exact K H locs ls I)
    · exact lv_if_lt hx hb hdg ha (fun q => by rw [if_pos q] at h; obtain rfl := go_inv h; exact K H locs ls I) (fun q => by rw [if_neg q] at h; obtain rfl := go_inv h; exact K H locs ls I)
    · exact lv_if_ge hx hb hdg ha (fun q => by rw [if_pos q] at h; obtain rfl := go_inv h; exact K H locs ls I) (fun q => by rw [if_neg q] at h; obtain rfl := go_inv h; exact K H locs ls I)
    · exact lv_if_gt hx hb hdg ha (fun q => by rw [if_pos q] at h; obtain rfl := go_inv h; exact K H locs ls I) (fun q => by rw [if_neg q] at h; obtain rfl := go_inv h; exact K H locs ls I)
    · exact lv_if_le hx hb hdg ha (fun q => by rw [if_pos q] at h; obtain rfl := go_inv h; exact K H locs ls I) (fun q => by rw [if_neg q] at h; obtain rfl := go_inv h; exact K H locs ls I)
  · cases h
theorem so_icmp {cc : ClassFile.Cond} {o : Int} {a : Nat} (hx : p.tables.exec = Jvm.exec) (hb : c.code = mB mi) (hdg : decode (mB mi) pc = .ok (.if_icmp cc o, 3)) (ha : (pc : Int) + o = (a : Int)) (h : s_icmp a mi pc lc st sh gi gl gr sl cc = some y) (I : In w s sh0 sl0 mi lc (sh, gi, gl, gr) sl H locs ls) (K : KK p l e R s m args below meth c w sh0 sl0 Q (mi, y)) : W p l e R s m args below meth c H locs (sh.length - sh0) (sl - sl0) Q (F0 m pc ls (st.map (cv w.b w.base))) := by
  unfold s_icmp at h
  split at h
  · rename_i y x r
    cases cc <;> simp only [br] at h
    · exact lv_icmp_eq hx hb hdg ha (fun q => by rw [if_pos q] at h; obtain rfl := go_inv h; exact K H locs ls I) (fun q => by rw [if_neg q] at h; obtain rfl := go_inv h; exact K H locs ls I)
    · exact lv_icmp_ne hx hb hdg ha (fun q => by rw [if_neg q] at h; obtain rfl := go_inv h; exact K H locs ls I) (fun q => by rw [if_pos q] at h; obtain rfl := go_inv h; exact K H locs ls I)
    · exact lv_icmp_lt hx hb hdg ha (fun q => by rw [if_pos q] at h; obtain rfl := go_inv h; exact K H locs ls I) (fun q => by rw [if_neg q] at h; obtain rfl := go_inv h; exact K H locs ls I)
    · exact lv_icmp_ge hx hb hdg ha (fun q => by rw [if_pos q] at h; obtain rfl := go_inv h; exact K H locs ls I) (fun q => by rw [if_neg q] at h; obtain rfl := go_inv h; exact K H locs ls I)
    · exact lv_icmp_gt hx hb hdg ha (fun q => by rw [if_pos q] at h; obtain rfl := go_inv h; exact K H locs ls I) (fun q => by rw [if_neg q] at h; obtain rfl := go_inv h; exact K H locs ls I)
    · exact lv_icmp_le hx hb hdg ha (fun q => by rw [if_pos q] at h; obtain rfl := go_inv h; exact K H locs ls I) (fun q => by rw [if_neg q] at h; obtain rfl := go_inv h; exact K H locs ls I)
  · cases h
theorem so_tab {d lo hi : Int} {offs : Array Int} {len : Nat} (hx : p.tables.exec = Jvm.exec) (hb : c.code = mB mi) (hdg : decode (mB mi) pc = .ok (.tableswitch d lo hi offs, len)) (h0 : 0 ≤ (pc : Int) + d) (h1 : ∀ o ∈ offs.toList, 0 ≤ (pc : Int) + o) (h : s_tab mi pc lc st sh gi gl gr sl d lo hi offs = some y) (I : In w s sh0 sl0 mi lc (sh, gi, gl, gr) sl H locs ls) (K : KK p l e R s m args below meth c w sh0 sl0 Q (mi, y)) : W p l e R s m args below meth c H locs (sh.length - sh0) (sl - sl0) Q (F0 m pc ls (st.map (cv w.b w.base))) := by
  unfold s_tab at h
  split at h
  · rename_i x r
    split at h
    · rename_i hc
      obtain rfl := go_inv h
      exact lv_tableOut hx hb hdg hc (Int.toNat_of_nonneg h0).symm (K H locs ls I)
    · rename_i hc
      split at h
      · rename_i o ho
        obtain rfl := go_inv h
        exact lv_tableIn hx hb hdg (fun q => hc (Or.inl q)) (fun q => hc (Or.inr q)) ho (Int.toNat_of_nonneg (h1 o (by rw [← Array.getElem?_toList] at ho; exact List.mem_of_getElem? ho))).symm (K H locs ls I)
      · cases h
  · cases h
theorem lko_mem : ∀ (l : List (Int × Int)) (d x : Int), Op.lookupswitch.offset l d x = d ∨ ∃ q ∈ l, Op.lookupswitch.offset l d x = q.2
  | [], d, x => Or.inl rfl
  | q :: t, d, x => by
    unfold Op.lookupswitch.offset
    split
    · exact Or.inr ⟨q, List.mem_cons_self, rfl⟩
    · rcases lko_mem t d x with h | ⟨z, hz, h⟩
      · exact Or.inl h
      · exact Or.inr ⟨z, List.mem_cons_of_mem _ hz, h⟩
theorem so_look {d : Int} {ps : Array (Int × Int)} {len : Nat} (hx : p.tables.exec = Jvm.exec) (hb : c.code = mB mi) (hdg : decode (mB mi) pc = .ok (.lookupswitch d ps, len)) (h0 : 0 ≤ (pc : Int) + d) (h1 : ∀ o ∈ ps.toList, 0 ≤ (pc : Int) + o.2) (h2 : (ps.toList.zip (ps.toList.drop 1)).all (fun (a, next) => a.1 < next.1) = true) (h : s_look mi pc lc st sh gi gl gr sl d ps = some y) (I : In w s sh0 sl0 mi lc (sh, gi, gl, gr) sl H locs ls) (K : KK p l e R s m args below meth c w sh0 sl0 Q (mi, y)) : W p l e R s m args below meth c H locs (sh.length - sh0) (sl - sl0) Q (F0 m pc ls (st.map (cv w.b w.base))) := by
  unfold s_look at h
  split at h
  · rename_i x r
    obtain rfl := go_inv h
    refine lv_lookup hx hb hdg h2 rfl (Int.toNat_of_nonneg ?_).symm (K H locs ls I)
    rcases lko_mem ps.toList d x.toInt with q | ⟨z, hz, q⟩
    · rw [q]; exact h0
    · rw [q]; exact h1 z hz
  · cases h
end
end
section
/-! the instructions that read or write cells, or make them -/
def okF (mi ix a b c p : Nat) : Bool := match kCl[a]? with
  | some (C, T, N) => decide (a < 10) && decide (b < N) && decide ((T b).1 = C) && decide (c = (kKd a).getD b 0) && wAt p (.fieldLink (mY mi).cls ix C (T b).2.1 (T b).2.2.1)
  | none => false
def okP (mi a b : Nat) : Bool := match kCl[a]? with
  | some (_, T, _) => (T b).2.2.2 == false || (decide ((mY mi).name = "<init>") && decide ((T b).1 = (mY mi).cls))
  | none => false
theorem isB_nar {v : Int32} (h : isB v = true) : narrow .boolean (.int v) = .int v := by
  unfold isB at h
  rw [Bool.or_eq_true, beq_iff_eq, beq_iff_eq] at h
  rcases h with rfl | rfl <;> rfl
theorem isB_fits {v : Int32} (h : isB v = true) : fits .boolean (.int v) = true := by
  unfold isB at h
  rw [Bool.or_eq_true, beq_iff_eq, beq_iff_eq] at h
  rcases h with rfl | rfl <;> rfl
theorem isB_vp {v : Int32} (h : isB v = true) : vp_nar .boolean v = v := by
  unfold vp_nar
  rw [isB_nar h]
section
variable {p : Program} {l : Launch} {e : Env} {R : Room} {s : State} {m : MethodId} {args : Array Value} {below : List Frame} {meth : Method} {c : Code} {Q : State → Prop}
variable {w : Wd} {mi sh0 sl0 pc : Nat} {lc : Lc} {st : List Value} {sh : List (Nat × Nat)} {gi : Nat → Nat → Int32} {gl : Nat → Nat → Int64} {gr : Nat → Nat → Option Nat} {sl : Nat} {H : Heap} {locs : List Loc} {ls : Array Slot} {y : Cg}
theorem ne0 {h : Hp} (hr : HR w h H) {q x n : Nat} (hq : h.1[q]? = some (x, n)) (hx : x ≠ 100) : ∃ k, q = k + 1 := by
  cases q with
  | zero =>
    rw [hr.2.2.1] at hq
    exact absurd (Prod.mk.inj (Option.some.inj hq)).1.symm hx
  | succ k => exact ⟨k, rfl⟩
theorem so_get {ix a b k z : Nat} (hK9 : ∀ x, x < 10 → okK x = true) (B : Bx p l R s m meth c w mi sh0 sl0) (hdg : decode (mB mi) pc = .ok (.getfield ix, 3)) (ho : okF mi ix a b k z = true) (h : s_get a b k mi pc lc st sh gi gl gr sl = some y) (I : In w s sh0 sl0 mi lc (sh, gi, gl, gr) sl H locs ls) (K : KK p l e R s m args below meth c w sh0 sl0 Q (mi, y)) : W p l e R s m args below meth c H locs (sh.length - sh0) (sl - sl0) Q (F0 m pc ls (st.map (cv w.b w.base))) := by
  obtain ⟨hx, -, C, M, -, -, -⟩ := B
  unfold s_get at h
  split at h
  · rename_i q r
    split at h
    · rename_i x n hq
      split at h
      · rename_i hxa
        subst hxa
        unfold okF at ho
        split at ho
        · rename_i Cn T N hc
          simp only [Bool.and_eq_true, decide_eq_true_eq] at ho
          obtain ⟨⟨⟨⟨o1, o2⟩, o3⟩, o4⟩, o5⟩ := ho
          obtain ⟨q, rfl⟩ := ne0 I.1 hq (by omega)
          obtain ⟨k1, k2, k3, k4, k5, -, -⟩ := okK_spec hc (hK9 x o1)
          obtain rfl := go_inv h
          have hv := fldv_get (gi := gi) (gr := gr) w.b w.base x (q + 1) (j := b) (by omega)
          rw [← o4] at hv
          refine va_get (ref := Cn) hx M.2.1 (C.tb args) k5 M.1 C.2.1 I.1.2.1 q (wo (by omega) hq) hc b o2 (C.wd o5 rfl args) (fun z hz => by rw [o3] at hz; exact hz) hv hdg ?_
          have := K H locs ls I
          have e1 : cv w.b w.base (if k = 2 then va_rf (gr (q + 1) b) else .int (gi (q + 1) b)) = if k = 2 then va_rf ((gr (q + 1) b).map (ad w.b w.base)) else .int (gi (q + 1) b) := by
            split
            · exact cv_rf _ _ _
            · rfl
          simp only [List.map_cons, e1] at this
          exact this
        · cases ho
      · cases h
    · cases h
  · cases h
theorem so_put {ix a b k z : Nat} (hK9 : ∀ x, x < 10 → okK x = true) (B : Bx p l R s m meth c w mi sh0 sl0) (hdg : decode (mB mi) pc = .ok (.putfield ix, 3)) (ho : okF mi ix a b k z = true) (hp : okP mi a b = true) (h : s_put a b k mi pc lc st sh gi gl gr sl = some y) (I : In w s sh0 sl0 mi lc (sh, gi, gl, gr) sl H locs ls) (K : KK p l e R s m args below meth c w sh0 sl0 Q (mi, y)) : W p l e R s m args below meth c H locs (sh.length - sh0) (sl - sl0) Q (F0 m pc ls (st.map (cv w.b w.base))) := by
  obtain ⟨hx, -, C, M, -, -, -⟩ := B
  unfold okF at ho
  unfold okP at hp
  split at ho
  · rename_i Cn T N hc
    rw [hc] at hp
    simp only [Bool.and_eq_true, Bool.or_eq_true, decide_eq_true_eq, beq_iff_eq] at ho hp
    obtain ⟨⟨⟨⟨o1, o2⟩, o3⟩, o4⟩, o5⟩ := ho
    obtain ⟨k1, k2, k3, k4, k5, -, -⟩ := okK_spec hc (hK9 a o1)
    have hl := C.wd o5 rfl args
    have hsame : ∀ z, s.fieldFound? (T b).1 (T b).2.1 (T b).2.2.1 = some z → s.fieldFound? Cn (T b).2.1 (T b).2.2.1 = some z := fun z hz => by rw [o3] at hz; exact hz
    have hk3 := (k3 b o2).1
    rw [← o4] at hk3
    have main : ∀ (q n : Nat) (v : Value) (gi' : Nat → Nat → Int32) (gr' : Nat → Nat → Option Nat) (r : List Value), sh[q + 1]? = some (a, n) → narrow (kYd a b) v = v → fits (kYd a b) v = true → (fldv w.b w.base a gi gr (q + 1)).set b v = fldv w.b w.base a gi' gr' (q + 1) → (∀ i, i ≠ q + 1 → gi' i = gi i) → (∀ i, i ≠ q + 1 → gr' i = gr i) →
        KK p l e R s m args below meth c w sh0 sl0 Q (mi, pc + 3, lc, r, (sh, gi', gl, gr'), sl) → W p l e R s m args below meth c H locs (sh.length - sh0) (sl - sl0) Q (F0 m pc ls (v :: .ref (w.base + q) :: r.map (cv w.b w.base))) := by
      intro q n v gi' gr' r hq hn hf hset h1 h3 K'
      have fin : ∀ (H1 : Heap) (locs1 : List Loc), va_P w.D kCl ((wld w.aC w.b w.base sh gi gl gr).set q (w.base + q, .inr (a, (fldv w.b w.base a gi gr (q + 1)).set b v))) H1 → va_D (fun q => w.base ≤ q) ((wld w.aC w.b w.base sh gi gl gr).set q (w.base + q, .inr (a, (fldv w.b w.base a gi gr (q + 1)).set b v))) → va_S (fun q => w.base ≤ q) s.heap H1 locs1 →
          W p l e R s m args below meth c H1 locs1 (sh.length - sh0) (sl - sl0) Q (F0 m (pc + 3) ls (r.map (cv w.b w.base))) := fun H1 locs1 hP _ hS =>
        K' H1 locs1 ls ⟨I.1.wrote hq h1 (fun _ _ => rfl) h3 (by rw [hset, cel_o (by omega)]) hP, hS, I.2.2⟩
      rcases hp with hp | ⟨hp1, hp2⟩
      · exact va_put (ref := Cn) (own := (mY mi).cls) hx M.2.1 (C.tb args) k5 (kYd a) k2 k4 M.1 C.2.1 I.1.2.1 wld_D I.2.1 q (wo (by omega) hq) hc b o2 hl hsame hp (k2 b o2) hn hf (by rw [fldv_len]; omega) hdg fin
      · by_cases hfin : (T b).2.2.2 = true
        · exact va_putF (ref := Cn) (own := (mY mi).cls) hx M.2.1 (C.tb args) k5 (kYd a) k2 k4 M.1 C.2.1 I.1.2.1 wld_D I.2.1 q (wo (by omega) hq) hc b o2 hl hsame hfin (by rw [M.2.2.2.2.2.1]; exact hp1) hp2 (k2 b o2) hn hf (by rw [fldv_len]; omega) hdg fin
        · exact va_put (ref := Cn) (own := (mY mi).cls) hx M.2.1 (C.tb args) k5 (kYd a) k2 k4 M.1 C.2.1 I.1.2.1 wld_D I.2.1 q (wo (by omega) hq) hc b o2 hl hsame (by simpa using hfin) (k2 b o2) hn hf (by rw [fldv_len]; omega) hdg fin
    unfold s_put at h
    split at h
    · rename_i v q r
      split at h
      · rename_i x n hq
        split at h
        · rename_i hcs
          obtain ⟨rfl, hcs⟩ := hcs
          obtain rfl := go_inv h
          obtain ⟨q, rfl⟩ := ne0 I.1 hq (by omega)
          have hk2 : (kKd x).getD b 0 ≠ 2 := by rw [← o4]; rcases hcs with q | q <;> omega
          refine main q n (.int v) _ gr r hq ?_ ?_ (fldv_setI _ _ _ _ (by omega) hk2 v) (u2_ne gi b v) (fun _ _ => rfl) K
          · rcases hcs with hz | ⟨hz, hB⟩
            · rw [hz] at hk3
              revert hk3
              cases kYd x b <;> intro hk3 <;> first | rfl | (simp [kty] at hk3)
            · rw [hz] at hk3
              revert hk3
              cases kYd x b <;> intro hk3 <;> first | exact isB_nar hB | (simp [kty] at hk3)
          · rcases hcs with hz | ⟨hz, hB⟩
            · rw [hz] at hk3
              revert hk3
              cases kYd x b <;> intro hk3 <;> first | rfl | (simp [kty] at hk3)
            · rw [hz] at hk3
              revert hk3
              cases kYd x b <;> intro hk3 <;> first | exact isB_fits hB | (simp [kty] at hk3)
        · cases h
      · cases h
    · rename_i v q r
      split at h
      · rename_i x n hq
        split at h
        · rename_i hcs
          obtain ⟨rfl, hcs⟩ := hcs
          obtain rfl := go_inv h
          obtain ⟨q, rfl⟩ := ne0 I.1 hq (by omega)
          have hk2 : (kKd x).getD b 0 = 2 := by rw [← o4]; exact hcs
          refine main q n (.ref (ad w.b w.base v)) gi _ r hq ?_ ?_ (fldv_setR _ _ _ _ (by omega) hk2 v) (fun _ _ => rfl) (u2_ne gr b (some v)) K
          · rw [hcs] at hk3
            revert hk3
            cases kYd x b <;> intro hk3 <;> first | rfl | (simp [kty] at hk3)
          · rw [hcs] at hk3
            revert hk3
            cases kYd x b <;> intro hk3 <;> first | rfl | (simp [kty] at hk3)
        · cases h
      · cases h
    · cases h
  · cases ho
theorem so_iald (B : Bx p l R s m meth c w mi sh0 sl0) (hdg : decode (mB mi) pc = .ok (.iaload, 1)) (h : s_iald mi pc lc st sh gi gl gr sl 100 = some y) (I : In w s sh0 sl0 mi lc (sh, gi, gl, gr) sl H locs ls) (K : KK p l e R s m args below meth c w sh0 sl0 Q (mi, y)) : W p l e R s m args below meth c H locs (sh.length - sh0) (sl - sl0) Q (F0 m pc ls (st.map (cv w.b w.base))) := by
  obtain ⟨hx, -, C, M, -, -, -⟩ := B
  unfold s_iald at h
  split at h
  · rename_i i q r
    obtain ⟨n, hq, hin, h⟩ := ldI_inv h
    obtain rfl := go_inv h
    cases q with
    | zero =>
      have e9 := hq
      rw [I.1.2.2.1] at e9
      have e2 : w.L = n := (Prod.mk.inj (Option.some.inj e9)).2
      subst e2
      have hlt : i.toNatClampNeg < w.L := Nat.not_le.mp fun q => hin (Or.inr q)
      have e3 : gi 0 i.toNatClampNeg = w.xs i.toNatClampNeg := I.1.2.2.2 _ hlt
      have this : W p l e R s m args below meth c H locs (sh.length - sh0) (sl - sl0) Q (F0 m (pc + 1) ls (.int (gi 0 i.toNatClampNeg) :: r.map (cv w.b w.base))) := K H locs ls I
      rw [e3] at this
      exact va_sld hx M.2.1 C.2.2.1 (Nat.lt_of_lt_of_le C.2.2.2.1 C.2.2.2.2.1) (Nat.not_le.mpr C.2.2.2.1) I.2.1 hin hdg this
    | succ q => exact va_iald hx M.2.1 C.2.1 I.1.2.1 q 0 (wi hq) (tyl0 _) hin hdg (K H locs ls I)
  · cases h
theorem so_zald (B : Bx p l R s m meth c w mi sh0 sl0) (hdg : decode (mB mi) pc = .ok (.baload, 1)) (h : s_iald mi pc lc st sh gi gl gr sl 101 = some y) (I : In w s sh0 sl0 mi lc (sh, gi, gl, gr) sl H locs ls) (K : KK p l e R s m args below meth c w sh0 sl0 Q (mi, y)) : W p l e R s m args below meth c H locs (sh.length - sh0) (sl - sl0) Q (F0 m pc ls (st.map (cv w.b w.base))) := by
  obtain ⟨hx, -, C, M, -, -, -⟩ := B
  unfold s_iald at h
  split at h
  · rename_i i q r
    obtain ⟨n, hq, hin, h⟩ := ldI_inv h
    obtain rfl := go_inv h
    obtain ⟨q, rfl⟩ := ne0 I.1 hq (by omega)
    exact va_zald hx M.2.1 C.2.1 I.1.2.1 q 1 (wz hq) (tyl1 _) hin hdg (K H locs ls I)
  · cases h
theorem so_lald (B : Bx p l R s m meth c w mi sh0 sl0) (hdg : decode (mB mi) pc = .ok (.laload, 1)) (h : s_lald mi pc lc st sh gi gl gr sl = some y) (I : In w s sh0 sl0 mi lc (sh, gi, gl, gr) sl H locs ls) (K : KK p l e R s m args below meth c w sh0 sl0 Q (mi, y)) : W p l e R s m args below meth c H locs (sh.length - sh0) (sl - sl0) Q (F0 m pc ls (st.map (cv w.b w.base))) := by
  obtain ⟨hx, -, C, M, -, -, -⟩ := B
  unfold s_lald at h
  split at h
  · rename_i i q r
    obtain ⟨n, hq, hin, h⟩ := ldI_inv h
    obtain rfl := go_inv h
    obtain ⟨q, rfl⟩ := ne0 I.1 hq (by omega)
    exact va_lald hx M.2.1 C.2.1 I.1.2.1 q 2 (wl hq) (tyl2 _) hin hdg (K H locs ls I)
  · cases h
theorem so_aald (B : Bx p l R s m meth c w mi sh0 sl0) (hdg : decode (mB mi) pc = .ok (.aaload, 1)) (h : s_aald mi pc lc st sh gi gl gr sl = some y) (I : In w s sh0 sl0 mi lc (sh, gi, gl, gr) sl H locs ls) (K : KK p l e R s m args below meth c w sh0 sl0 Q (mi, y)) : W p l e R s m args below meth c H locs (sh.length - sh0) (sl - sl0) Q (F0 m pc ls (st.map (cv w.b w.base))) := by
  obtain ⟨hx, -, C, M, -, -, -⟩ := B
  unfold s_aald at h
  split at h
  · rename_i i q r
    split at h
    · rename_i x n' hq0
      split at h
      · rename_i hx3
        obtain ⟨hx3, h9⟩ := hx3
        obtain ⟨n, hq, hin, h⟩ := ldI_inv h
        obtain rfl := go_inv h
        obtain ⟨q, rfl⟩ := ne0 I.1 hq (by omega)
        obtain ⟨j, rfl⟩ : ∃ j, x = 103 + j := ⟨x - 103, by omega⟩
        have hj : j < arN.length := by
          show j < 3
          omega
        have hw := wr (gi := gi) (gl := gl) (gr := gr) (b := w.b) (base := w.base) (aC := w.aC) hx3 hq
        rw [show 103 + j - 100 = 3 + j by omega] at hw
        have := K H locs ls I
        simp only [List.map_cons, cv_rf] at this
        exact va_aldq hx M.2.1 C.2.1 I.1.2.1 q (3 + j) hw (tyl3 _ hj) hin hdg this
      · cases h
    · cases h
  · cases h
theorem so_iast (B : Bx p l R s m meth c w mi sh0 sl0) (hdg : decode (mB mi) pc = .ok (.iastore, 1)) (h : s_iast mi pc lc st sh gi gl gr sl 100 = some y) (I : In w s sh0 sl0 mi lc (sh, gi, gl, gr) sl H locs ls) (K : KK p l e R s m args below meth c w sh0 sl0 Q (mi, y)) : W p l e R s m args below meth c H locs (sh.length - sh0) (sl - sl0) Q (F0 m pc ls (st.map (cv w.b w.base))) := by
  obtain ⟨hx, -, C, M, -, -, -⟩ := B
  unfold s_iast at h
  split at h
  · rename_i v i q r
    split at h
    · cases h
    · rename_i hc
      obtain ⟨n, hq, hin, h⟩ := ldI_inv h
      obtain rfl := go_inv h
      cases q with
      | zero => exact absurd (Or.inl rfl) hc
      | succ q =>
        refine va_iast hx M.2.1 C.2.1 I.1.2.1 wld_D I.2.1 q 0 (wi hq) (tyl0 _) hin hdg (fun H1 locs1 hP _ hS => K H1 locs1 ls ⟨I.1.wrote hq (u2_ne gi _ v) (fun _ _ => rfl) (fun _ _ => rfl) ?_ hP, hS, I.2.2⟩)
        rw [upd_u2]
        rfl
  · cases h
theorem so_zast (B : Bx p l R s m meth c w mi sh0 sl0) (hdg : decode (mB mi) pc = .ok (.bastore, 1)) (h : s_iast mi pc lc st sh gi gl gr sl 101 = some y) (I : In w s sh0 sl0 mi lc (sh, gi, gl, gr) sl H locs ls) (K : KK p l e R s m args below meth c w sh0 sl0 Q (mi, y)) : W p l e R s m args below meth c H locs (sh.length - sh0) (sl - sl0) Q (F0 m pc ls (st.map (cv w.b w.base))) := by
  obtain ⟨hx, -, C, M, -, -, -⟩ := B
  unfold s_iast at h
  split at h
  · rename_i v i q r
    split at h
    · cases h
    · rename_i hc
      obtain ⟨n, hq, hin, h⟩ := ldI_inv h
      obtain rfl := go_inv h
      obtain ⟨q, rfl⟩ := ne0 I.1 hq (by omega)
      have hB : isB v = true := by
        cases hb : isB v
        · exact absurd (Or.inr ⟨rfl, hb⟩) hc
        · rfl
      refine va_zast hx M.2.1 C.2.1 I.1.2.1 wld_D I.2.1 q 1 (wz hq) (tyl1 _) hin hdg (fun H1 locs1 hP _ hS => K H1 locs1 ls ⟨I.1.wrote hq (u2_ne gi _ v) (fun _ _ => rfl) (fun _ _ => rfl) ?_ hP, hS, I.2.2⟩)
      rw [isB_vp hB, upd_u2]
      rfl
  · cases h
theorem so_last (B : Bx p l R s m meth c w mi sh0 sl0) (hdg : decode (mB mi) pc = .ok (.lastore, 1)) (h : s_last mi pc lc st sh gi gl gr sl = some y) (I : In w s sh0 sl0 mi lc (sh, gi, gl, gr) sl H locs ls) (K : KK p l e R s m args below meth c w sh0 sl0 Q (mi, y)) : W p l e R s m args below meth c H locs (sh.length - sh0) (sl - sl0) Q (F0 m pc ls (st.map (cv w.b w.base))) := by
  obtain ⟨hx, -, C, M, -, -, -⟩ := B
  unfold s_last at h
  split at h
  · rename_i v i q r
    split at h
    · cases h
    · rename_i hc
      obtain ⟨n, hq, hin, h⟩ := ldI_inv h
      obtain rfl := go_inv h
      obtain ⟨q, rfl⟩ := ne0 I.1 hq (by omega)
      refine va_last hx M.2.1 C.2.1 I.1.2.1 wld_D I.2.1 q 2 (wl hq) (tyl2 _) hin hdg (fun H1 locs1 hP _ hS => K H1 locs1 ls ⟨I.1.wrote hq (fun _ _ => rfl) (u2_ne gl _ v) (fun _ _ => rfl) ?_ hP, hS, I.2.2⟩)
      rw [updL_u2]
      rfl
  · cases h
theorem so_aast (hE : ∀ j, j < arN.length → elc (103 + j) < 10 ∧ ∃ r, kCl[elc (103 + j)]? = some r ∧ r.1 = arN.getD j "") (B : Bx p l R s m meth c w mi sh0 sl0) (hdg : decode (mB mi) pc = .ok (.aastore, 1)) (h : s_aast mi pc lc st sh gi gl gr sl = some y) (I : In w s sh0 sl0 mi lc (sh, gi, gl, gr) sl H locs ls) (K : KK p l e R s m args below meth c w sh0 sl0 Q (mi, y)) : W p l e R s m args below meth c H locs (sh.length - sh0) (sl - sl0) Q (F0 m pc ls (st.map (cv w.b w.base))) := by
  obtain ⟨hx, -, C, M, -, -, -⟩ := B
  unfold s_aast at h
  split at h
  · rename_i v i q r
    split at h
    · rename_i x n1 z n2 hq0 hv
      split at h
      · rename_i hcs
        obtain ⟨hx3, h9, hz⟩ := hcs
        obtain ⟨n, hq, hin, h⟩ := ldI_inv h
        obtain rfl := go_inv h
        obtain ⟨q, rfl⟩ := ne0 I.1 hq (by omega)
        obtain ⟨j, rfl⟩ : ∃ j, x = 103 + j := ⟨x - 103, by omega⟩
        have hj : j < arN.length := by
          show j < 3
          omega
        obtain ⟨e1, rc, e2, e3⟩ := hE j hj
        subst hz
        obtain ⟨v, rfl⟩ := ne0 I.1 hv (by omega)
        have hw := wr (gi := gi) (gl := gl) (gr := gr) (b := w.b) (base := w.base) (aC := w.aC) hx3 hq
        rw [show 103 + j - 100 = 3 + j by omega] at hw
        have ht := tyl3 w.aC hj
        rw [← e3] at ht
        refine va_astq hx M.2.1 C.2.1 I.1.2.1 wld_D I.2.1 q (3 + j) v (elc (103 + j)) hw ht (wo (by omega) hv) e2 hin hdg (fun H1 locs1 hP _ hS => K H1 locs1 ls ⟨I.1.wrote hq (fun _ _ => rfl) (fun _ _ => rfl) (u2_ne gr _ (some (v + 1))) ?_ hP, hS, I.2.2⟩)
        rw [cel_r hx3, show 103 + j - 100 = 3 + j by omega]
        exact congrArg (fun z => (Sum.inl (w.aC (3 + j), n, Sum.inr (Sum.inr (Sum.inr (Sum.inr z)))) : va_E)) (va_up_u2 gr (ad w.b w.base) (q + 1) i.toNatClampNeg (v + 1))
      · cases h
    · cases h
  · cases h
theorem so_len (B : Bx p l R s m meth c w mi sh0 sl0) (hdg : decode (mB mi) pc = .ok (.arraylength, 1)) (h : s_len mi pc lc st sh gi gl gr sl = some y) (I : In w s sh0 sl0 mi lc (sh, gi, gl, gr) sl H locs ls) (K : KK p l e R s m args below meth c w sh0 sl0 Q (mi, y)) : W p l e R s m args below meth c H locs (sh.length - sh0) (sl - sl0) Q (F0 m pc ls (st.map (cv w.b w.base))) := by
  obtain ⟨hx, -, C, M, -, -, -⟩ := B
  unfold s_len at h
  split at h
  · rename_i q r
    split at h
    · rename_i x n hq
      split at h
      · rename_i hx1
        obtain ⟨hx1, h9⟩ := hx1
        obtain rfl := go_inv h
        cases q with
        | zero =>
          have e := hq
          rw [I.1.2.2.1] at e
          have e2 : w.L = n := (Prod.mk.inj (Option.some.inj e)).2
          subst e2
          exact va_slen hx M.2.1 C.2.2.1 (Nat.lt_of_lt_of_le C.2.2.2.1 C.2.2.2.2.1) (Nat.not_le.mpr C.2.2.2.1) I.2.1 hdg (K H locs ls I)
        | succ q =>
          by_cases h0 : x = 100
          · subst h0
            exact va_alen hx M.2.1 C.2.1 I.1.2.1 q 0 (wi hq) (tyl0 _) rfl hdg (K H locs ls I)
          · by_cases h1 : x = 101
            · subst h1
              exact va_alen hx M.2.1 C.2.1 I.1.2.1 q 1 (wz hq) (tyl1 _) rfl hdg (K H locs ls I)
            · by_cases h2 : x = 102
              · subst h2
                exact va_alen hx M.2.1 C.2.1 I.1.2.1 q 2 (wl hq) (tyl2 _) rfl hdg (K H locs ls I)
              · have hx3 : 103 ≤ x := by omega
                obtain ⟨j, rfl⟩ : ∃ j, x = 103 + j := ⟨x - 103, by omega⟩
                have hj : j < arN.length := by
                  show j < 3
                  omega
                have hw := wr (gi := gi) (gl := gl) (gr := gr) (b := w.b) (base := w.base) (aC := w.aC) hx3 hq
                rw [show 103 + j - 100 = 3 + j by omega] at hw
                exact va_alen hx M.2.1 C.2.1 I.1.2.1 q (3 + j) hw (tyl3 _ hj) rfl hdg (K H locs ls I)
      · cases h
    · cases h
  · cases h
theorem ad_pos {b base k : Nat} (h : 0 < k) : ad b base k = base + (k - 1) := by
  cases k with
  | zero => omega
  | succ k => rfl
theorem In.grew {gi' : Nat → Nat → Int32} {gl' : Nat → Nat → Int64} {gr' : Nat → Nat → Option Nat} {H1 : Heap} {z : Nat × Nat} {n : Nat} (I : In w s sh0 sl0 mi lc (sh, gi, gl, gr) sl H locs ls) (hz : H.size = w.base + (sh.length - 1)) (z1 : H1.size = H.size + 1) (o1 : ∀ q, q < H.size → H1[q]? = H[q]?)
    (e1 : ∀ k, k ≠ sh.length → gi' k = gi k) (e2 : ∀ k, k ≠ sh.length → gl' k = gl k) (e3 : ∀ k, k ≠ sh.length → gr' k = gr k) (hat : va_at w.D kCl (w.base + (sh.length - 1), cel w.aC w.b w.base gi' gl' gr' sh.length z) H1) (hb : sh.length ≤ mxC) (hs : sl + n ≤ mxS) :
    In w s sh0 sl0 mi lc (sh ++ [z], gi', gl', gr') (sl + n) H1 locs ls := by
  obtain ⟨⟨r0, r1, r2, r3⟩, hS, hl, b1, b2, b3, b4⟩ := I
  have r0' : 0 < sh.length := r0
  have b1' : sh0 ≤ sh.length := b1
  refine ⟨⟨by simp, ?_, ?_, fun j hj => ?_⟩, ⟨Nat.le_trans hS.1 (by omega), fun x h1 h2 => (o1 x (Nat.lt_of_lt_of_le h1 hS.1)).trans (hS.2.1 x h1 h2), hS.2.2⟩, hl, by simp; omega, by simp; omega, by omega, hs⟩
  · show va_P w.D kCl (wld w.aC w.b w.base (sh ++ [z]) gi' gl' gr') H1
    rw [wld_app r0' e1 e2 e3]
    refine va_P.app (va_P.kept r1 (fun k x hx => o1 x.1 ((r1 k x hx).lt))) (fun k x hx => ?_)
    have hk : k < 1 := (List.getElem?_eq_some_iff.mp hx).1
    rw [show k = 0 by omega] at hx
    cases hx
    exact hat
  · show (sh ++ [z])[0]? = _
    rw [List.getElem?_append_left r0']
    exact r2
  · show gi' 0 j = _
    rw [e1 0 (by omega)]
    exact r3 j hj
theorem KK.grown {pc' n : Nat} {z : Nat × Nat} {gi' : Nat → Nat → Int32} {gl' : Nat → Nat → Int64} {gr' : Nat → Nat → Option Nat} {H1 : Heap} {r : List Value} (K : KK p l e R s m args below meth c w sh0 sl0 Q (mi, pc', lc, .ref sh.length :: r, (sh ++ [z], gi', gl', gr'), sl + n)) (h0 : 0 < sh.length) (h1 : sh0 ≤ sh.length) (h2 : sl0 ≤ sl)
    (I : In w s sh0 sl0 mi lc (sh ++ [z], gi', gl', gr') (sl + n) H1 locs ls) : W p l e R s m args below meth c H1 locs (sh.length - sh0 + 1) (sl - sl0 + n) Q (F0 m pc' ls (.ref (w.base + (sh.length - 1)) :: r.map (cv w.b w.base))) := by
  have k := K H1 locs ls I
  have e1 : (sh ++ [z]).length - sh0 = sh.length - sh0 + 1 := by simp; omega
  have e2 : sl + n - sl0 = sl - sl0 + n := by omega
  simp only [List.map_cons, e1, e2, cv, ad_pos h0] at k
  exact k
def okN (mi ix a b p : Nat) : Bool := match kCl[a]? with
  | some (C, _, N) => decide (a < 10) && decide (b = N) && wAt p (.classLink (mY mi).cls ix C)
  | none => false
theorem so_new {ix a b z : Nat} (hK9 : ∀ x, x < 10 → okK x = true) (B : Bx p l R s m meth c w mi sh0 sl0) (hdg : decode (mB mi) pc = .ok (.new ix, 3)) (ho : okN mi ix a b z = true) (h : s_new a b mi pc lc st sh gi gl gr sl = some y) (I : In w s sh0 sl0 mi lc (sh, gi, gl, gr) sl H locs ls) (K : KK p l e R s m args below meth c w sh0 sl0 Q (mi, y)) : W p l e R s m args below meth c H locs (sh.length - sh0) (sl - sl0) Q (F0 m pc ls (st.map (cv w.b w.base))) := by
  refine W.sized fun hsz => ?_
  have hz := In.size B I hsz
  obtain ⟨hx, -, C, M, Rm, -, -⟩ := B
  unfold okN at ho
  split at ho
  · rename_i Cn T N hc
    simp only [Bool.and_eq_true, decide_eq_true_eq] at ho
    obtain ⟨⟨o1, rfl⟩, o3⟩ := ho
    obtain ⟨k1, k2, k3, k4, k5, k6, k7⟩ := okK_spec hc (hK9 a o1)
    unfold s_new at h
    split at h
    · cases h
    · rename_i hcs
      obtain rfl := go_inv h
      have hcs1 : sh.length ≤ mxC := by omega
      have hcs2 : sl + b ≤ mxS := by omega
      have r0 : 0 < sh.length := I.1.1
      have b1 : sh0 ≤ sh.length := I.2.2.2.1
      have b3 : sl0 ≤ sl := I.2.2.2.2.2.1
      have hKn := C.2.1.1 a _ hc
      refine W.newcK hx M.2.1 M.1 (C.wd o3 rfl args) (C.wd k6 rfl args) (C.wd k7 rfl args) rfl hdg (by have := Rm.2.2.1; omega) (by have := Rm.2.2.2; omega) hKn.2.1 hz fun H1 kC hkC e1 z1 o9 => ?_
      refine K.grown r0 b1 b3 (I.grew hz (by rw [z1, hz]) (fun q hq => o9 q (by rw [← hz]; exact hq)) (rw0_ne gi 0) (rw0_ne gl 0) (rw0_ne gr none) ?_ hcs1 hcs2)
      rw [cel_o (by omega)]
      refine ⟨_, hc, (u_born (kYd a) (C.tb args) k5 hKn hkC e1 k2).to fun j hj => ?_⟩
      have hj' : j < b := hj
      have h9 := fldv_get (gi := rw0 gi sh.length 0) (gr := rw0 gr sh.length none) w.b w.base a sh.length (j := j) (by omega)
      have h8 := k3 j hj'
      unfold vp_V
      rw [List.getD_eq_getElem?_getD, h9, def_kty _ h8.2, h8.1, rw0_eq, rw0_eq]
      rfl
  · cases ho
theorem so_newa {t : ArrayType} {a : Nat} (ht : newarray.typeOf t = (match a with | 0 => FieldType.int | 1 => .boolean | _ => .long)) (ha : a < 3) (hwd : ∀ x, x ∈ [FieldType.int, .boolean, .long] → Cond.arrayClass x ∈ lw_tbl) (B : Bx p l R s m meth c w mi sh0 sl0) (hdg : decode (mB mi) pc = .ok (.newarray t, 2)) (h : s_newa 2 a mi pc lc st sh gi gl gr sl = some y) (I : In w s sh0 sl0 mi lc (sh, gi, gl, gr) sl H locs ls) (K : KK p l e R s m args below meth c w sh0 sl0 Q (mi, y)) : W p l e R s m args below meth c H locs (sh.length - sh0) (sl - sl0) Q (F0 m pc ls (st.map (cv w.b w.base))) := by
  refine W.sized fun hsz => ?_
  have hz := In.size B I hsz
  obtain ⟨hx, -, C, M, Rm, -, -⟩ := B
  unfold s_newa at h
  split at h
  · rename_i n r
    split at h
    · cases h
    · rename_i hcs
      obtain rfl := go_inv h
      simp only [not_or, Nat.not_lt] at hcs
      obtain ⟨hn, hcs1, hcs2, hcs3⟩ := hcs
      have r0 : 0 < sh.length := I.1.1
      have b1 : sh0 ≤ sh.length := I.2.2.2.1
      have b3 : sl0 ≤ sl := I.2.2.2.2.2.1
      have hmem : Cond.arrayClass (newarray.typeOf t) ∈ lw_tbl := by
        refine hwd _ ?_
        rw [ht]
        obtain rfl | rfl | rfl : a = 0 ∨ a = 1 ∨ a = 2 := by omega
        · exact List.mem_cons_self
        · exact List.mem_cons_of_mem _ List.mem_cons_self
        · exact List.mem_cons_of_mem _ (List.mem_cons_of_mem _ List.mem_cons_self)
      have hcb : componentBytes (newarray.typeOf t) ≤ 8 := by cases t <;> decide
      refine va_newaK hx M.2.1 (C.1 _ hmem rfl args) rfl hdg rfl hn rfl (Nat.le_trans (Nat.mul_le_mul hcs3 hcb) (by decide)) (by have := Rm.2.2.1; omega) (by have := Rm.2.2.2; omega) hz fun H1 cA e1 z1 o9 hAr hNm => ?_
      refine K.grown r0 b1 b3 (I.grew hz (by rw [z1, hz]) (fun q hq => o9 q (by rw [← hz]; exact hq)) (rw0_ne gi 0) (rw0_ne gl 0) (rw0_ne gr none) ?_ hcs1 hcs2)
      have hid : cA = w.aC a := by
        obtain rfl | rfl | rfl : a = 0 ∨ a = 1 ∨ a = 2 := by omega
        · have h9 : s.vm.findClass ("[" ++ FieldType.int.toString) = some (w.aC 0) := (C.2.1.2 0 _ (tyl0 _)).2
          rw [ht] at hNm
          exact Option.some.inj (hNm.symm.trans h9)
        · have h9 : s.vm.findClass ("[" ++ FieldType.boolean.toString) = some (w.aC 1) := (C.2.1.2 1 _ (tyl1 _)).2
          rw [ht] at hNm
          exact Option.some.inj (hNm.symm.trans h9)
        · have h9 : s.vm.findClass ("[" ++ FieldType.long.toString) = some (w.aC 2) := (C.2.1.2 2 _ (tyl2 _)).2
          rw [ht] at hNm
          exact Option.some.inj (hNm.symm.trans h9)
      rw [ht] at e1
      subst hid
      obtain rfl | rfl | rfl : a = 0 ∨ a = 1 ∨ a = 2 := by omega
      · show H1[w.base + (sh.length - 1)]? = some (vp_cell (w.aC 0) (n.toNatClampNeg, .inl (rw0 gi sh.length 0 sh.length)))
        rw [rw0_eq]
        exact e1
      · show H1[w.base + (sh.length - 1)]? = some (vp_cell (w.aC 1) (n.toNatClampNeg, .inl (rw0 gi sh.length 0 sh.length)))
        rw [rw0_eq]
        exact e1
      · show H1[w.base + (sh.length - 1)]? = some (vp_cell (w.aC 2) (n.toNatClampNeg, .inr (.inl (rw0 gl sh.length 0 sh.length))))
        rw [rw0_eq]
        exact e1
  · cases h
theorem so_anew {ix j z z2 : Nat} (hj : j < arN.length) (hw1 : wAt z (.classLink (mY mi).cls ix (arN.getD j "")) = true) (hw2 : wAt z2 (.arrayOver (.object (arN.getD j ""))) = true) (B : Bx p l R s m meth c w mi sh0 sl0) (hdg : decode (mB mi) pc = .ok (.anewarray ix, 3)) (h : s_newa 3 (3 + j) mi pc lc st sh gi gl gr sl = some y) (I : In w s sh0 sl0 mi lc (sh, gi, gl, gr) sl H locs ls) (K : KK p l e R s m args below meth c w sh0 sl0 Q (mi, y)) : W p l e R s m args below meth c H locs (sh.length - sh0) (sl - sl0) Q (F0 m pc ls (st.map (cv w.b w.base))) := by
  refine W.sized fun hsz => ?_
  have hz := In.size B I hsz
  obtain ⟨hx, -, C, M, Rm, -, -⟩ := B
  unfold s_newa at h
  split at h
  · rename_i n r
    split at h
    · cases h
    · rename_i hcs
      obtain rfl := go_inv h
      simp only [not_or, Nat.not_lt] at hcs
      obtain ⟨hn, hcs1, hcs2, hcs3⟩ := hcs
      have r0 : 0 < sh.length := I.1.1
      have b1 : sh0 ≤ sh.length := I.2.2.2.1
      have b3 : sl0 ≤ sl := I.2.2.2.2.2.1
      refine W.anew hx M.2.1 M.1 (C.wd hw1 rfl args) (C.wd hw2 rfl args) rfl hdg rfl hn (by omega) (by have := Rm.2.2.1; omega) (by have := Rm.2.2.2; omega) fun cA kA comp f1 f2 f3 f4 => ?_
      generalize hH1 : H.push ({ cls := cA, slots := Array.replicate n.toNatClampNeg .null, vm := .none } : Cell) = H1
      have z1 : H1.size = H.size + 1 := by rw [← hH1, Array.size_push]
      have e1 : H1[H.size]? = some (arrV cA n.toNatClampNeg (fun _ => .null)) := by rw [← hH1, Array.getElem?_push_size, ← arrV_new]
      have o1 : ∀ q : Nat, q < H.size → H1[q]? = H[q]? := fun q hq => by rw [← hH1, Array.getElem?_push, if_neg (Nat.ne_of_lt hq)]
      rw [hz] at e1
      show W p l e R s m args below meth c H1 locs (sh.length - sh0 + 1) (sl - sl0 + n.toNatClampNeg) Q (F0 m (pc + 3) ls (.ref H.size :: r.map (cv w.b w.base)))
      rw [hz]
      refine K.grown r0 b1 b3 (I.grew hz z1 o1 (rw0_ne gi 0) (rw0_ne gl 0) (rw0_ne gr none) ?_ hcs1 hcs2)
      have hid : cA = w.aC (3 + j) := by
        obtain ⟨_, _, -, -, -, h9⟩ := (C.2.1.2 (3 + j) _ (tyl3 _ hj)).2
        exact Option.some.inj (f1.symm.trans h9)
      subst hid
      rw [show 100 + (3 + j) = 103 + j by omega, cel_r (by omega), show 103 + j - 100 = 3 + j by omega, rw0_eq]
      exact e1
  · cases h
theorem so_obj {ix z : Nat} (hw1 : wAt z (.methodLink (mY mi).cls ix Lib.objectInit) = true) (hi : wAt (bP.getD 0 0) (.instanceMethod Lib.objectInit) = true) (hc : wAt (bP.getD 1 0) (.code Lib.objectInit ⟨#[0xb1]⟩ 1 none) = true) (hf : 1 ≤ nF mi) (hl : 20 ≤ nW mi) (B : Bx p l R s m meth c w mi sh0 sl0) (hdg : decode (mB mi) pc = .ok (.invokespecial ix, 3)) (h : s_obj mi pc lc st sh gi gl gr sl = some y) (I : In w s sh0 sl0 mi lc (sh, gi, gl, gr) sl H locs ls) (K : KK p l e R s m args below meth c w sh0 sl0 Q (mi, y)) : W p l e R s m args below meth c H locs (sh.length - sh0) (sl - sl0) Q (F0 m pc ls (st.map (cv w.b w.base))) := by
  obtain ⟨hx, -, C, M, Rm, -, -⟩ := B
  unfold s_obj at h
  split at h
  · rename_i q r
    split at h
    · cases h
    · rename_i hcs
      obtain rfl := go_inv h
      refine W.objInit hx M.2.1 M.1 (C.wd hw1 rfl args) (C.wd hi rfl args) (C.wd hc rfl args) rfl (by rw [M.2.2.1]; exact I.2.2.1.1) rfl hdg (Nat.le_trans hf Rm.1) ?_ (K H locs ls I)
      have h1 := Rm.2.1
      have h2 := cv_sum w.b w.base r
      show 2 * 0 + ((r.map (cv w.b w.base)).map fun v => v.category).sum + 12 ≤ R.locals
      omega
  · cases h
theorem so_min {ix z : Nat} (hw1 : wAt z (.methodLink (mY mi).cls ix Lib.Math.min.name) = true) (hi : wAt (bP.getD 2 0) (.static Lib.Math.min.name) = true) (hi2 : wAt (bP.getD 3 0) (.initialized "java/lang/Math") = true) (hc : wAt (bP.getD 4 0) (.code Lib.Math.min.name Lib.Math.min.code 2 (some .int)) = true) (hf : 1 ≤ nF mi) (hl : 21 ≤ nW mi) (B : Bx p l R s m meth c w mi sh0 sl0) (hdg : decode (mB mi) pc = .ok (.invokestatic ix, 3)) (h : s_min mi pc lc st sh gi gl gr sl = some y) (I : In w s sh0 sl0 mi lc (sh, gi, gl, gr) sl H locs ls) (K : KK p l e R s m args below meth c w sh0 sl0 Q (mi, y)) : W p l e R s m args below meth c H locs (sh.length - sh0) (sl - sl0) Q (F0 m pc ls (st.map (cv w.b w.base))) := by
  obtain ⟨hx, -, C, M, Rm, -, -⟩ := B
  unfold s_min at h
  split at h
  · rename_i v2 v1 r
    split at h
    · cases h
    · rename_i hcs
      obtain rfl := go_inv h
      have h1 := Rm.2.1
      have h2 := cv_sum w.b w.base r
      have h3 : sh0 ≤ sh.length := I.2.2.2.1
      have h4 : sh.length ≤ mxC + 1 := I.2.2.2.2.1
      have h5 : sl0 ≤ sl := I.2.2.2.2.2.1
      have h6 : sl ≤ mxS := I.2.2.2.2.2.2
      exact va_mmin hx M.2.1 (by rw [M.2.2.1]; exact I.2.2.1.1.symm) M.1 (C.wd hw1 rfl args) (C.wd hi rfl args) (C.wd hi2 rfl args) (C.wd hc rfl args) (Nat.le_trans hf Rm.1) (by omega) (by have := Rm.2.2.1; omega) (by have := Rm.2.2.2; omega) hdg (K H locs ls I)
  · cases h
theorem so_copy {ix z : Nat} (hw1 : wAt z (.methodLink (mY mi).cls ix arraycopyName) = true) (hi : wAt (bP.getD 5 0) (.native arraycopyName) = true) (hi1 : wAt (bP.getD 6 0) (.static arraycopyName) = true) (hi2 : wAt (bP.getD 7 0) (.initialized "java/lang/System") = true) (hf : 1 ≤ nF mi) (hl : 8 + (nativeFrameWords "java/lang/System" "arraycopy" 5 + 11) ≤ nW mi) (B : Bx p l R s m meth c w mi sh0 sl0) (hdg : decode (mB mi) pc = .ok (.invokestatic ix, 3)) (h : s_copy mi pc lc st sh gi gl gr sl = some y) (I : In w s sh0 sl0 mi lc (sh, gi, gl, gr) sl H locs ls) (K : KK p l e R s m args below meth c w sh0 sl0 Q (mi, y)) : W p l e R s m args below meth c H locs (sh.length - sh0) (sl - sl0) Q (F0 m pc ls (st.map (cv w.b w.base))) := by
  obtain ⟨hx, -, C, M, Rm, -, -⟩ := B
  unfold s_copy at h
  split at h
  · rename_i n dp q' sp q r
    split at h
    · rename_i y1 n1 y2 n2 hq hq'
      split at h
      · rename_i hcs
        obtain ⟨rfl, rfl, c1, c2, c3, c4, c5, c6, c7, c8⟩ := hcs
        obtain rfl := go_inv h
        cases q with
        | zero => exact absurd rfl c1
        | succ q =>
          cases q' with
          | zero => exact absurd rfl c2
          | succ q' =>
            have h1 := Rm.2.1
            have h2 := cv_sum w.b w.base r
            refine va_copyi hx M.2.1 (by rw [M.2.2.1]; exact I.2.2.1.1.symm) M.1 (C.wd hw1 rfl args) (C.wd hi rfl args) (C.wd hi1 rfl args) (C.wd hi2 rfl args) C.2.1 I.1.2.1 wld_D I.2.1 q q' 0 0 (wi hq) (wi hq') (tyl0 _) (tyl0 _) rfl c5 c4 c3 c6 c7 (fun _ _ => rfl) (Nat.le_trans hf Rm.1) (by omega) hdg
              (fun H1 locs1 hP _ hS => K H1 locs1 ls ⟨I.1.wrote hq' (cpy2_ne gi _ _ _ _) (fun _ _ => rfl) (fun _ _ => rfl) ?_ hP, hS, I.2.2⟩)
            rw [cpy_cpy2]
            rfl
      · cases h
    · cases h
  · cases h
end
end
section
/-! ends of a method: what it returns, what it throws; a handler of its own -/
section
variable {p : Program} {l : Launch} {e : Env} {R : Room} {s : State} {m : MethodId} {args : Array Value} {below : List Frame} {meth : Method} {c : Code} {Q : State → Prop}
variable {w : Wd} {mi sh0 sl0 pc : Nat} {lc : Lc} {st : List Value} {sh : List (Nat × Nat)} {gi : Nat → Nat → Int32} {gl : Nat → Nat → Int64} {gr : Nat → Nat → Option Nat} {sl : Nat} {H : Heap} {locs : List Loc} {ls : Array Slot} {o : Out}
theorem QQ.of (B : Bx p l R s m meth c w mi sh0 sl0) (I : In w s sh0 sl0 mi lc (sh, gi, gl, gr) sl H locs ls) (hz : H.size = w.base + (sh.length - 1)) {o : Out} (ho : o.2 = ((sh, gi, gl, gr), sl)) (hk : thk o) {t : State} (hrun : t.status = .running) (hend : Ended t below (oc w o.1)) (hW : s.WarmedH t.vm) (hH : t.heap = H) {L1 : List Loc} (hL : ∀ q ∈ L1, w.base ≤ q.base)
    (hs : s.sameButNew ({ t with vm := s.vm } : State) L1 (sh.length - sh0) (sl - sl0)) : QQ w below s sh0 sl0 o t := by
  obtain ⟨o1, o2⟩ := o
  have ho' : o2 = ((sh, gi, gl, gr), sl) := ho
  subst ho'
  refine ⟨hrun, hend, hW, by rw [hH]; exact I.1, by rw [hH]; exact hz, fun a ha => ?_, I.2.2.2.1, I.2.2.2.2.1, I.2.2.2.2.2.1, I.2.2.2.2.2.2, hk, L1, hL, hs⟩
  rw [hH]
  exact I.2.1.2.1 a (Nat.lt_of_lt_of_le ha B.2.2.1.2.2.2.2.1) (Nat.not_le.mpr ha)
theorem so_fin (B : Bx p l R s m meth c w mi sh0 sl0) (I : In w s sh0 sl0 mi lc (sh, gi, gl, gr) sl H locs ls) {v : Option Value} {g : JFrame}
    (h : W p l e R s m args below meth c H locs (sh.length - sh0) (sl - sl0) (MQ below (fun _ _ o t => o = .returned (v.map (cv w.b w.base)) ∧ t.heap = H ∧ s.WarmedH t.vm) args s (sh.length - sh0) (sl - sl0) (fun q => w.base ≤ q)) g) :
    W p l e R s m args below meth c H locs (sh.length - sh0) (sl - sl0) (QQ w below s sh0 sl0 (.inl v, (sh, gi, gl, gr), sl)) g := by
  refine W.sized fun hsz => ?_
  have hz := In.size B I hsz
  refine W.mono (fun t ht => ?_) h
  obtain ⟨o, h1, h2, ⟨rfl, h4, h5⟩, L1, h6, h7⟩ := ht
  obtain ⟨-, -, h8⟩ := h6
  exact QQ.of (o := (.inl v, (sh, gi, gl, gr), sl)) B I hz rfl trivial h1 h2 h5 h4 h7 h8
theorem so_iret (B : Bx p l R s m meth c w mi sh0 sl0) (hdg : decode (mB mi) pc = .ok (.ireturn, 1)) (h : s_iret mi st sh gi gl gr sl = some o) (I : In w s sh0 sl0 mi lc (sh, gi, gl, gr) sl H locs ls) : W p l e R s m args below meth c H locs (sh.length - sh0) (sl - sl0) (QQ w below s sh0 sl0 o) (F0 m pc ls (st.map (cv w.b w.base))) := by
  have B' := B
  obtain ⟨hx, -, C, M, -, -, -⟩ := B
  unfold s_iret at h
  split at h
  · rename_i v
    split at h
    · rename_i hc
      cases h
      refine so_fin B' I ?_
      rcases hc with hc | ⟨hc, hB⟩
      · have hr : meth.sig.returnType = some .int := by
          rw [M.2.2.2.1]
          revert hc
          unfold mZ
          cases mR mi with
          | none => intro hc; cases hc
          | some t => cases t <;> intro hc <;> first | rfl | (simp at hc)
        exact W.iret hx M.2.1 hr (fun t h1 h2 => ⟨rfl, h1, h2⟩) I.2.1.2.2 hdg M.2.2.2.2.1
      · have hr : meth.sig.returnType = some .boolean := by
          rw [M.2.2.2.1]
          revert hc
          unfold mZ
          cases mR mi with
          | none => intro hc; cases hc
          | some t => cases t <;> intro hc <;> first | rfl | (simp at hc)
        exact W.zret hx M.2.1 hr (isB_nar hB) (fun t h1 h2 => ⟨rfl, h1, h2⟩) I.2.1.2.2 hdg M.2.2.2.2.1
    · cases h
  · cases h
theorem so_vret (B : Bx p l R s m meth c w mi sh0 sl0) (hdg : decode (mB mi) pc = .ok (.return_, 1)) (h : s_vret mi st sh gi gl gr sl = some o) (I : In w s sh0 sl0 mi lc (sh, gi, gl, gr) sl H locs ls) : W p l e R s m args below meth c H locs (sh.length - sh0) (sl - sl0) (QQ w below s sh0 sl0 o) (F0 m pc ls (st.map (cv w.b w.base))) := by
  have B' := B
  obtain ⟨hx, -, C, M, -, -, -⟩ := B
  unfold s_vret at h
  split at h
  · split at h
    · rename_i hc
      cases h
      refine so_fin B' I ?_
      have hr : meth.sig.returnType = none := by
        rw [M.2.2.2.1]
        revert hc
        unfold mZ
        cases mR mi with
        | none => intro hc; rfl
        | some t => cases t <;> intro hc <;> simp at hc
      exact W.vret hx M.2.1 hr (fun t h1 h2 => ⟨rfl, h1, h2⟩) I.2.1.2.2 hdg M.2.2.2.2.1
    · cases h
  · cases h
theorem so_aret (B : Bx p l R s m meth c w mi sh0 sl0) (hdg : decode (mB mi) pc = .ok (.areturn, 1)) (h : s_aret mi st sh gi gl gr sl = some o) (I : In w s sh0 sl0 mi lc (sh, gi, gl, gr) sl H locs ls) : W p l e R s m args below meth c H locs (sh.length - sh0) (sl - sl0) (QQ w below s sh0 sl0 o) (F0 m pc ls (st.map (cv w.b w.base))) := by
  have B' := B
  obtain ⟨hx, -, C, M, -, -, -⟩ := B
  unfold s_aret at h
  split at h
  · rename_i q
    split at h
    · rename_i hc
      cases h
      refine so_fin B' I ?_
      have hr : ∃ rt, meth.sig.returnType = some rt ∧ ((∃ n, rt = .object n) ∨ ∃ t, rt = .array t) := by
        rw [M.2.2.2.1]
        revert hc
        unfold mZ
        cases mR mi with
        | none => intro hc; cases hc
        | some t => cases t <;> intro hc <;> first | exact ⟨_, rfl, Or.inl ⟨_, rfl⟩⟩ | exact ⟨_, rfl, Or.inr ⟨_, rfl⟩⟩ | (simp at hc)
      obtain ⟨rt, hr, hrt⟩ := hr
      exact W.aret hx M.2.1 hr hrt (Or.inr ⟨_, rfl⟩) (fun t h1 h2 => ⟨rfl, h1, h2⟩) I.2.1.2.2 hdg M.2.2.2.2.1
    · cases h
  · cases h
end
/-- the words of one exception's name, beside those of Throwable and of the constructors -/
def xAt (X : String) : List Cond := [.instantiable X 6, .selects X Bundle.tFill0 Bundle.tFill0, .selects X Bundle.tFill Bundle.tFill,
   .lays X Bundle.tN "cause" "Ljava/lang/Throwable;", .lays X Bundle.tN "stackTrace" Bundle.steD, .lays X Bundle.tN "suppressedExceptions" Bundle.listD, .lays X Bundle.tN "detailMessage" "Ljava/lang/String;",
   .fieldLink Bundle.tN 198 Bundle.tN "backtrace" "Ljava/lang/Object;", .lays Bundle.tN Bundle.tN "backtrace" "Ljava/lang/Object;", .lays X Bundle.tN "backtrace" "Ljava/lang/Object;"]
section
variable {p : Program} {l : Launch} {e : Env} {R : Room} {s : State} {m₀ : MethodId} {args : Array Value} {below : List Frame} {meth : Method} {c : Code} {U0 : State} {locs : List Loc} {cells slots : Nat}
set_option maxHeartbeats 1000000 in
theorem thr_ctor (X : Stand p l e R s m₀ args below meth c U0 locs cells slots) (hexec : p.tables.exec = Jvm.exec) (htr : e.platform.stackTraces = false) {own cls : String} {bytes : ByteArray} {ic n : Nat}
    (hown : s.vm.findClass own = some m₀.cls) (hcls : Bundle.fit cls = true) (hT : ∀ a ∈ Bundle.throwableAtoms, a.before args s = true) (hS : ∀ a ∈ Bundle.throwableSAtoms, a.before args s = true) (hX : ∀ a ∈ xAt cls, a.before args s = true)
    (hU : (Cond.isRef (.static Bundle.tN "UNASSIGNED_STACK" Bundle.steD)).before args s = true) (hN : (Cond.isRef (.static Bundle.tN "SUPPRESSED_SENTINEL" Bundle.listD)).before args s = true)
    (hml : (Cond.methodLink own ic (Bundle.initS cls)).before args s = true) (him : (Cond.instanceMethod (Bundle.initS cls)).before args s = true) (hco : (Cond.code (Bundle.initS cls) bytes 2 none).before args s = true)
    (hch : ∀ top : MethodId, s.methodNamed? (Bundle.initS Bundle.tN) = some top → ∃ (P1 : PassC) (Ps : List PassC), Ps.length = n ∧ P1.LinksS e.platform s ∧ (∀ P, P ∈ Ps → P.LinksS e.platform s) ∧ s.methodNamed? (Bundle.initS cls) = some P1.m ∧ P1.sup = firstOf top (Ps.map (·.toPassT)) ∧ PassesOn top (Ps.map (·.toPassT)))
    (hlocs : ∀ x ∈ locs, ∀ cell, s.heap[x.base]? = some cell → cell.vm.isStatics = false)
    {a : Addr} {cX : ClassId} {kX : Class} (hfX : s.vm.findClass cls = some cX) (hkX : s.vm.classes[cX]? = some kX) (hcell : U0.heap[a]? = some (freshCell cX kX)) (hnew : s.heap.size ≤ a)
    {msg : Value} (hmsg : msg.isRef = true) {g : JFrame} (hg : g.method = m₀) (hsize : g.locals.size = c.maxLocals) (hlocked : g.locked = none) (hentered : g.entered = []) {rest : List Value} (hstack : g.stack = msg :: .ref a :: .ref a :: rest)
    (hd6 : decode c.code g.pc = .ok (.invokespecial ic, 3)) (hd9 : decode c.code (g.pc + 3) = .ok (.athrow, 1)) (hout : ∀ x ∈ c.exceptionTable.toList, covers x (g.pc + 3) = false)
    (hRf : n + 3 < R.frames) (hRl : 2 * g.monitorRoom + ((Value.ref a :: rest).map fun v => v.category).sum + (13 * (n + 1) + 42) ≤ R.locals) (hlocks : meth.locks = false) :
    ∃ (U : State) (ce : Cell), Steps p.tables e below (U0.setTop g) U ∧ U.status = .running ∧ Ended U below (.threw a) ∧ s.WarmedH U.vm ∧ s.sameButNew ({ U with vm := s.vm } : State) locs cells slots ∧
      U.heap[a]? = some ce ∧ ce.vm = .none ∧ ce.cls = cX ∧ U.heap.size = U0.heap.size ∧ ∀ q, q ≠ a → U.heap[q]? = U0.heap[q]? := by
  have howns : e.platform.frameOwnsMonitors = true := by rw [X.admits.platform]
  have hfin : e.platform.finalization = false := by rw [X.admits.platform]
  have hpl : e.platform.magicAccessors = ({} : Platform).magicAccessors := by rw [X.admits.platform]
  have a' : ∀ x, x ∈ xAt cls → x.holds args s none s [] = true := fun x hx => hX x hx
  obtain ⟨T, Z0, L, -, Y⟩ := ThrowableC.of_atoms (args := args) howns hfin hpl hT
  obtain ⟨Z, M, LZ, LM, hnZ⟩ := Init0T.ofS_atoms (args := args) hpl L Y hS
  obtain ⟨P1, Ps, hlen, L1, hL, hP1m, hlink1, hlink⟩ := hch _ hnZ
  have hfound : s.vm.findClass cls = some P1.m.cls := findClass_of_methodNamed hP1m
  cases Option.some.inj (hfX.symm.trans hfound)
  obtain ⟨c1, kX', hc1, hk, hord, -, -, hn6⟩ := Cond.instantiable_spec (a' (.instantiable cls 6) (by simp [xAt]))
  cases Option.some.inj (hc1.symm.trans hfound)
  cases Option.some.inj (hkX.symm.trans hk)
  have hsel0 : selectMethod e.platform s.vm P1.m.cls T.fill0 = .method T.fill0 := by
    obtain ⟨c2, r2, m2, q1, q2, q3, q4, -⟩ := Cond.selects_spec (a' (.selects cls Bundle.tFill0 Bundle.tFill0) (by simp [xAt]))
    cases Option.some.inj (q1.symm.trans hfound)
    cases Option.some.inj (q2.symm.trans (State.methodFound?_of_named Y.fill0 (by decide)))
    cases Option.some.inj (q3.symm.trans Y.fill0)
    rw [Launch.admits_selectMethod X.admits]; exact q4
  have hselF : selectMethod e.platform s.vm P1.m.cls T.fill = .method T.fill := by
    obtain ⟨c2, r2, m2, q1, q2, q3, q4, -⟩ := Cond.selects_spec (a' (.selects cls Bundle.tFill Bundle.tFill) (by simp [xAt]))
    cases Option.some.inj (q1.symm.trans hfound)
    cases Option.some.inj (q2.symm.trans (State.methodFound?_of_named Y.fill (by decide)))
    cases Option.some.inj (q3.symm.trans Y.fill)
    rw [Launch.admits_selectMethod X.admits]; exact q4
  obtain ⟨cellS0, hcS0, hiss⟩ := Y.statics
  obtain ⟨u0, hu0⟩ := Cond.staticRefV Y.unassigned L.unassignedStatic L.statics hcS0 hiss hU
  obtain ⟨sen, hsen⟩ := Cond.staticRefV Y.sentinel L.sentinelStatic L.statics hcS0 hiss hN
  obtain ⟨ci198, i198, fB, hk198, hg198, ha198, hsB, -, hnB, htB, hffB⟩ := Cond.ownField (t := .object "java/lang/Object") Y.found L.cls (by decide +kernel) (a' (.fieldLink Bundle.tN 198 Bundle.tN "backtrace" "Ljava/lang/Object;") (by simp [xAt])) (a' (.lays Bundle.tN Bundle.tN "backtrace" "Ljava/lang/Object;") (by simp [xAt])) e.platform hpl
  obtain ⟨cellS, hcS', heS, -, hkeep⟩ := X.same.2.2.2.2.2 T.aS cellS0 hcS0
  have hcellS : U0.heap[T.aS]? = some cellS := hcS'
  have hout' : ∀ i, (⟨T.aS, i⟩ : Loc) ∉ locs := fun i hmem => by
    have := hlocs _ hmem cellS0 hcS0
    rw [hiss] at this; cases this
  have hknownS : cellS.vm ≠ .unknown := by
    rw [heS]; intro hu
    rw [show cellS0.vm = .unknown from hu] at hiss
    cases hiss
  have hneS : T.aS ≠ a := Nat.ne_of_lt (Nat.lt_of_lt_of_le (Array.getElem?_eq_some_iff.mp hcS0).1 hnew)
  obtain ⟨iM, hffM⟩ := Y.msg
  obtain ⟨tyC, dC, hdC, hdnC⟩ := Cond.laysAt hfound hk Y.cause (a' (.lays cls Bundle.tN "cause" "Ljava/lang/Throwable;") (by simp [xAt]))
  obtain ⟨tyS, dS, hdS, hdnS⟩ := Cond.laysAt hfound hk Y.stack (a' (.lays cls Bundle.tN "stackTrace" Bundle.steD) (by simp [xAt]))
  obtain ⟨tyP, dP, hdP, hdnP⟩ := Cond.laysAt hfound hk Y.supp (a' (.lays cls Bundle.tN "suppressedExceptions" Bundle.listD) (by simp [xAt]))
  obtain ⟨tyM, dM, hdM, hdnM⟩ := Cond.laysAt hfound hk hffM (a' (.lays cls Bundle.tN "detailMessage" "Ljava/lang/String;") (by simp [xAt]))
  obtain ⟨tyB, dB, hdB, hdnB⟩ := Cond.laysAt hfound hk hffB (a' (.lays cls Bundle.tN "backtrace" "Ljava/lang/Object;") (by simp [xAt]))
  have bC := Cond.laysApart hdB hdC hdnB hdnC (by rw [hnB, Y.causeName]; decide)
  have bS := Cond.laysApart hdB hdS hdnB hdnS (by rw [hnB, Y.stackName]; decide)
  have bP := Cond.laysApart hdB hdP hdnB hdnP (by rw [hnB, Y.suppName]; decide)
  have hskip : SkipFacts T e.platform s (fun u => u) u0 ((preparedCellV T.toThrowableT (freshCell P1.m.cls kX) a u0 sen).withEntry U0.cur) :=
    ⟨{ ci198 := ci198, i198 := i198, fBack := fB }, ⟨hk198, hg198, ha198, hsB⟩, by
      have := fresh_default (c := P1.m.cls) tyB
      rw [htB] at this
      simpa [preparedCellV, Cell.setSlot, Cell.withEntry, Array.getElem?_setIfInBounds, bC, bS, bP, bC.symm, bS.symm, bP.symm, defaultValue] using this, fun _ _ => rfl⟩
  obtain ⟨tm, methC, cdC, kC, vm₁, hnC, -, -, -, -, -, -, -, hW₁, st1⟩ := Steps.initColdS (tb := p.tables) (e := e) (below := below) (s := s) (U := U0) X.here hexec X.warmed hpl hown (t := Bundle.initS cls) rfl rfl (Bundle.fit_spec hcls).2
    hml him (bytes := bytes) (maxL := 2) hco (f := g) hg (a := a) (msg := msg) (rest := .ref a :: rest) hstack hd6
  cases Option.some.inj (hnC.symm.trans hP1m)
  have X₁ := X.noted hW₁
  obtain ⟨vm₂, X₂, st2⟩ := X₁.ctorMessageOffV hexec (g := { g with stack := .ref a :: rest }) hg hsize T L Z LZ M LM (P1 :: Ps)
    (fun P hP => by rcases List.mem_cons.mp hP with rfl | hP; exact L1; exact hL P hP) ⟨hlink1, hlink⟩ (u0 := u0) (sen := sen) (self := a) hmsg (cell := freshCell P1.m.cls kX) (cellS := cellS)
    hcell (fun _ => by simp) (by simp) rfl rfl hsel0 hselF hcellS hneS hknownS (by rw [hkeep _ (hout' _)]; exact hu0) (by rw [hkeep _ (hout' _)]; exact hsen)
    (Takes.of_laid hk hord tyC (by rw [Y.causeType]; rfl)) (Takes.of_laid hk hord tyS (by rw [Y.stackType]; exact fits_refV_array _ u0)) (Takes.of_laid hk hord tyP (by rw [Y.suppType]; exact fits_refV_object _ sen))
    (Takes.of_laid hk hord tyM (by rw [Y.msgType]; exact fits_refV_object _ ⟨msg, hmsg⟩)) Y.objLocals hskip htr [] hd6
    (by simp only [List.length_cons, hlen]; omega) (by simp only [List.length_cons, hlen]; exact hRl)
  obtain ⟨hwalk, hrun, hended, hWU, hsame⟩ := X₂.athrowLeaves hexec (g := { g with stack := .ref a :: rest, pc := g.pc + 3 }) hg hlocked hentered hout (a := a) (rest := rest) rfl hd9 hlocks
  have hlt : a < ((U0.setVm vm₁).setVm vm₂).heap.size := (Array.getElem?_eq_some_iff.mp hcell).1
  have hUc := heapAt_setCell_self (s := (U0.setVm vm₁).setVm vm₂) (plainBareV T.toThrowableT (freshCell P1.m.cls kX) a u0 sen msg) hlt
  refine ⟨_, _, st1 _ (fun acts => ?_), hrun, hended, hWU, hsame.weaken (fun y hy hlt' => ?_) (Nat.le_refl _) (Nat.le_refl _), hUc, rfl, rfl, size_setCell _ _ _, fun q hq => ?_⟩
  · rw [doInvoke_state]
    exact st2 _ hwalk
  · rcases List.mem_append.mp hy with h1 | h1
    · exact h1
    · exfalso
      have hb : y.base = a := by
        simp only [List.mem_cons, List.not_mem_nil, or_false] at h1
        rcases h1 with rfl | rfl | rfl | rfl | rfl <;> rfl
      rw [hb] at hlt'
      exact Nat.not_lt.mpr hnew hlt'
  · exact State.heap_setCell_other hq.symm
end
/-- how an entry of the table stands to what is thrown -/
def ctP (pl : Platform) (s₀ : State) (d thr : ClassId) (q : ExceptionTableEntry) (yes : Bool) : Prop := q.catchType ≠ 0 ∧ ∃ x, s₀.vm.ClassLinks pl d q.catchType x ∧ s₀.vm.assignable thr x = yes
def ctF (pl : Platform) (s₀ : State) (d thr : ClassId) (pc pc' : Nat) : List ExceptionTableEntry → Prop
  | [] => False
  | q :: t => (covers q pc = false ∧ ctF pl s₀ d thr pc pc' t) ∨ (covers q pc = true ∧ ctP pl s₀ d thr q true ∧ q.handlerPc = pc') ∨ (covers q pc = true ∧ ctP pl s₀ d thr q false ∧ ctF pl s₀ d thr pc pc' t)
theorem ct_one {Q : Handler → Pre} {E : CtlPost} {e : Env} {d : Bool} {acts : List Action} {s : State} {f : JFrame} {a : Addr} {x : ExceptionTableEntry} {t : List ExceptionTableEntry} {cT : ClassId} {cell : Cell} {yes : Bool} (hx : covers x f.pc = true) (h0 : x.catchType ≠ 0)
    (hl : s.vm.ClassLinks e.platform f.method.cls x.catchType cT) (hcell : s.heap[a]? = some cell) (hobj : ∀ k, cell.vm ≠ .statics k) (hk : ∃ k, s.vm.classes[cell.cls]? = some k) (hc : ∃ k, s.vm.classes[cT]? = some k) (hfit : s.vm.assignable cell.cls cT = yes) :
    wp (findHandler.go f a (x :: t)) Q E e d acts s ↔ (if yes = true then Q (.found x.handlerPc) d acts (s.setVm (s.vm.noted f.method.cls x.catchType (.cls cT))) else wp (findHandler.go f a t) Q E e d acts (s.setVm (s.vm.noted f.method.cls x.catchType (.cls cT)))) := by
  simp only [covers] at hx
  obtain ⟨ha, ht⟩ := (resolveClass_links e.toSetting hl).op (op := VmOp.resolveClass f.method.cls x.catchType) rfl
  have hal : s.vm.Alike (s.vm.noted f.method.cls x.catchType (.cls cT)) := (Vm.Alike.refl s.vm).noted _ _ _
  obtain ⟨k1, hk1⟩ := hk
  obtain ⟨k2, hk2⟩ := hc
  obtain ⟨k1', hk1', -⟩ := hal.2.2 _ _ hk1
  obtain ⟨k2', hk2', -⟩ := hal.2.2 _ _ hk2
  have hfit' : (s.vm.noted f.method.cls x.catchType (.cls cT)).assignable cell.cls cT = yes := by rw [hal.assignable]; exact hfit
  cases yes <;> simp [findHandler.go, hx, h0, ha, ht, hcell, hobj, hk1', hk2', hfit', VmOp.dirties, VmOp.acts]
theorem ct_find {e : Env} {s₀ : State} {f : JFrame} {a : Addr} {cell : Cell} {pc' : Nat} (hobj : ∀ k, cell.vm ≠ .statics k) (hk0 : ∃ k, s₀.vm.classes[cell.cls]? = some k) : ∀ (tb : List ExceptionTableEntry) (S : State), s₀.WarmedH S.vm → S.heap[a]? = some cell → ctF e.platform s₀ f.method.cls cell.cls f.pc pc' tb →
    ∃ vm', s₀.WarmedH vm' ∧ ∀ (Q : Handler → Pre) (E : CtlPost) (d : Bool) (acts : List Action), wp (findHandler.go f a tb) Q E e d acts S ↔ Q (.found pc') d acts (S.setVm vm') := by
  obtain ⟨k0, hk0⟩ := hk0
  intro tb
  induction tb with
  | nil => intro S _ _ h; exact h.elim
  | cons x t ih =>
    intro S hW hcell h
    obtain ⟨k0', hk0', -⟩ := hW.alike.2.2 _ _ hk0
    rcases h with ⟨hx, h⟩ | ⟨hx, ⟨h0, cT, hl, hfit⟩, rfl⟩ | ⟨hx, ⟨h0, cT, hl, hfit⟩, h⟩
    · obtain ⟨vm', hW', hq⟩ := ih S hW hcell h
      exact ⟨vm', hW', fun Q E d acts => by rw [Jvm.W.findHandler_go_skip hx]; exact hq Q E d acts⟩
    · obtain ⟨dk, _, _, kt, hd, _, _, _, _, hkt, _, hopen⟩ := hl.here
      obtain ⟨kt', hkt', -⟩ := hW.alike.2.2 _ _ hkt
      exact ⟨_, hW.noted hd hopen (State.rightAt_cls hl), fun Q E d acts => by
        rw [ct_one (yes := true) hx h0 (hW.classLinks hl) hcell hobj ⟨k0', hk0'⟩ ⟨kt', hkt'⟩ (by rw [hW.alike.assignable]; exact hfit), if_pos rfl]⟩
    · obtain ⟨dk, _, _, kt, hd, _, _, _, _, hkt, _, hopen⟩ := hl.here
      obtain ⟨kt', hkt', -⟩ := hW.alike.2.2 _ _ hkt
      obtain ⟨vm', hW', hq⟩ := ih (S.setVm (S.vm.noted f.method.cls x.catchType (.cls cT))) (hW.noted hd hopen (State.rightAt_cls hl)) hcell h
      exact ⟨vm', hW', fun Q E d acts => by
        rw [ct_one (yes := false) hx h0 (hW.classLinks hl) hcell hobj ⟨k0', hk0'⟩ ⟨kt', hkt'⟩ (by rw [hW.alike.assignable]; exact hfit), if_neg (by decide)]
        exact hq Q E d acts⟩
section
variable {p : Program} {l : Launch} {e : Env} {R : Room} {s : State} {m : MethodId} {args : Array Value} {below : List Frame} {meth : Method} {c : Code} {T : State} {locs : List Loc} {cells slots : Nat}
theorem ct_caught (X : Stand p l e R s m args below meth c T locs cells slots) (a : Addr) {g : JFrame} (hg : g.method = m) {cell : Cell} {pc' : Nat} (hcell : T.heap[a]? = some cell) (hobj : cell.vm = .none) (hk0 : ∃ k, s.vm.classes[cell.cls]? = some k)
    (hf : ctF e.platform s m.cls cell.cls g.pc pc' c.exceptionTable.toList) :
    ∃ vm', Stand p l e R s m args below meth c (T.setVm vm') locs cells slots ∧ ∀ target, Steps p.tables e below ((T.setVm vm').setTop { g with pc := pc', stack := [.ref a] }) target → Steps p.tables e below ((T.setTop g).pushFrame (.throwing a)) target := by
  subst hg
  obtain ⟨vm', hW', hq⟩ := ct_find (e := e) (s₀ := s) (f := g) (a := a) (cell := cell) (pc' := pc') (fun k => by rw [hobj]; simp) hk0 c.exceptionTable.toList ((T.setTop g).pushFrame (.throwing a)) X.warmed hcell hf
  have hF : ∀ (Q : Handler → Pre) (E : CtlPost) (d : Bool) (acts : List Action), wp (findHandler g a) Q E e d acts ((T.setTop g).pushFrame (.throwing a)) ↔ Q (.found pc') d acts (((T.setTop g).pushFrame (.throwing a)).setVm vm') := fun Q E d acts => by
    rw [Jvm.W.findHandler_eq (s := (T.setTop g).pushFrame (.throwing a)) (f := g) (meth := meth) (code := c) X.method' X.code]
    exact hq Q E d acts
  refine ⟨vm', X.noted hW', fun target hrest => ?_⟩
  obtain ⟨hgo, hw⟩ := X.here.throwing a
  refine Steps.head hgo hw ?_
  have hst : (stepThrowing e ((T.setTop g).pushFrame (.throwing a)) a (.java g :: T.frames.tail)).1 = (((T.setTop g).pushFrame (.throwing a)).setVm vm').setFrames (.java { g with pc := pc', stack := [.ref a] } :: T.frames.tail) := by
    simp only [stepThrowing, searchFrame, vmDo]
    generalize hr : Sem.go _ e false [] ((T.setTop g).pushFrame (.throwing a)) = res
    obtain ⟨as, rfl, ha⟩ := Sem.eq_ok_of hr (a := Handler.found pc') (s' := ((T.setTop g).pushFrame (.throwing a)).setVm vm') (acts' := []) (by simp [hF _ _ _ _])
    rfl
  rw [stepThread_throwing (frames_entered X.here.top _), hst]
  obtain ⟨g₀, hg⟩ := Option.isSome_iff_exists.mp X.here.top
  obtain ⟨r, hr⟩ := State.topJava?_eq_some.mp hg
  have hr' : (T.setVm vm').frames = .java g₀ :: r := hr
  rw [State.setTop_of_frames _ hr'] at hrest
  rw [State.pushFrame, State.setTop_of_frames _ hr, hr]
  have e1 : ∀ (u : State) (F G : List Frame), ((u.setFrames F).setVm vm').setFrames G = (u.setVm vm').setFrames G := by
    intro u F G
    have h1 : (u.setFrames F).setVm vm' = (u.setVm vm').setFrames F := rfl
    rw [h1, State.setFrames_setFrames]
  rw [State.setFrames_setFrames, e1]
  exact hrest
end
end
section
/-! throws, calls, handlers -/
def exI (E : Nat) : Nat := if E = 2 then 13 else 7
def exB (E : Nat) : ByteArray := if E = 2 then ⟨#[0x2a, 0x2b, 0xb7, 0x00, 0x0d, 0xb1]⟩ else Bundle.six
def noSt (z : Cond) : Bool := match z with
  | .laysStatic .. => false
  | _ => true
def rtN : String := "java/lang/RuntimeException"
def excN : String := "java/lang/Exception"
def exWs (E : Nat) : List Cond := .initialized (exN E) :: (xAt (exN E) ++ (Bundle.passSAtoms (exN E) rtN (exI E) (exB E) ++ (Bundle.chainSAtoms rtN [excN] ++ (Bundle.throwableSAtoms ++ Bundle.throwableAtoms.filter noSt))))
theorem thr_st : ∀ a ∈ Bundle.throwableAtoms, noSt a = true ∨ a = .laysStatic Bundle.tN "UNASSIGNED_STACK" Bundle.steD ∨ a = .laysStatic Bundle.tN "SUPPRESSED_SENTINEL" Bundle.listD := by decide +kernel
theorem ex_fit : ∀ E, E < 3 → Bundle.fit (exN E) = true := by decide +kernel
theorem ex_d0 : ∀ E, E < 3 → decode (exB E) 0 = .ok (.aload_n 0, 1) := by decide +kernel
theorem ex_d1 : ∀ E, E < 3 → decode (exB E) 1 = .ok (.aload_n 1, 1) := by decide +kernel
theorem ex_d2 : ∀ E, E < 3 → decode (exB E) 2 = .ok (.invokespecial (exI E), 3) := by decide +kernel
theorem ex_d5 : ∀ E, E < 3 → decode (exB E) 5 = .ok (.return_, 1) := by decide +kernel
theorem ex_kCl : ∀ E, E < 3 → kCl[10 + E]? = some (exN E, kFE, 0) := by
  intro E hE
  obtain rfl | rfl | rfl : E = 0 ∨ E = 1 ∨ E = 2 := by omega
  · rfl
  · rfl
  · rfl
theorem e900 (E : Nat) : 900 + E - 900 = E := Nat.add_sub_cancel_left 900 E
theorem e890 (E : Nat) : 900 + E - 890 = 10 + E := by omega
def ldI' (d i : Nat) : Instr := if d = 0 then .ldc i else .ldc_w i
def okTd (d mi pc ix a b k p : Nat) : Bool := decide (900 ≤ a) && decide (a < 903) && wAt p (.classLink (mY mi).cls ix (exN (a - 900))) && decide (hX mi = []) && decide (6 ≤ nF mi) && decide (91 ≤ nW mi) && decide (decode (mB mi) (pc + 3) = .ok (.dup, 1)) && decide (decode (mB mi) (pc + 6 + d + 3) = .ok (.athrow, 1)) &&
  (match lw_tbl[b]? with
    | some (.stringRef o i _) => decide (o = (mY mi).cls) && decide (decode (mB mi) (pc + 4) = .ok (ldI' d i, 2 + d))
    | _ => false) &&
  (match lw_tbl[k]? with
    | some (.methodLink o i z) => decide (o = (mY mi).cls) && decide (z = Bundle.initS (exN (a - 900))) && decide (decode (mB mi) (pc + 6 + d) = .ok (.invokespecial i, 3))
    | _ => false)
def okT (mi pc ix a b k p : Nat) : Bool := okTd 0 mi pc ix a b k p || okTd 1 mi pc ix a b k p
theorem ldc_any {p : Program} {l : Launch} {e : Env} {R : Room} {s : State} {m : MethodId} {args : Array Value} {below : List Frame} {meth : Method} {c : Code} {T : State} {locs : List Loc} {cells slots : Nat} (X : Stand p l e R s m args below meth c T locs cells slots) (hexec : p.tables.exec = Jvm.exec) {own text : String} {index d : Nat} {a : Addr} (hd : d = 0 ∨ d = 1) (hown : s.vm.findClass own = some m.cls)
    (hconst : (Cond.stringRef own index text).before args s = true) (hev : (Term.string own index).eval args s none [] s = some (.ref a)) {g : JFrame} (hg : g.method = m) (hdg : decode c.code g.pc = .ok (ldI' d index, 2 + d)) :
    ∀ target, Steps p.tables e below (T.setTop { g with pc := g.pc + 2 + d, stack := .ref a :: g.stack }) target → Steps p.tables e below (T.setTop g) target := by
  rcases hd with rfl | rfl
  · exact X.ldcString hexec hown hconst hev hg hdg
  · obtain ⟨k, cf, i, a', hk, hcf, hcp, -, hr, hev'⟩ := Cond.stringRef_spec hown hconst
    cases hev.symm.trans hev'
    obtain ⟨k', hk', he⟩ := X.warmed.alike.2.2 _ _ hk
    have hr' : k'.resolved[index]? = some (some (.string a)) := by
      rcases X.warmed.entry hk hk' index with h | ⟨h, -⟩
      · rw [h]; exact hr
      · rw [hr] at h; cases h
    have hdg' : decode c.code g.pc = .ok (.ldc_w index, 3) := hdg
    intro target hrest
    subst hg
    jvm_step X.here [hexec, hdg', ldc_w.wp_string (e := e) (s := T) (f := g) X.here.top hk' (by rw [he]; exact hcf) hcp hr']
    exact hrest
section
variable {p : Program} {l : Launch} {e : Env} {R : Room} {s : State} {m : MethodId} {args : Array Value} {below : List Frame} {meth : Method} {c : Code} {Q : State → Prop}
variable {w : Wd} {mi sh0 sl0 pc : Nat} {lc : Lc} {st : List Value} {sh : List (Nat × Nat)} {gi : Nat → Nat → Int32} {gl : Nat → Nat → Int64} {gr : Nat → Nat → Option Nat} {sl : Nat} {H : Heap} {locs : List Loc} {ls : Array Slot} {o : Out}
theorem so_throwD {d ix a b k z : Nat} (hd01 : d = 0 ∨ d = 1) (hEx : ∀ E, E < 3 → ∀ v ∈ exWs E, v ∈ lw_tbl ∧ okw v = true) (B : Bx p l R s m meth c w mi sh0 sl0) (hdg : decode (mB mi) pc = .ok (.new ix, 3)) (ho : okTd d mi pc ix a b k z = true) (h : s_thr a st sh gi gl gr sl = some o) (I : In w s sh0 sl0 mi lc (sh, gi, gl, gr) sl H locs ls) :
    W p l e R s m args below meth c H locs (sh.length - sh0) (sl - sl0) (QQ w below s sh0 sl0 o) (F0 m pc ls (st.map (cv w.b w.base))) := by
  refine W.sized fun hsz => ?_
  have hz := In.size B I hsz
  have B' := B
  obtain ⟨hx, hl, C, M, Rm, -, -⟩ := B
  unfold okTd at ho
  simp only [Bool.and_eq_true, decide_eq_true_eq] at ho
  obtain ⟨⟨⟨⟨⟨⟨⟨⟨⟨o1, o2⟩, o3⟩, o4⟩, o5⟩, o6⟩, o7⟩, o8⟩, o9⟩, o10⟩ := ho
  obtain ⟨E, rfl⟩ : ∃ E, a = 900 + E := ⟨a - 900, by omega⟩
  have e900 := e900 E
  have e890 := e890 E
  unfold s_thr at h
  rw [e900] at o3 h
  rw [e890] at h
  simp only [e900] at o10
  split at o9
  · rename_i own1 is tx hstr
    simp only [Bool.and_eq_true, decide_eq_true_eq] at o9
    obtain ⟨rfl, o9⟩ := o9
    split at o10
    · rename_i own2 ic iy hml
      simp only [Bool.and_eq_true, decide_eq_true_eq] at o10
      obtain ⟨⟨rfl, rfl⟩, o10⟩ := o10
      split at h
      · cases h
      · rename_i hcs
        cases h
        have hE : E < 3 := by omega
        have wds : ∀ v ∈ exWs E, v.before args s = true := fun v hv => C.1 v (hEx E hE v hv).1 (hEx E hE v hv).2 args
        have r0 : 0 < sh.length := I.1.1
        have b1 : sh0 ≤ sh.length := I.2.2.2.1
        have b3 : sl0 ≤ sl := I.2.2.2.2.2.1
        have hcs1 : sh.length ≤ mxC := by omega
        have hcs2 : sl + 6 ≤ mxS := by omega
        have hcs3 : wsum st ≤ 8 := by omega
        intro T hT X
        have htr : e.platform.stackTraces = false := (show e.platform.stackTraces = l.stackTraces by rw [X.admits.platform]).trans hl
        have hpl : e.platform.magicAccessors = ({} : Platform).magicAccessors := by rw [X.admits.platform]
        obtain ⟨vm₁, cX, kX, hfX, hkX, -, -, X₁, st1⟩ := X.newCold hx (own := (mY mi).cls) (C := exN E) (index := ix) (n := 6) M.1 (C.wd o3 rfl args) (wds _ (by simp [exWs, xAt])) (wds _ (by simp [exWs]))
          (g := F0 m pc ls (st.map (cv w.b w.base))) rfl (by rw [M.2.1]; exact hdg) (by have := Rm.2.2.1; omega) (by have := Rm.2.2.2; omega)
        generalize hT1 : (T.setVm vm₁).pushCell { cls := cX, slots := kX.instanceTypes.map defaultValue, vm := .none } = T1 at X₁ st1
        have hTs : T.heap.size = w.base + (sh.length - 1) := by rw [hT]; exact hz
        have hcell : T1.heap[T.heap.size]? = some (freshCell cX kX) := by rw [← hT1]; exact State.heap_pushCell_size _ _
        have hsz1 : T1.heap.size = T.heap.size + 1 := by rw [← hT1]; exact size_pushCell _ _
        have hold : ∀ q, q < T.heap.size → T1.heap[q]? = T.heap[q]? := fun q hq => by
          rw [← hT1]
          show ((T.setVm vm₁).heap.push _)[q]? = _
          rw [Array.getElem?_push, if_neg (by show ¬ q = T.heap.size; omega)]
          rfl
        have hcat : (Value.ref T.heap.size).category = 1 := rfl
        have hsum := cv_sum w.b w.base st
        have d3' : decode c.code (pc + 3) = .ok (.dup, 1) := by rw [M.2.1]; exact o7
        have d4' : decode c.code (pc + 4) = .ok (ldI' d is, 2 + d) := by rw [M.2.1]; exact o9
        have hsw : (Cond.stringRef (mY mi).cls is tx).before args s = true := C.1 _ (List.mem_of_getElem? hstr) rfl args
        obtain ⟨_, _, _, sa, -, -, -, -, -, hev⟩ := Cond.stringRef_spec M.1 hsw
        have htab : c.exceptionTable.toList = [] := by
          have h9 := M.2.2.2.2.2.2
          rw [o4] at h9
          exact List.map_eq_nil_iff.mp h9
        have hfr : 6 ≤ R.frames := Nat.le_trans o5 Rm.1
        have hlo : 91 ≤ R.locals := Nat.le_trans o6 Rm.2.1
        obtain ⟨U, ce, hsteps, hrun, hend, hW, hsame, hce, hcv, hcc, hUs, hUo⟩ := thr_ctor X₁ hx htr (own := (mY mi).cls) (cls := exN E) (bytes := exB E) (ic := ic) (n := 2) M.1 (ex_fit E hE)
          (fun v hv => by
            rcases thr_st v hv with h9 | h9 | h9
            · exact wds v (by simp [exWs, hv, h9])
            · rw [h9]; exact C.2.2.2.2.2.2.1.lay
            · rw [h9]; exact C.2.2.2.2.2.2.2.1.lay)
          (fun v hv => wds v (by simp [exWs, hv])) (fun v hv => wds v (by simp [exWs, hv])) C.2.2.2.2.2.2.1.ref C.2.2.2.2.2.2.2.1.ref
          (C.1 _ (List.mem_of_getElem? hml) rfl args) (wds _ (by simp [exWs, Bundle.passSAtoms])) (wds _ (by simp [exWs, Bundle.passSAtoms]))
          (fun top htop => by
            obtain ⟨P, L, hm, hs⟩ := PassC.ofS_atoms (args := args) (s := s) hpl (X := exN E) (Y := rtN) (Bundle.fit_spec (ex_fit E hE)).1 (by decide) (ex_d0 E hE) (ex_d1 E hE) (ex_d2 E hE) (ex_d5 E hE) (fun v hv => wds v (by simp [exWs, hv]))
            obtain ⟨P', Ps, hlen, L', hL, hm', hsup, hpass⟩ := Bundle.chainS (args := args) hpl htop [excN] rtN (by decide) (by decide) (fun v hv => wds v (by simp [exWs, hv]))
            refine ⟨P, P' :: Ps, by simp [hlen], L, ?_, hm, Option.some.inj (hs.symm.trans hm'), hsup, hpass⟩
            intro q hq
            rcases List.mem_cons.mp hq with rfl | hq
            · exact L'
            · exact hL q hq)
          (fun q hq cell hc9 => by rw [C.2.2.2.2.2.1 _ cell (I.2.1.2.2 q hq) hc9]; rfl) hfX hkX hcell (by rw [hT]; exact I.2.1.1) (msg := .ref sa) rfl
          (g := { method := m, pc := pc + 6 + d, locals := ls, stack := .ref sa :: .ref T.heap.size :: .ref T.heap.size :: st.map (cv w.b w.base), locked := none }) rfl (by rw [M.2.2.1]; exact I.2.2.1.1) rfl rfl rfl
          (by rw [M.2.1]; exact o10) (by rw [M.2.1]; exact o8) (fun q hq => by rw [htab] at hq; cases hq) (by omega)
          (by show 2 * 0 + _ + _ ≤ _; simp only [List.map_cons, List.sum_cons, hcat]; omega) M.2.2.2.2.1
        have hlt : ∀ q, q < H.size → U.heap[q]? = H[q]? := fun q hq => by
          rw [← hT] at hq ⊢
          rw [hUo q (Nat.ne_of_lt hq), hold q hq]
        have I' : In w s sh0 sl0 mi lc (sh ++ [(10 + E, 0)], gi, gl, gr) (sl + 6) U.heap locs ls := by
          refine I.grew hz (by rw [hUs, hsz1, hT]) hlt (fun _ _ => rfl) (fun _ _ => rfl) (fun _ _ => rfl) ?_ hcs1 hcs2
          rw [cel_o (by omega)]
          refine ⟨_, ex_kCl E hE, ce, ?_, ?_, hcv, fun j hj => absurd hj (Nat.not_lt_zero j)⟩
          · show U.heap[w.base + (sh.length - 1)]? = some ce
            rw [← hTs]; exact hce
          · rw [hcc]
            exact Option.some.inj (hfX.symm.trans (C.2.1.1 (10 + E) _ (ex_kCl E hE)).2.1)
        refine ⟨U, ?_, ?_⟩
        · refine st1 _ ?_
          show Steps p.tables e below (T1.setTop { method := m, pc := pc + 3, locals := ls, stack := .ref T.heap.size :: st.map (cv w.b w.base), locked := none }) _
          jvm_step X₁.here [X₁.here.top, hx, d3', Value.category]
          exact ldc_any X₁ hx (own := (mY mi).cls) (text := tx) (index := is) (a := sa) hd01 M.1 hsw hev
            (g := { method := m, pc := pc + 4, locals := ls, stack := .ref T.heap.size :: .ref T.heap.size :: st.map (cv w.b w.base), locked := none }) rfl d4' _ hsteps
        · refine QQ.of B' I' (by rw [hUs, hsz1, hTs]; simp; omega) rfl ?_ hrun ?_ hW rfl (L1 := locs) I.2.1.2.2 ?_
          · refine ⟨?_, by show sh.length ≠ 0; omega, hE⟩
            show (sh ++ [(10 + E, 0)])[sh.length]? = some (10 + E, 0)
            simp
          · show Ended U below (.threw (ad w.b w.base sh.length))
            rw [ad_pos r0, ← hTs]
            exact hend
          · have e1 : (sh ++ [(10 + E, 0)]).length - sh0 = sh.length - sh0 + 1 := by simp; omega
            have e2 : sl + 6 - sl0 = sl - sl0 + 6 := by omega
            rw [e1, e2]
            exact hsame
    · cases o10
  · cases o9
theorem so_throw {ix a b k z : Nat} (hEx : ∀ E, E < 3 → ∀ v ∈ exWs E, v ∈ lw_tbl ∧ okw v = true) (B : Bx p l R s m meth c w mi sh0 sl0) (hdg : decode (mB mi) pc = .ok (.new ix, 3)) (ho : okT mi pc ix a b k z = true) (h : s_thr a st sh gi gl gr sl = some o) (I : In w s sh0 sl0 mi lc (sh, gi, gl, gr) sl H locs ls) :
    W p l e R s m args below meth c H locs (sh.length - sh0) (sl - sl0) (QQ w below s sh0 sl0 o) (F0 m pc ls (st.map (cv w.b w.base))) := by
  unfold okT at ho
  rw [Bool.or_eq_true] at ho
  rcases ho with ho | ho
  · exact so_throwD (Or.inl rfl) hEx B hdg ho h I
  · exact so_throwD (Or.inr rfl) hEx B hdg ho h I
end
theorem wsum_rev (l : List Value) : wsum l.reverse = wsum l := by
  unfold wsum
  rw [List.map_reverse, List.sum_reverse_nat]
theorem steps_wk {tb : Tables} {e : Env} {f : Frame} {below : List Frame} {s s' : State} (h : Steps tb e (f :: below) s s') : Steps tb e below s s' := by
  obtain ⟨n, h1, h2⟩ := h
  exact ⟨n, h1, fun k hk => Within.weaken (mid := [f]) (h2 k hk)⟩
theorem cvl_args (w : Wd) : ∀ (as : List Value) (i : Nat), cvl w (lv_args i as) = lv_args i (as.map (cv w.b w.base))
  | [], _ => rfl
  | v :: t, i => by
    show (i, cv w.b w.base v) :: cvl w (lv_args (if v.category = 2 then i + 2 else i + 1) t) = (i, cv w.b w.base v) :: lv_args (if (cv w.b w.base v).category = 2 then i + 2 else i + 1) (t.map (cv w.b w.base))
    rw [cv_cat, cvl_args w t]
theorem sl_len (vs : List Value) : (lg_sl vs).length = (vs.map fun v => v.category).sum := by
  induction vs with
  | nil => rfl
  | cons v t ih =>
    have e1 : lg_sl (v :: t) = (if v.category = 2 then [.val v, .second] else [.val v]) ++ lg_sl t := by simp [lg_sl]
    rw [e1, List.length_append, ih, List.map_cons, List.sum_cons]
    rcases lv_cat v with h | h <;> simp [h]
def cdOk (p : Nat) (y : MethodName) (bs : ByteArray) (n : Nat) (r : Option FieldType) (h : List (Nat × Nat × Nat × Nat)) : Bool := match h with
  | [] => wAt p (.code y bs n r)
  | h => wAt p (.codeWith y bs n r h)
def mS (i : Nat) : Nat := mSl.getD i 9
def mA (i : Nat) : Nat := mAl.getD i 0
def mP (i : Nat) : Nat × Nat × Nat × Nat := mPl.getD i (0, 0, 0, 0)
def mhN : String := "java/lang/invoke/MethodHandle"
def vhN : String := "java/lang/invoke/VarHandle"
def okM (a : Nat) : Bool := cdOk (mP a).1 (mY a) (mB a) (mL a) (mR a) (hX a) && plainName (mY a).cls && decide ((mY a).cls ≠ mhN) && decide ((mY a).cls ≠ vhN) && decide ((parseMethodDescriptor (mY a).desc).map (fun d => d.parameters.length) = some (mA a)) &&
  (hXl.getD a []).all (fun q => decide (q.2.2.2.1 ≠ 0) && decide (q.2.2.2.2.1 < 3) && wAt q.2.2.2.2.2 (.classLink (mY a).cls q.2.2.2.1 (exN q.2.2.2.2.1))) &&
  (match mS a with
    | 0 => wAt (mP a).2.1 (.static (mY a)) && wAt (mP a).2.2.2 (.initialized (mY a).cls)
    | 1 => wAt (mP a).2.1 (.instanceMethod (mY a)) && wAt (mP a).2.2.1 (.selects (mY a).cls (mY a) (mY a)) && decide (mK a < 10) && decide ((kCl[mK a]?).map (fun q => q.1) = some (mY a).cls)
    | 2 => wAt (mP a).2.1 (.instanceMethod (mY a)) && decide ((mY a).name = "<init>") && decide (hX a = []) && decide (mR a = none) && decide (mK a < 10)
    | _ => false)
def okL (p ix : Nat) (own : String) (y : MethodName) : Bool := match lw_tbl[p]? with
  | some (.methodLink o i z) => decide (o = own) && decide (i = ix) && decide (z = y)
  | some (.methodLinkNest o i z _) => decide (o = own) && decide (i = ix) && decide (z = y)
  | _ => false
def okC (mi ix a b k p : Nat) : Bool := okL p ix (mY mi).cls (mY a) && decide (mS a = k) && decide (b = mA a) && decide (nF a + 1 ≤ nF mi) && decide (8 + (mL a + 11) + nW a ≤ nW mi) && decide (a < mYl.length) && decide (0 < a)
theorem okM_facts {w : Wd} {s : State} {a : Nat} (C : Cx w s) (h : okM a = true) : ∃ (mk : MethodId) (methk : Method) (ck : Code), s.methodNamed? (mY a) = some mk ∧ s.vm.method? mk = some methk ∧ methk.code = some ck ∧ ck.code = mB a ∧ ck.maxLocals = mL a ∧ ck.exceptionTable.toList.map (fun h => (h.startPc, h.endPc, h.handlerPc, h.catchType)) = hX a ∧ methk.sig.returnType = mR a ∧ methk.locks = false ∧ parseMethodDescriptor (mY a).desc = some methk.sig := by
  unfold okM at h
  simp only [Bool.and_eq_true] at h
  have h1 := h.1.1.1.1.1.1
  unfold cdOk at h1
  have key : (Cond.codeWith (mY a) (mB a) (mL a) (mR a) (hX a)).before #[] s = true := by
    split at h1
    · rename_i e9
      rw [e9]
      have h2 : (Cond.code (mY a) (mB a) (mL a) (mR a)).before #[] s = true := C.wd h1 rfl #[]
      unfold Cond.before Cond.holds at h2 ⊢
      rw [← Cond.code_iff_codeWith_nil]
      exact h2
    · exact C.wd h1 rfl #[]
  exact Cond.codeWith_spec key
section
variable {p : Program} {l : Launch} {e : Env} {R : Room} {s : State} {m : MethodId} {args : Array Value} {below : List Frame} {meth : Method} {c : Code} {Q : State → Prop}
variable {w : Wd} {mi sh0 sl0 pc : Nat} {lc : Lc} {st : List Value} {h0 : Hp} {sl : Nat} {H : Heap} {locs : List Loc} {ls : Array Slot}
/-- what the callee's run gives, whatever its start -/
abbrev IHc (p : Program) (l : Launch) (e : Env) (w : Wd) (mj : Nat) (as : List Value) (h0 : Hp) (sl : Nat) (r : Out) : Prop :=
  ∀ (R' : Room) (s' : State) (m' : MethodId) (args' : Array Value) (below' : List Frame) (meth' : Method) (c' : Code) (H' : Heap) (locs' : List Loc) (ls' : Array Slot), Bx p l R' s' m' meth' c' w mj h0.1.length sl → In w s' h0.1.length sl mj (lv_args 0 as) h0 sl H' locs' ls' →
    W p l e R' s' m' args' below' meth' c' H' locs' (h0.1.length - h0.1.length) (sl - sl) (QQ w below' s' h0.1.length sl r) (F0 m' 0 ls' [])
/-- the callee has thrown: its note lies over the caller's frame -/
abbrev KT (p : Program) (l : Launch) (e : Env) (R : Room) (s : State) (m : MethodId) (args : Array Value) (below : List Frame) (meth : Method) (c : Code) (w : Wd) (sh0 sl0 : Nat) (Q : State → Prop) (mi pc : Nat) (lc : Lc) (ls : Array Slot) (rest : List Value) (q : Nat × Nat) (hs : Hp × Nat) : Prop :=
  ∀ (T : State) (locs : List Loc), In w s sh0 sl0 mi lc hs.1 hs.2 T.heap locs ls → T.heap.size = w.base + (hs.1.1.length - 1) → Stand p l e R s m args below meth c T locs (hs.1.1.length - sh0) (hs.2 - sl0) → ∃ t, Steps p.tables e below ((T.setTop (F0 m pc ls rest)).pushFrame (.throwing (ad w.b w.base q.1))) t ∧ Q t
theorem call_core {T₁ : State} {mk : MethodId} {methk : Method} {ck : Code} {mj : Nat} {as : List Value} {rest : List Value} {r : Out} {ig : Instr} (B : Bx p l R s m meth c w mi sh0 sl0) (I : In w s sh0 sl0 mi lc h0 sl H locs ls) (hT : T₁.heap = H) (hz : H.size = w.base + (h0.1.length - 1)) (X : Stand p l e R s m args below meth c T₁ locs (h0.1.length - sh0) (sl - sl0)) (hdg : decode (mB mi) pc = .ok (ig, 3))
    (hn : s.methodNamed? (mY mj) = some mk) (hm : s.vm.method? mk = some methk) (hc : methk.code = some ck) (c1 : ck.code = mB mj) (c2 : ck.maxLocals = mL mj) (c3 : ck.exceptionTable.toList.map (fun h => (h.startPc, h.endPc, h.handlerPc, h.catchType)) = hX mj) (c4 : methk.sig.returnType = mR mj) (c5 : methk.locks = false)
    (hpn : plainName (mY mj).cls = true) (hf : nF mj + 1 ≤ nF mi) (hl : 8 + (mL mj + 11) + nW mj ≤ nW mi) (hw1 : wsum rest ≤ 8) (hw2 : wsum as ≤ mL mj) (IH : IHc p l e w mj as h0 sl r)
    (Kr : ∀ v, r.1 = .inl v → KK p l e R s m args below meth c w sh0 sl0 Q (mi, pc + 3, lc, v.toList ++ rest, r.2)) (Kt : ∀ q, r.1 = .inr q → r.2.1.1[q.1]? = some (10 + q.2, 0) → q.1 ≠ 0 → q.2 < 3 → KT p l e R s m args below meth c w sh0 sl0 Q mi pc lc ls (rest.map (cv w.b w.base)) q r.2) :
    ∃ t, (∀ acts, Steps p.tables e below (doInvoke e (T₁.setTop (F0 m pc ls (rest.map (cv w.b w.base)))) acts mk (as.map (cv w.b w.base)).toArray).1 t) ∧ Q t := by
  have B' := B
  obtain ⟨hx, htr, C, M, Rm, hsh0, hs0⟩ := B
  have b1 := I.2.2.2.1
  have b2 := I.2.2.2.2.1
  have b3 := I.2.2.2.2.2.1
  have b4 := I.2.2.2.2.2.2
  have hsum := cv_sum w.b w.base rest
  have hal := X.warmed.alike
  have hmk : T₁.vm.method? mk = some methk := by rw [hal.method?]; exact hm
  have hpk : T₁.plainMethod mk := State.plainMethod.of_name (fun k hk => by
    obtain ⟨k', hk', hnm⟩ := className_of_methodNamed hn
    obtain ⟨k2, hk2, he⟩ := hal.2.2 _ _ hk'
    cases hk.symm.trans hk2
    rw [he]
    show plainName k'.name = true
    rw [hnm]
    exact hpn)
  obtain ⟨Y, hin⟩ := X.into (g := F0 m pc ls (rest.map (cv w.b w.base))) rfl (by rw [M.2.2.1]; exact I.2.2.1.1) (ig := ig) (len := 3) (by rw [M.2.1]; exact hdg) (as.map (cv w.b w.base)).toArray (R' := { frames := nF mj, locals := nW mj, cells := mxC + 1 - h0.1.length, slots := mxS - sl }) hmk hc c5 hpk
    (Nat.le_trans hf Rm.1) (by
      show 2 * 0 + ((rest.map (cv w.b w.base)).map fun v => v.category).sum + (ck.maxLocals + 11) + nW mj ≤ R.locals
      rw [c2]
      have := Rm.2.1
      omega) (by show _ + (mxC + 1 - h0.1.length) ≤ _; have := Rm.2.2.1; omega) (by show _ + (mxS - sl) ≤ _; have := Rm.2.2.2; omega)
  have hhe : (T₁.calling (F0 m pc ls (rest.map (cv w.b w.base))) mk (as.map (cv w.b w.base)).toArray).heap = H := hT
  have hbelow : ∀ a, a < w.base → H[a]? = s.heap[a]? := fun a ha => I.2.1.2.1 a (Nat.lt_of_lt_of_le ha C.2.2.2.2.1) (Nat.not_le.mpr ha)
  have Bk : Bx p l { frames := nF mj, locals := nW mj, cells := mxC + 1 - h0.1.length, slots := mxS - sl } (T₁.calling (F0 m pc ls (rest.map (cv w.b w.base))) mk (as.map (cv w.b w.base)).toArray) mk methk ck w mj h0.1.length sl := by
    refine ⟨hx, htr, C.moved (h := h0) X.warmed (by rw [hhe]; exact I.1) (by rw [hhe]; exact hz) (fun a ha => by rw [hhe]; exact hbelow a ha), ⟨?_, c1, c2, c4, c5, (name_of_methodNamed hn hm).1, c3⟩, ⟨Nat.le_refl _, Nat.le_refl _, ?_, ?_⟩, I.1.1, by rw [hhe]; exact hz⟩
    · show T₁.vm.findClass (mY mj).cls = some mk.cls
      rw [hal.findClass]
      exact findClass_of_methodNamed hn
    · show mxC + 1 - h0.1.length + h0.1.length = mxC + 1
      omega
    · show mxS - sl + sl = mxS
      omega
  have hent := lg_entry_eq mk (as.map (cv w.b w.base)) ck.maxLocals
  have hlv := lv_entry (as.map (cv w.b w.base)) (n := ck.maxLocals) (by rw [sl_len, cv_sum, c2]; exact hw2)
  rw [hent] at hin Y
  generalize hls : ((lg_sl (as.map (cv w.b w.base)) ++ List.replicate (ck.maxLocals - (lg_sl (as.map (cv w.b w.base))).length) Slot.unset).toArray) = lsk at hin Y hlv
  have Ik : In w (T₁.calling (F0 m pc ls (rest.map (cv w.b w.base))) mk (as.map (cv w.b w.base)).toArray) h0.1.length sl mj (lv_args 0 as) h0 sl H [] lsk := ⟨I.1, by rw [hhe]; exact va_S.rf, by rw [cvl_args, ← c2]; exact hlv, Nat.le_refl _, b2, Nat.le_refl _, b4⟩
  have hk := IH _ _ mk (as.map (cv w.b w.base)).toArray (.java (F0 m pc ls (rest.map (cv w.b w.base))) :: below) methk ck H [] lsk Bk Ik
  rw [Nat.sub_self, Nat.sub_self] at hk
  obtain ⟨t, hsteps, hrun, hend, hW, hr, hrz, hrb, q1, q2, q3, q4, hth, L1, hL1, hsame⟩ := hk ((T₁.setTop (F0 m pc ls (rest.map (cv w.b w.base)))).pushFrame (.java (F0 mk 0 lsk []))) hT Y
  have hback : Steps p.tables e below (((T₁.setTop (F0 m pc ls (rest.map (cv w.b w.base)))).pushFrame (.java (F0 mk 0 lsk []))).setTop (F0 mk 0 lsk [])) t := steps_wk hsteps
  have hI : ∀ T' : State, T'.heap = t.heap → In w s sh0 sl0 mi lc r.2.1 r.2.2 T'.heap (locs ++ L1) ls := fun T' hT' => by
    refine ⟨by rw [hT']; exact hr, ⟨by rw [hT', hrz, hs0]; omega, fun a ha hA => ?_, fun q hq => ?_⟩, I.2.2.1, by omega, q2, by omega, q4⟩
    · rw [hT', hrb a (Nat.not_le.mp hA), hhe]
      exact hbelow a (Nat.not_le.mp hA)
    · rcases List.mem_append.mp hq with h9 | h9
      · exact I.2.1.2.2 q h9
      · exact hL1 q h9
  have e1 : h0.1.length - sh0 + (r.2.1.1.length - h0.1.length) = r.2.1.1.length - sh0 := by omega
  have e2 : sl - sl0 + (r.2.2 - sl) = r.2.2 - sl0 := by omega
  cases hr1 : r.1 with
  | inl v =>
    rw [hr1] at hend
    obtain ⟨T', X', -, -, ht⟩ := X.outOf (g := F0 m pc ls (rest.map (cv w.b w.base))) rfl (ig := ig) (len := 3) (by rw [M.2.1]; exact hdg) hend hW hsame
    rw [e1, e2] at X'
    have hTh : T'.heap = t.heap := by rw [ht]; rfl
    obtain ⟨t2, s2, hq2⟩ := Kr v hr1 T'.heap (locs ++ L1) ls (hI T' hTh) T' rfl X'
    refine ⟨t2, fun acts => ?_, hq2⟩
    rw [hin acts]
    refine hback.trans ?_
    rw [ht]
    have e3 : (v.map (cv w.b w.base)).toList ++ rest.map (cv w.b w.base) = (v.toList ++ rest).map (cv w.b w.base) := by cases v <;> rfl
    show Steps p.tables e below (T'.setTop (F0 m (pc + 3) ls ((v.map (cv w.b w.base)).toList ++ rest.map (cv w.b w.base)))) t2
    rw [e3]
    exact s2
  | inr q =>
    rw [hr1] at hend
    unfold thk at hth
    rw [hr1] at hth
    obtain ⟨T', X', -, -, ht⟩ := X.outOfThrown (g := F0 m pc ls (rest.map (cv w.b w.base))) rfl hend hW hsame
    rw [e1, e2] at X'
    have hTh : T'.heap = t.heap := by rw [ht]; exact (Stand.throwing_heap _ _ _).symm
    obtain ⟨t2, s2, hq2⟩ := Kt q hr1 hth.1 hth.2.1 hth.2.2 T' (locs ++ L1) (hI T' hTh) (by rw [hTh]; exact hrz) X'
    refine ⟨t2, fun acts => ?_, hq2⟩
    rw [hin acts]
    refine hback.trans ?_
    rw [ht]
    exact s2
end
section
variable {p : Program} {l : Launch} {e : Env} {R : Room} {s : State} {m : MethodId} {args : Array Value} {below : List Frame} {meth : Method} {c : Code} {Q : State → Prop}
variable {w : Wd} {mi sh0 sl0 pc : Nat} {lc : Lc} {st : List Value} {sh : List (Nat × Nat)} {gi : Nat → Nat → Int32} {gl : Nat → Nat → Int64} {gr : Nat → Nat → Option Nat} {sl : Nat} {H : Heap} {locs : List Loc} {ls : Array Slot} {y : Cg}
theorem okM_desc {a b : Nat} (h : okM a = true) (hb : b = mA a) {sig : MethodDescriptor} (hs : parseMethodDescriptor (mY a).desc = some sig) : b = sig.parameters.length := by
  unfold okM at h
  simp only [Bool.and_eq_true, decide_eq_true_eq] at h
  have h1 := h.1.1.2
  rw [hs] at h1
  rw [hb]
  exact (Option.some.inj h1).symm
theorem so_callS {ix a b z : Nat} {as : List Value} {mj : Nat} {r : Out} (B : Bx p l R s m meth c w mi sh0 sl0) (I : In w s sh0 sl0 mi lc (sh, gi, gl, gr) sl H locs ls) (hdg : decode (mB mi) pc = .ok (.invokestatic ix, 3)) (ho : okC mi ix a b 0 z = true) (hM : okM a = true) (h : s_call a b pc lc st sh gi gl gr sl 0 = some (mj, as, y))
    (IH : IHc p l e w mj as (sh, gi, gl, gr) sl r) (Kr : ∀ v, r.1 = .inl v → KK p l e R s m args below meth c w sh0 sl0 Q (mi, y.1 + 3, y.2.1, v.toList ++ y.2.2.1, r.2))
    (Kt : ∀ q, r.1 = .inr q → r.2.1.1[q.1]? = some (10 + q.2, 0) → q.1 ≠ 0 → q.2 < 3 → KT p l e R s m args below meth c w sh0 sl0 Q mi y.1 y.2.1 ls (y.2.2.1.map (cv w.b w.base)) q r.2) (ha : a < 9000) :
    W p l e R s m args below meth c H locs (sh.length - sh0) (sl - sl0) Q (F0 m pc ls (st.map (cv w.b w.base))) := by
  refine W.sized fun hsz => ?_
  have hz := In.size B I hsz
  have B' := B
  obtain ⟨hx, htr, C, M, Rm, hsh0, hs0⟩ := B
  unfold s_call at h
  rw [if_neg (by omega), if_pos rfl] at h
  split at h
  · rename_i hcs
    obtain ⟨hb, hw1, hw2⟩ := hcs
    cases h
    unfold okC okL at ho
    simp only [Bool.and_eq_true, decide_eq_true_eq] at ho
    obtain ⟨⟨⟨⟨⟨⟨o1, o2⟩, o3⟩, o4⟩, o5⟩, -⟩, -⟩ := ho
    obtain ⟨mk, methk, ck, hn, hm, hc, c1, c2, c3, c4, c5, c6⟩ := okM_facts C hM
    have hM' := hM
    unfold okM at hM'
    rw [o2] at hM'
    simp only [Bool.and_eq_true, decide_eq_true_eq] at hM'
    obtain ⟨⟨⟨⟨⟨⟨-, m2⟩, m3⟩, m4⟩, -⟩, -⟩, m7, m8⟩ := hM'
    have hstat := Cond.static_spec hn hm (C.wd m7 rfl args)
    obtain ⟨kP, hkP, -⟩ := className_of_methodNamed hn
    have hini : kP.init = .initialized := Cond.initialized_spec (findClass_of_methodNamed hn) hkP (C.wd m8 rfl args)
    have hlen : ((st.take b).reverse.map (cv w.b w.base)).length = methk.sig.parameters.length := by
      rw [← okM_desc hM o3 c6]
      simp [hb]
    have hstk : (F0 m pc ls (st.map (cv w.b w.base))).stack = ((st.take b).reverse.map (cv w.b w.base)).reverse ++ (st.drop b).map (cv w.b w.base) := by
      show st.map (cv w.b w.base) = _
      rw [List.map_reverse, List.reverse_reverse, ← List.map_append, List.take_append_drop]
    have hw2' : wsum (st.take b).reverse ≤ mL a := by
      rw [wsum_rev]
      exact hw2
    intro T hT X
    have fin : ∀ vm₁, Stand p l e R s m args below meth c (T.setVm vm₁) locs (sh.length - sh0) (sl - sl0) → ∃ t, (∀ acts, Steps p.tables e below (doInvoke e ((T.setVm vm₁).setTop (F0 m pc ls ((st.drop b).map (cv w.b w.base)))) acts mk ((st.take b).reverse.map (cv w.b w.base)).toArray).1 t) ∧ Q t := fun vm₁ X₁ =>
      call_core (h0 := (sh, gi, gl, gr)) (mj := a) (as := (st.take b).reverse) (rest := st.drop b) (r := r) (ig := .invokestatic ix) B' I hT hz X₁ hdg hn hm hc c1 c2 c3 c4 c5 m2 o4 o5 hw1 hw2' IH Kr Kt
    split at o1
    · rename_i o9 i9 y9 hlk
      simp only [Bool.and_eq_true, decide_eq_true_eq] at o1
      obtain ⟨⟨rfl, rfl⟩, rfl⟩ := o1
      obtain ⟨vm₁, X₁, st1⟩ := X.invokestatic hx M.1 (C.1 _ (List.mem_of_getElem? hlk) rfl args) hn hm hstat hkP hini ⟨m3, m4⟩ (g := F0 m pc ls (st.map (cv w.b w.base))) rfl hlen hstk (by rw [M.2.1]; exact hdg)
      obtain ⟨t, h1, h2⟩ := fin vm₁ X₁
      exact ⟨t, st1 t h1, h2⟩
    · rename_i o9 i9 y9 host9 hlk
      simp only [Bool.and_eq_true, decide_eq_true_eq] at o1
      obtain ⟨⟨rfl, rfl⟩, rfl⟩ := o1
      obtain ⟨vm₁, X₁, st1⟩ := X.invokestaticNest hx M.1 (C.1 _ (List.mem_of_getElem? hlk) rfl args) hn hm hstat hkP hini ⟨m3, m4⟩ (g := F0 m pc ls (st.map (cv w.b w.base))) rfl hlen hstk (by rw [M.2.1]; exact hdg)
      obtain ⟨t, h1, h2⟩ := fin vm₁ X₁
      exact ⟨t, st1 t h1, h2⟩
    · cases o1
  · cases h
theorem drop_head {b q : Nat} {st : List Value} (h : (st.drop b).head? = some (.ref q)) : st.drop b = .ref q :: st.drop (b + 1) := by
  cases hd : st.drop b with
  | nil => rw [hd] at h; cases h
  | cons v t =>
    rw [hd] at h
    have h1 : v = .ref q := Option.some.inj h
    rw [h1, ← List.drop_drop, hd]
    rfl
theorem so_callV {ix a b z : Nat} {as : List Value} {mj : Nat} {r : Out} (B : Bx p l R s m meth c w mi sh0 sl0) (I : In w s sh0 sl0 mi lc (sh, gi, gl, gr) sl H locs ls) (hdg : decode (mB mi) pc = .ok (.invokevirtual ix, 3)) (ho : okC mi ix a b 1 z = true) (hM : okM a = true) (h : s_call a b pc lc st sh gi gl gr sl 1 = some (mj, as, y))
    (IH : IHc p l e w mj as (sh, gi, gl, gr) sl r) (Kr : ∀ v, r.1 = .inl v → KK p l e R s m args below meth c w sh0 sl0 Q (mi, y.1 + 3, y.2.1, v.toList ++ y.2.2.1, r.2))
    (Kt : ∀ q, r.1 = .inr q → r.2.1.1[q.1]? = some (10 + q.2, 0) → q.1 ≠ 0 → q.2 < 3 → KT p l e R s m args below meth c w sh0 sl0 Q mi y.1 y.2.1 ls (y.2.2.1.map (cv w.b w.base)) q r.2) (ha : a < 9000) :
    W p l e R s m args below meth c H locs (sh.length - sh0) (sl - sl0) Q (F0 m pc ls (st.map (cv w.b w.base))) := by
  refine W.sized fun hsz => ?_
  have hz := In.size B I hsz
  have B' := B
  obtain ⟨hx, htr, C, M, Rm, hsh0, hs0⟩ := B
  unfold s_call at h
  rw [if_neg (by omega), if_neg (by decide)] at h
  split at h
  · rename_i q hhd
    split at h
    · rename_i x n9 hq
      split at h
      · rename_i hcs
        obtain ⟨rfl, hb, hw1, hw2⟩ := hcs
        cases h
        unfold okC okL at ho
        simp only [Bool.and_eq_true, decide_eq_true_eq] at ho
        obtain ⟨⟨⟨⟨⟨⟨o1, o2⟩, o3⟩, o4⟩, o5⟩, -⟩, -⟩ := ho
        obtain ⟨mk, methk, ck, hn, hm, hc, c1, c2, c3, c4, c5, c6⟩ := okM_facts C hM
        have hM' := hM
        unfold okM at hM'
        rw [o2] at hM'
        simp only [Bool.and_eq_true, decide_eq_true_eq] at hM'
        obtain ⟨⟨⟨⟨⟨⟨-, m2⟩, m3⟩, m4⟩, -⟩, -⟩, ⟨⟨m7, m8⟩, m9⟩, m10⟩ := hM'
        obtain ⟨mk', methk', hn', hm', hst', hab'⟩ := Cond.instanceMethod_spec (C.wd m7 rfl args)
        cases hn.symm.trans hn'
        cases hm.symm.trans hm'
        obtain ⟨q, rfl⟩ := ne0 I.1 hq (by omega)
        obtain ⟨rc, hrc, hrn⟩ := Option.map_eq_some_iff.mp m10
        have hwq := wo (gi := gi) (gl := gl) (gr := gr) (b := w.b) (base := w.base) (aC := w.aC) (show mK a < 100 by omega) hq
        obtain ⟨cell, g1, g2, g3⟩ := va_recv C.2.1 I.1.2.1 hrc hwq
        rw [hrn] at g3
        obtain ⟨s1, s2, s3, q1, q2, q3, q4, kP, hkP, hkPi⟩ := Cond.selects_spec (C.wd m8 rfl args)
        cases g3.symm.trans q1
        cases (State.methodFound?_of_named hn ⟨m3, m4⟩).symm.trans q2
        cases hn.symm.trans q3
        have hlen : ((st.take b).reverse.map (cv w.b w.base)).length = methk.sig.parameters.length := by
          rw [← okM_desc hM o3 c6]
          simp [hb]
        have hstk : (F0 m pc ls (st.map (cv w.b w.base))).stack = ((st.take b).reverse.map (cv w.b w.base)).reverse ++ .ref (w.base + q) :: (st.drop (b + 1)).map (cv w.b w.base) := by
          show st.map (cv w.b w.base) = _
          have e9 : Value.ref (w.base + q) :: (st.drop (b + 1)).map (cv w.b w.base) = (st.drop b).map (cv w.b w.base) := by rw [drop_head hhd]; rfl
          rw [e9, List.map_reverse, List.reverse_reverse, ← List.map_append, List.take_append_drop]
        have hw2' : wsum (.ref (q + 1) :: (st.take b).reverse) ≤ mL a := by
          have e9 : wsum (.ref (q + 1) :: (st.take b).reverse) = 1 + wsum (st.take b).reverse := by
            unfold wsum
            rw [List.map_cons, List.sum_cons]
            rfl
          rw [wsum_rev] at e9
          omega
        intro T hT X
        have hselP : selectMethod e.platform s.vm cell.cls mk = .method mk := by rw [Launch.admits_selectMethod X.admits]; exact q4
        have fin : ∀ vm₁, Stand p l e R s m args below meth c (T.setVm vm₁) locs (sh.length - sh0) (sl - sl0) → ∃ t, (∀ acts, Steps p.tables e below (doInvoke e ((T.setVm vm₁).setTop (F0 m pc ls ((st.drop (b + 1)).map (cv w.b w.base)))) acts mk (.ref (w.base + q) :: (st.take b).reverse.map (cv w.b w.base)).toArray).1 t) ∧ Q t := fun vm₁ X₁ =>
          call_core (h0 := (sh, gi, gl, gr)) (mj := a) (as := .ref (q + 1) :: (st.take b).reverse) (rest := st.drop (b + 1)) (r := r) (ig := .invokevirtual ix) B' I hT hz X₁ hdg hn hm hc c1 c2 c3 c4 c5 m2 o4 o5 hw1 hw2' IH Kr Kt
        split at o1
        · rename_i o9 i9 y9 hlk
          simp only [Bool.and_eq_true, decide_eq_true_eq] at o1
          obtain ⟨⟨rfl, rfl⟩, rfl⟩ := o1
          obtain ⟨vm₁, X₁, st1⟩ := X.invokevirtual hx M.1 (C.1 _ (List.mem_of_getElem? hlk) rfl args) hn hm hst' hkP hkPi ⟨m3, m4⟩ (a := w.base + q) (cell := cell) (by rw [hT]; exact g1) (fun z h9 => by rw [h9] at g2; cases g2) hselP hm hab' hkP hkPi (g := F0 m pc ls (st.map (cv w.b w.base))) rfl hlen hstk (by rw [M.2.1]; exact hdg)
          obtain ⟨t, h1, h2⟩ := fin vm₁ X₁
          exact ⟨t, st1 t h1, h2⟩
        · rename_i o9 i9 y9 host9 hlk
          simp only [Bool.and_eq_true, decide_eq_true_eq] at o1
          obtain ⟨⟨rfl, rfl⟩, rfl⟩ := o1
          obtain ⟨vm₁, X₁, st1⟩ := X.invokevirtualNest hx M.1 (C.1 _ (List.mem_of_getElem? hlk) rfl args) hn hm hst' hkP hkPi ⟨m3, m4⟩ (a := w.base + q) (cell := cell) (by rw [hT]; exact g1) (fun z h9 => by rw [h9] at g2; cases g2) hselP hm hab' hkP hkPi (g := F0 m pc ls (st.map (cv w.b w.base))) rfl hlen hstk (by rw [M.2.1]; exact hdg)
          obtain ⟨t, h1, h2⟩ := fin vm₁ X₁
          exact ⟨t, st1 t h1, h2⟩
        · cases o1
      · cases h
    · cases h
  · cases h
theorem so_callI {ix a b z : Nat} {as : List Value} {mj : Nat} {r : Out} (B : Bx p l R s m meth c w mi sh0 sl0) (I : In w s sh0 sl0 mi lc (sh, gi, gl, gr) sl H locs ls) (hdg : decode (mB mi) pc = .ok (.invokespecial ix, 3)) (ho : okC mi ix a b 2 z = true) (hM : okM a = true) (h : s_call a b pc lc st sh gi gl gr sl 2 = some (mj, as, y))
    (IH : IHc p l e w mj as (sh, gi, gl, gr) sl r) (Kr : ∀ v, r.1 = .inl v → KK p l e R s m args below meth c w sh0 sl0 Q (mi, y.1 + 3, y.2.1, v.toList ++ y.2.2.1, r.2))
    (Kt : ∀ q, r.1 = .inr q → r.2.1.1[q.1]? = some (10 + q.2, 0) → q.1 ≠ 0 → q.2 < 3 → KT p l e R s m args below meth c w sh0 sl0 Q mi y.1 y.2.1 ls (y.2.2.1.map (cv w.b w.base)) q r.2) (ha : a < 9000) :
    W p l e R s m args below meth c H locs (sh.length - sh0) (sl - sl0) Q (F0 m pc ls (st.map (cv w.b w.base))) := by
  refine W.sized fun hsz => ?_
  have hz := In.size B I hsz
  have B' := B
  obtain ⟨hx, htr, C, M, Rm, hsh0, hs0⟩ := B
  unfold s_call at h
  rw [if_neg (by omega), if_neg (by decide)] at h
  split at h
  · rename_i q hhd
    split at h
    · rename_i x n9 hq
      split at h
      · rename_i hcs
        obtain ⟨rfl, hb, hw1, hw2⟩ := hcs
        cases h
        unfold okC okL at ho
        simp only [Bool.and_eq_true, decide_eq_true_eq] at ho
        obtain ⟨⟨⟨⟨⟨⟨o1, o2⟩, o3⟩, o4⟩, o5⟩, -⟩, -⟩ := ho
        obtain ⟨mk, methk, ck, hn, hm, hc, c1, c2, c3, c4, c5, c6⟩ := okM_facts C hM
        have hM' := hM
        unfold okM at hM'
        rw [o2] at hM'
        simp only [Bool.and_eq_true, decide_eq_true_eq] at hM'
        obtain ⟨⟨⟨⟨⟨⟨m1, m2⟩, m3⟩, m4⟩, -⟩, -⟩, ⟨⟨⟨m7, m8⟩, m9⟩, m10⟩, m11⟩ := hM'
        obtain ⟨q, rfl⟩ := ne0 I.1 hq (by omega)
        have hcode : (Cond.code (mY a) (mB a) (mL a) none).before args s = true := by
          unfold cdOk at m1
          rw [m9, m10] at m1
          exact C.wd m1 rfl args
        have hlen : ∀ sig, parseMethodDescriptor (mY a).desc = some sig → ((st.take b).reverse.map (cv w.b w.base)).length = sig.parameters.length := fun sig hs => by
          rw [← okM_desc hM o3 hs]
          simp [hb]
        have hstk : (F0 m pc ls (st.map (cv w.b w.base))).stack = ((st.take b).reverse.map (cv w.b w.base)).reverse ++ .ref (w.base + q) :: (st.drop (b + 1)).map (cv w.b w.base) := by
          show st.map (cv w.b w.base) = _
          have e9 : Value.ref (w.base + q) :: (st.drop (b + 1)).map (cv w.b w.base) = (st.drop b).map (cv w.b w.base) := by rw [drop_head hhd]; rfl
          rw [e9, List.map_reverse, List.reverse_reverse, ← List.map_append, List.take_append_drop]
        have hw2' : wsum (.ref (q + 1) :: (st.take b).reverse) ≤ mL a := by
          have e9 : wsum (.ref (q + 1) :: (st.take b).reverse) = 1 + wsum (st.take b).reverse := by
            unfold wsum
            rw [List.map_cons, List.sum_cons]
            rfl
          rw [wsum_rev] at e9
          omega
        intro T hT X
        have hpl : e.platform.magicAccessors = ({} : Platform).magicAccessors := by rw [X.admits.platform]
        have fin : ∀ vm₁, s.WarmedH vm₁ → ∃ t, (∀ acts, Steps p.tables e below (doInvoke e ((T.setVm vm₁).setTop (F0 m pc ls ((st.drop (b + 1)).map (cv w.b w.base)))) acts mk (.ref (w.base + q) :: (st.take b).reverse.map (cv w.b w.base)).toArray).1 t) ∧ Q t := fun vm₁ hW₁ =>
          call_core (h0 := (sh, gi, gl, gr)) (mj := a) (as := .ref (q + 1) :: (st.take b).reverse) (rest := st.drop (b + 1)) (r := r) (ig := .invokespecial ix) B' I hT hz (X.noted hW₁) hdg hn hm hc c1 c2 c3 c4 c5 m2 o4 o5 hw1 hw2' IH Kr Kt
        split at o1
        · rename_i o9 i9 y9 hlk
          simp only [Bool.and_eq_true, decide_eq_true_eq] at o1
          obtain ⟨⟨rfl, rfl⟩, rfl⟩ := o1
          obtain ⟨mk', methM, cM, kP, vm₁, hnamed, -, -, -, -, -, -, -, hW₁, st1⟩ := Steps.initColdArgs (e := e) X.here hx X.warmed hpl M.1 m8 ⟨m3, m4⟩ (C.1 _ (List.mem_of_getElem? hlk) rfl args) (C.wd m7 rfl args) hcode (f := F0 m pc ls (st.map (cv w.b w.base))) rfl hlen hstk (by rw [M.2.1]; exact hdg)
          cases hn.symm.trans hnamed
          obtain ⟨t, h1, h2⟩ := fin vm₁ hW₁
          exact ⟨t, st1 t h1, h2⟩
        · rename_i o9 i9 y9 host9 hlk
          simp only [Bool.and_eq_true, decide_eq_true_eq] at o1
          obtain ⟨⟨rfl, rfl⟩, rfl⟩ := o1
          obtain ⟨mk', methM, cM, kP, vm₁, hnamed, -, -, -, -, -, -, -, hW₁, st1⟩ := Steps.initColdArgsNest (e := e) X.here hx X.warmed hpl M.1 m8 ⟨m3, m4⟩ (C.1 _ (List.mem_of_getElem? hlk) rfl args) (C.wd m7 rfl args) hcode (f := F0 m pc ls (st.map (cv w.b w.base))) rfl hlen hstk (by rw [M.2.1]; exact hdg)
          cases hn.symm.trans hnamed
          obtain ⟨t, h1, h2⟩ := fin vm₁ hW₁
          exact ⟨t, st1 t h1, h2⟩
        · cases o1
      · cases h
    · cases h
  · cases h
/-- not caught: it goes on to the caller -/
theorem so_leave {rest : List Value} {q : Nat × Nat} {hs : Hp × Nat} (B : Bx p l R s m meth c w mi sh0 sl0) (hh : hnd mi pc q.2 = some none) (hTe : hT mi = (hXl.getD mi []).map (fun z => (z.1, z.2.1, z.2.2.1, z.2.2.2.2.1))) (h1 : hs.1.1[q.1]? = some (10 + q.2, 0)) (h2 : q.1 ≠ 0) (h3 : q.2 < 3) : KT p l e R s m args below meth c w sh0 sl0 (QQ w below s sh0 sl0 (.inr q, hs)) mi pc lc ls rest q hs := by
  intro T locs I hz X
  have B' := B
  obtain ⟨hx, -, C, M, -, -, -⟩ := B
  have hout : ∀ x ∈ c.exceptionTable.toList, covers x (F0 m pc ls rest).pc = false := by
    intro x hx9
    have h9 : (x.startPc, x.endPc, x.handlerPc, x.catchType) ∈ hX mi := by
      rw [← M.2.2.2.2.2.2]
      exact List.mem_map.mpr ⟨x, hx9, rfl⟩
    obtain ⟨z, hz9, he⟩ := List.mem_map.mp h9
    unfold hnd at hh
    split at hh
    · cases hf : (hT mi).find? (fun q' => cvr pc q' && q'.2.2.2 == q.2) with
      | none => rw [hf] at hh; cases hh
      | some y => rw [hf] at hh; cases hh
    · rename_i hany
      have hz8 : (z.1, z.2.1, z.2.2.1, z.2.2.2.2.1) ∈ hT mi := by rw [hTe]; exact List.mem_map.mpr ⟨z, hz9, rfl⟩
      have h8 : cvr pc (z.1, z.2.1, z.2.2.1, z.2.2.2.2.1) = false := by
        cases h7 : cvr pc (z.1, z.2.1, z.2.2.1, z.2.2.2.2.1)
        · rfl
        · exact absurd (List.any_eq_true.mpr ⟨_, hz8, h7⟩) hany
      have e1 : z.1 = x.startPc := congrArg (fun q => q.1) he
      have e2 : z.2.1 = x.endPc := congrArg (fun q => q.2.1) he
      simp only [cvr, e1, e2] at h8
      exact h8
  obtain ⟨st1, hrun, hend, hW, hsame⟩ := X.leaveThrown (ad w.b w.base q.1) (g := F0 m pc ls rest) rfl rfl rfl hout M.2.2.2.2.1
  obtain ⟨⟨sh, gi, gl, gr⟩, sl⟩ := hs
  refine ⟨_, st1, QQ.of (o := (.inr q, (sh, gi, gl, gr), sl)) B' I hz rfl ⟨h1, h2, h3⟩ hrun hend hW rfl I.2.1.2.2 hsame⟩
theorem ct_of {pl : Platform} (hpl : pl.magicAccessors = ({} : Platform).magicAccessors) {d : ClassId} {own : String} (C : Cx w s) (hown : s.vm.findClass own = some d) {E : Nat} (hE : E < 3) {pc' : Nat} : ∀ (hs : List (Nat × Nat × Nat × Nat × Nat × Nat)) (tb : List ExceptionTableEntry), tb.map (fun h => (h.startPc, h.endPc, h.handlerPc, h.catchType)) = hs.map (fun q => (q.1, q.2.1, q.2.2.1, q.2.2.2.1)) →
    (∀ q ∈ hs, q.2.2.2.1 ≠ 0 ∧ q.2.2.2.2.1 < 3 ∧ wAt q.2.2.2.2.2 (.classLink own q.2.2.2.1 (exN q.2.2.2.2.1)) = true) → ((hs.map (fun z => (z.1, z.2.1, z.2.2.1, z.2.2.2.2.1))).find? (fun q => cvr pc q && q.2.2.2 == E)).map (fun q => q.2.2.1) = some pc' → ctF pl s d (w.D.1 (10 + E)) pc pc' tb
  | [], tb, _, _, hf => by cases hf
  | z :: t, [], he, _, _ => by cases he
  | z :: t, x :: tb, he, hok, hf => by
    obtain ⟨h1, h2, h3⟩ := hok z List.mem_cons_self
    simp only [List.map_cons, List.cons.injEq] at he
    obtain ⟨he1, he2⟩ := he
    have e1 : x.startPc = z.1 := congrArg (fun q => q.1) he1
    have e2 : x.endPc = z.2.1 := congrArg (fun q => q.2.1) he1
    have e3 : x.handlerPc = z.2.2.1 := congrArg (fun q => q.2.2.1) he1
    have e4 : x.catchType = z.2.2.2.1 := congrArg (fun q => q.2.2.2) he1
    have hcv : covers x pc = cvr pc (z.1, z.2.1, z.2.2.1, z.2.2.2.2.1) := by
      simp only [covers, cvr, e1, e2]
    have ih := ct_of hpl C hown hE t tb he2 (fun q hq => hok q (List.mem_cons_of_mem _ hq)) (pc' := pc')
    obtain ⟨cT, hcT, hlk⟩ := Cond.classLink_spec hown (C.wd h3 rfl #[]) pl hpl
    have hown9 : ∀ i, i < 3 → s.vm.findClass (exN i) = some (w.D.1 (10 + i)) := fun i hi => (C.2.1.1 (10 + i) _ (ex_kCl i hi)).2.1
    rw [List.map_cons, List.find?_cons] at hf
    by_cases hc : cvr pc (z.1, z.2.1, z.2.2.1, z.2.2.2.2.1) = true
    · by_cases hEE : z.2.2.2.2.1 = E
      · have hp : (cvr pc (z.1, z.2.1, z.2.2.1, z.2.2.2.2.1) && (z.1, z.2.1, z.2.2.1, z.2.2.2.2.1).2.2.2 == E) = true := by rw [hc]; simp [hEE]
        rw [hp] at hf
        have hpc : z.2.2.1 = pc' := Option.some.inj hf
        refine Or.inr (Or.inl ⟨by rw [hcv]; exact hc, ⟨by rw [e4]; exact h1, cT, by rw [e4]; exact hlk, ?_⟩, by rw [e3]; exact hpc⟩)
        rw [hEE] at hcT
        cases Option.some.inj (hcT.symm.trans (hown9 E hE))
        exact va_assign (C.2.1.1 (10 + E) _ (ex_kCl E hE)).2
      · have hp : (cvr pc (z.1, z.2.1, z.2.2.1, z.2.2.2.2.1) && (z.1, z.2.1, z.2.2.1, z.2.2.2.2.1).2.2.2 == E) = false := by rw [hc]; simp [hEE]
        rw [hp] at hf
        refine Or.inr (Or.inr ⟨by rw [hcv]; exact hc, ⟨by rw [e4]; exact h1, cT, by rw [e4]; exact hlk, ?_⟩, ih hf⟩)
        obtain ⟨u1, u2, g1, g2, g3⟩ := C.2.2.2.2.2.2.2.2 E hE _ h2 (fun q => hEE q.symm)
        cases Option.some.inj (g1.symm.trans (hown9 E hE))
        cases Option.some.inj (g2.symm.trans hcT)
        exact g3
    · have hp : (cvr pc (z.1, z.2.1, z.2.2.1, z.2.2.2.2.1) && (z.1, z.2.1, z.2.2.1, z.2.2.2.2.1).2.2.2 == E) = false := by
        cases h9 : cvr pc (z.1, z.2.1, z.2.2.1, z.2.2.2.2.1)
        · rfl
        · exact absurd h9 hc
      rw [hp] at hf
      exact Or.inl ⟨by rw [hcv]; simpa using hc, ih hf⟩
theorem so_caught {rest : List Value} {q : Nat × Nat} {hs : Hp × Nat} {pc' : Nat} (B : Bx p l R s m meth c w mi sh0 sl0) (hh : hnd mi pc q.2 = some (some pc')) (hTe : hT mi = (hXl.getD mi []).map (fun z => (z.1, z.2.1, z.2.2.1, z.2.2.2.2.1)))
    (hok : ∀ z ∈ hXl.getD mi [], z.2.2.2.1 ≠ 0 ∧ z.2.2.2.2.1 < 3 ∧ wAt z.2.2.2.2.2 (.classLink (mY mi).cls z.2.2.2.1 (exN z.2.2.2.2.1)) = true) (h1 : hs.1.1[q.1]? = some (10 + q.2, 0)) (h2 : q.1 ≠ 0) (h3 : q.2 < 3)
    (K : KK p l e R s m args below meth c w sh0 sl0 Q (mi, pc', lc, [.ref q.1], hs)) : KT p l e R s m args below meth c w sh0 sl0 Q mi pc lc ls rest q hs := by
  intro T locs I hz X
  obtain ⟨hx, -, C, M, -, -, -⟩ := B
  have hpl : e.platform.magicAccessors = ({} : Platform).magicAccessors := by rw [X.admits.platform]
  have hf : ((hT mi).find? (fun z => cvr pc z && z.2.2.2 == q.2)).map (fun z => z.2.2.1) = some pc' := by
    unfold hnd at hh
    split at hh
    · cases hf : (hT mi).find? (fun z => cvr pc z && z.2.2.2 == q.2) with
      | none => rw [hf] at hh; cases hh
      | some y =>
        rw [hf] at hh
        exact congrArg _ (Option.some.inj (Option.some.inj hh))
    · cases hh
  rw [hTe] at hf
  obtain ⟨k, hk⟩ : ∃ k, q.1 = k + 1 := ⟨q.1 - 1, by omega⟩
  have h1' := h1
  rw [hk] at h1'
  have hw := wo (gi := hs.1.2.1) (gl := hs.1.2.2.1) (gr := hs.1.2.2.2) (b := w.b) (base := w.base) (aC := w.aC) (show 10 + q.2 < 100 by omega) h1'
  obtain ⟨rc, hrc, cell, g1, g2, g3, -⟩ := I.1.2.1 k _ hw
  have hka : ad w.b w.base q.1 = w.base + k := by rw [hk]; rfl
  have g2' : cell.cls = w.D.1 (10 + q.2) := g2
  obtain ⟨vm', X', st1⟩ := ct_caught X (ad w.b w.base q.1) (g := F0 m pc ls rest) rfl (cell := cell) (pc' := pc') (by rw [hka]; exact g1) g3 (by
    rw [g2']
    obtain ⟨-, kC, hkC, -⟩ := (C.2.1.1 (10 + q.2) _ (ex_kCl q.2 h3)).2
    exact ⟨kC, hkC⟩) (by
    rw [g2']
    exact ct_of hpl C M.1 h3 (hXl.getD mi []) c.exceptionTable.toList M.2.2.2.2.2.2 hok hf)
  obtain ⟨t, s1, hq⟩ := K T.heap locs ls I (T.setVm vm') rfl X'
  exact ⟨t, st1 t s1, hq⟩
end
end
section
/-! the tables' check of one entry, and the soundness of the small machine -/
def ntOk (t : ArrayType) (a : Nat) : Bool := decide (a < 3) && decide (newarray.typeOf t = (match a with | 0 => FieldType.int | 1 => .boolean | _ => .long))
def okE (mi pc : Nat) (q : En) : Bool := match q with
  | (i, len, a, b, c, p) => match i with
    | .iconst _ => len == 1
    | .bipush _ => len == 2
    | .sipush _ => len == 3
    | .lconst _ => len == 1
    | .iload _ => len == 2
    | .iload_n _ => len == 1
    | .aload _ => len == 2
    | .aload_n _ => len == 1
    | .istore _ => len == 2
    | .istore_n _ => len == 1
    | .astore _ => len == 2
    | .astore_n _ => len == 1
    | .iinc _ _ => len == 3
    | .iadd => len == 1
    | .isub => len == 1
    | .imul => len == 1
    | .iand => len == 1
    | .ior => len == 1
    | .ixor => len == 1
    | .ishl => len == 1
    | .ishr => len == 1
    | .idiv => len == 1
    | .irem => len == 1
    | .i2l => len == 1
    | .lcmp => len == 1
    | .dup => len == 1
    | .dup2 => len == 1
    | .pop => len == 1
    | .goto o => len == 3 && decide ((pc : Int) + o = (a : Int))
    | .ifCond _ o => len == 3 && decide ((pc : Int) + o = (a : Int))
    | .if_icmp _ o => len == 3 && decide ((pc : Int) + o = (a : Int))
    | .tableswitch d _ _ offs => decide (0 ≤ (pc : Int) + d) && offs.toList.all (fun o => decide (0 ≤ (pc : Int) + o))
    | .lookupswitch d ps => decide (0 ≤ (pc : Int) + d) && ps.toList.all (fun o => decide (0 ≤ (pc : Int) + o.2)) && (ps.toList.zip (ps.toList.drop 1)).all (fun (a, next) => a.1 < next.1)
    | .getfield ix => len == 3 && okF mi ix a b c p
    | .putfield ix => len == 3 && okF mi ix a b c p && okP mi a b
    | .iaload => len == 1
    | .baload => len == 1
    | .laload => len == 1
    | .aaload => len == 1
    | .iastore => len == 1
    | .bastore => len == 1
    | .lastore => len == 1
    | .aastore => len == 1
    | .arraylength => len == 1
    | .newarray t => len == 2 && ntOk t a
    | .anewarray ix => len == 3 && decide (3 ≤ a) && decide (a < 6) && wAt p (.classLink (mY mi).cls ix (arN.getD (a - 3) "")) && wAt b (.arrayOver (.object (arN.getD (a - 3) "")))
    | .new ix => len == 3 && (if 900 ≤ a then okT mi pc ix a b c p else okN mi ix a b p)
    | .invokestatic ix => len == 3 && (if a = 9002 then wAt p (.methodLink (mY mi).cls ix Lib.Math.min.name) && decide (1 ≤ nF mi) && decide (21 ≤ nW mi) else if a = 9003 then wAt p (.methodLink (mY mi).cls ix arraycopyName) && decide (1 ≤ nF mi) && decide (8 + (nativeFrameWords "java/lang/System" "arraycopy" 5 + 11) ≤ nW mi) else okC mi ix a b 0 p)
    | .invokevirtual ix => len == 3 && okC mi ix a b 1 p
    | .invokespecial ix => len == 3 && (if a = 9001 then wAt p (.methodLink (mY mi).cls ix Lib.objectInit) && decide (1 ≤ nF mi) && decide (20 ≤ nW mi) else if 9000 ≤ a then true else okC mi ix a b 2 p)
    | .ireturn => len == 1
    | .areturn => len == 1
    | .return_ => len == 1
    | _ => true
def okQ (k : Nat) (z : Nat × En) : Bool := decide (decode (mB k) z.1 = .ok (z.2.1, z.2.2.1)) && okE k z.1 z.2
def okB : Bool := wAt (bP.getD 0 0) (.instanceMethod Lib.objectInit) && wAt (bP.getD 1 0) (.code Lib.objectInit ⟨#[0xb1]⟩ 1 none) && wAt (bP.getD 2 0) (.static Lib.Math.min.name) && wAt (bP.getD 3 0) (.initialized "java/lang/Math") && wAt (bP.getD 4 0) (.code Lib.Math.min.name Lib.Math.min.code 2 (some .int)) &&
  wAt (bP.getD 5 0) (.native arraycopyName) && wAt (bP.getD 6 0) (.static arraycopyName) && wAt (bP.getD 7 0) (.initialized "java/lang/System")
/-- all that the tables owe -/
def TB : Prop := (∀ k, k < mYl.length → ∀ z ∈ cds.getD k [], okQ k z = true) ∧ (∀ x, x < 10 → okK x = true) ∧ (∀ E, E < 3 → ∀ v ∈ exWs E, v ∈ lw_tbl ∧ okw v = true) ∧ okB = true ∧ (∀ x, x ∈ [FieldType.int, .boolean, .long] → Cond.arrayClass x ∈ lw_tbl) ∧
  (∀ j, j < arN.length → elc (103 + j) < 10 ∧ ∃ r, kCl[elc (103 + j)]? = some r ∧ r.1 = arN.getD j "") ∧ (∀ a, a < mYl.length → 0 < a → okM a = true) ∧ (∀ a, hT a = (hXl.getD a []).map (fun z => (z.1, z.2.1, z.2.2.1, z.2.2.2.2.1))) ∧ hXl.getD 0 [] = [] ∧ cds.length = mYl.length
theorem cd_ok (tb : TB) {mi pc : Nat} {q : En} (h : cd mi pc = some q) : decode (mB mi) pc = .ok (q.1, q.2.1) ∧ okE mi pc q = true := by
  unfold cd at h
  split at h
  · rename_i li hl
    obtain ⟨z, hz, rfl⟩ := Option.map_eq_some_iff.mp h
    have h1 := List.mem_of_find?_eq_some hz
    have h2 : z.1 = pc := by simpa using List.find?_some hz
    have hlt := (List.getElem?_eq_some_iff.mp hl).1
    rw [tb.2.2.2.2.2.2.2.2.2] at hlt
    have h3 := tb.1 mi hlt z (by rw [List.getD_eq_getElem?_getD, hl]; exact h1)
    unfold okQ at h3
    rw [Bool.and_eq_true, decide_eq_true_eq] at h3
    rw [← h2]
    exact h3
  · cases h
theorem hX_ok (tb : TB) (mi : Nat) (hm : mi < mYl.length) : ∀ z ∈ hXl.getD mi [], z.2.2.2.1 ≠ 0 ∧ z.2.2.2.2.1 < 3 ∧ wAt z.2.2.2.2.2 (.classLink (mY mi).cls z.2.2.2.1 (exN z.2.2.2.2.1)) = true := by
  by_cases h0 : mi = 0
  · subst h0
    rw [tb.2.2.2.2.2.2.2.2.1]
    intro z hz
    cases hz
  · have h1 := tb.2.2.2.2.2.2.1 mi hm (by omega)
    unfold okM at h1
    simp only [Bool.and_eq_true, List.all_eq_true, decide_eq_true_eq] at h1
    intro z hz
    have h2 := h1.1.2 z hz
    exact ⟨h2.1.1, h2.1.2, h2.2⟩
section
variable {p : Program} {l : Launch} {e : Env} {R : Room} {s : State} {m : MethodId} {args : Array Value} {below : List Frame} {meth : Method} {c : Code} {Q : State → Prop}
variable {w : Wd} {mi sh0 sl0 pc : Nat} {lc : Lc} {st : List Value} {sh : List (Nat × Nat)} {gi : Nat → Nat → Int32} {gl : Nat → Nat → Int64} {gr : Nat → Nat → Option Nat} {sl : Nat} {H : Heap} {locs : List Loc} {ls : Array Slot}
set_option maxHeartbeats 4000000 in
theorem so_step (tb : TB) {y : Cg} {i : Instr} {len a b k z : Nat} (B : Bx p l R s m meth c w mi sh0 sl0) (hcd : cd mi pc = some (i, len, a, b, k, z)) (h : stI i len a b k mi pc lc st sh gi gl gr sl = some y) (I : In w s sh0 sl0 mi lc (sh, gi, gl, gr) sl H locs ls) (K : KK p l e R s m args below meth c w sh0 sl0 Q (mi, y)) :
    W p l e R s m args below meth c H locs (sh.length - sh0) (sl - sl0) Q (F0 m pc ls (st.map (cv w.b w.base))) := by
  obtain ⟨hdg, hok⟩ := cd_ok tb hcd
  simp only at hdg
  have hx := B.1
  have hb := B.2.2.2.1.2.1
  have bb := tb.2.2.2.1
  unfold okB at bb
  simp only [Bool.and_eq_true] at bb
  obtain ⟨⟨⟨⟨⟨⟨⟨b0, b1⟩, b2⟩, b3⟩, b4⟩, b5⟩, b6⟩, b7⟩ := bb
  unfold stI at h
  split at h
  · obtain rfl : len = 1 := by simpa [okE] using hok
    exact lv_iconst hx hb hdg rfl (so_push h rfl I K)
  · obtain rfl : len = 2 := by simpa [okE] using hok
    exact lv_bipush hx hb hdg rfl (so_push h rfl I K)
  · obtain rfl : len = 3 := by simpa [okE] using hok
    exact lv_sipush hx hb hdg rfl (so_push h rfl I K)
  · obtain rfl : len = 1 := by simpa [okE] using hok
    exact lv_lconst hx hb hdg rfl (so_push h rfl I K)
  · obtain rfl : len = 2 := by simpa [okE] using hok
    obtain ⟨x, h1, h2⟩ := so_iload h I K
    exact lv_iload hx hb hdg h1 h2
  · obtain rfl : len = 1 := by simpa [okE] using hok
    obtain ⟨x, h1, h2⟩ := so_iload h I K
    exact lv_iload_n hx hb hdg rfl h1 h2
  · obtain rfl : len = 2 := by simpa [okE] using hok
    obtain ⟨x, h1, h2⟩ := so_aload h I K
    exact lv_aload hx hb hdg h1 h2
  · obtain rfl : len = 1 := by simpa [okE] using hok
    obtain ⟨x, h1, h2⟩ := so_aload h I K
    exact lv_aload_n hx hb hdg rfl h1 h2
  · obtain rfl : len = 2 := by simpa [okE] using hok
    obtain ⟨x, r, lc', e1, e2, e3, e4⟩ := so_istore h I K
    rw [e1]
    exact lv_istore hx hb hdg I.2.2.1 e2 e3 e4
  · obtain rfl : len = 1 := by simpa [okE] using hok
    obtain ⟨x, r, lc', e1, e2, e3, e4⟩ := so_istore h I K
    rw [e1]
    exact lv_istore_n hx hb hdg rfl I.2.2.1 e2 e3 e4
  · obtain rfl : len = 2 := by simpa [okE] using hok
    obtain ⟨x, r, lc', e1, e2, e3, e4⟩ := so_astore h I K
    rw [e1]
    exact lv_astore hx hb hdg I.2.2.1 e2 e3 e4
  · obtain rfl : len = 1 := by simpa [okE] using hok
    obtain ⟨x, r, lc', e1, e2, e3, e4⟩ := so_astore h I K
    rw [e1]
    exact lv_astore_n hx hb hdg rfl I.2.2.1 e2 e3 e4
  · obtain rfl : len = 3 := by simpa [okE] using hok
    exact so_iinc hx hb hdg h I K
  · obtain rfl : len = 1 := by simpa [okE] using hok
    obtain ⟨x, y, r, e1, e2⟩ := so_bin h I K
    rw [e1]
    exact lv_iadd hx hb hdg e2
  · obtain rfl : len = 1 := by simpa [okE] using hok
    obtain ⟨x, y, r, e1, e2⟩ := so_bin h I K
    rw [e1]
    exact lv_isub hx hb hdg e2
  · obtain rfl : len = 1 := by simpa [okE] using hok
    obtain ⟨x, y, r, e1, e2⟩ := so_bin h I K
    rw [e1]
    exact lv_imul hx hb hdg e2
  · obtain rfl : len = 1 := by simpa [okE] using hok
    obtain ⟨x, y, r, e1, e2⟩ := so_bin h I K
    rw [e1]
    exact lv_iand hx hb hdg e2
  · obtain rfl : len = 1 := by simpa [okE] using hok
    obtain ⟨x, y, r, e1, e2⟩ := so_bin h I K
    rw [e1]
    exact lv_ior hx hb hdg e2
  · obtain rfl : len = 1 := by simpa [okE] using hok
    obtain ⟨x, y, r, e1, e2⟩ := so_bin h I K
    rw [e1]
    exact lv_ixor hx hb hdg e2
  · obtain rfl : len = 1 := by simpa [okE] using hok
    obtain ⟨x, y, r, e1, e2⟩ := so_bin h I K
    rw [e1]
    exact lv_ishl hx hb hdg e2
  · obtain rfl : len = 1 := by simpa [okE] using hok
    obtain ⟨x, y, r, e1, e2⟩ := so_bin h I K
    rw [e1]
    exact lv_ishr hx hb hdg e2
  · obtain rfl : len = 1 := by simpa [okE] using hok
    obtain ⟨x, y, r, e1, e2, e3⟩ := so_div h I K
    rw [e1]
    exact lv_idiv hx hb hdg e2 e3
  · obtain rfl : len = 1 := by simpa [okE] using hok
    obtain ⟨x, y, r, e1, e2, e3⟩ := so_div h I K
    rw [e1]
    exact lv_irem hx hb hdg e2 e3
  · obtain rfl : len = 1 := by simpa [okE] using hok
    exact so_i2l hx hb hdg h I K
  · obtain rfl : len = 1 := by simpa [okE] using hok
    exact so_lcmp hx hb hdg h I K
  · obtain rfl : len = 1 := by simpa [okE] using hok
    exact so_dup hx hb hdg h I K
  · obtain rfl : len = 1 := by simpa [okE] using hok
    exact so_dup2 hx hb hdg h I K
  · obtain rfl : len = 1 := by simpa [okE] using hok
    exact so_pop hx hb hdg h I K
  · obtain ⟨rfl, ha⟩ : len = 3 ∧ _ := by simpa [okE] using hok
    obtain rfl := go_inv h
    exact lv_goto hx hb hdg ha (K H locs ls I)
  · obtain ⟨rfl, ha⟩ : len = 3 ∧ _ := by simpa [okE] using hok
    exact so_if hx hb hdg ha h I K
  · obtain ⟨rfl, ha⟩ : len = 3 ∧ _ := by simpa [okE] using hok
    exact so_icmp hx hb hdg ha h I K
  · simp only [okE, Bool.and_eq_true, decide_eq_true_eq, List.all_eq_true] at hok
    exact so_tab hx hb hdg hok.1 hok.2 h I K
  · simp only [okE, Bool.and_eq_true, decide_eq_true_eq] at hok
    exact so_look hx hb hdg hok.1.1 (fun o ho => by simpa using List.all_eq_true.mp hok.1.2 o ho) hok.2 h I K
  · simp only [okE, Bool.and_eq_true, beq_iff_eq] at hok
    obtain ⟨rfl, ho⟩ := hok
    exact so_get tb.2.1 B hdg ho h I K
  · simp only [okE, Bool.and_eq_true, beq_iff_eq] at hok
    obtain ⟨⟨rfl, ho⟩, hp⟩ := hok
    exact so_put tb.2.1 B hdg ho hp h I K
  · obtain rfl : len = 1 := by simpa [okE] using hok
    exact so_iald B hdg h I K
  · obtain rfl : len = 1 := by simpa [okE] using hok
    exact so_zald B hdg h I K
  · obtain rfl : len = 1 := by simpa [okE] using hok
    exact so_lald B hdg h I K
  · obtain rfl : len = 1 := by simpa [okE] using hok
    exact so_aald B hdg h I K
  · obtain rfl : len = 1 := by simpa [okE] using hok
    exact so_iast B hdg h I K
  · obtain rfl : len = 1 := by simpa [okE] using hok
    exact so_zast B hdg h I K
  · obtain rfl : len = 1 := by simpa [okE] using hok
    exact so_last B hdg h I K
  · obtain rfl : len = 1 := by simpa [okE] using hok
    exact so_aast tb.2.2.2.2.2.1 B hdg h I K
  · obtain rfl : len = 1 := by simpa [okE] using hok
    exact so_len B hdg h I K
  · simp only [okE, ntOk, Bool.and_eq_true, beq_iff_eq, decide_eq_true_eq] at hok
    obtain ⟨rfl, h1, h2⟩ := hok
    exact so_newa h2 h1 tb.2.2.2.2.1 B hdg h I K
  · simp only [okE, Bool.and_eq_true, beq_iff_eq, decide_eq_true_eq] at hok
    obtain ⟨⟨⟨⟨rfl, h1⟩, h2⟩, h3⟩, h4⟩ := hok
    obtain ⟨j, rfl⟩ : ∃ j, a = 3 + j := ⟨a - 3, by omega⟩
    rw [show 3 + j - 3 = j by omega] at h3 h4
    exact so_anew (show j < 3 by omega) h3 h4 B hdg h I K
  · split at h
    · cases h
    · rename_i ha
      simp only [okE, Bool.and_eq_true, beq_iff_eq] at hok
      obtain ⟨rfl, ho⟩ := hok
      rw [if_neg ha] at ho
      exact so_new tb.2.1 B hdg ho h I K
  · simp only [okE, Bool.and_eq_true, beq_iff_eq] at hok
    obtain ⟨rfl, ho⟩ := hok
    split at h
    · rename_i ha
      rw [if_pos ha] at ho
      simp only [Bool.and_eq_true, decide_eq_true_eq] at ho
      exact so_min ho.1.1 b2 b3 b4 ho.1.2 ho.2 B hdg h I K
    · rename_i ha
      rw [if_neg ha] at ho
      split at h
      · rename_i ha2
        rw [if_pos ha2] at ho
        simp only [Bool.and_eq_true, decide_eq_true_eq] at ho
        exact so_copy ho.1.1 b5 b6 b7 ho.1.2 ho.2 B hdg h I K
      · cases h
  · simp only [okE, Bool.and_eq_true, beq_iff_eq] at hok
    obtain ⟨rfl, ho⟩ := hok
    split at h
    · rename_i ha
      rw [if_pos ha] at ho
      simp only [Bool.and_eq_true, decide_eq_true_eq] at ho
      exact so_obj ho.1.1 b0 b1 ho.1.2 ho.2 B hdg h I K
    · cases h
  · cases h
theorem so_end (tb : TB) {i : Instr} {len a b k z : Nat} {o : Out} (B : Bx p l R s m meth c w mi sh0 sl0) (hcd : cd mi pc = some (i, len, a, b, k, z)) (h : enI i a mi st sh gi gl gr sl = some o) (I : In w s sh0 sl0 mi lc (sh, gi, gl, gr) sl H locs ls) :
    W p l e R s m args below meth c H locs (sh.length - sh0) (sl - sl0) (QQ w below s sh0 sl0 o) (F0 m pc ls (st.map (cv w.b w.base))) := by
  obtain ⟨hdg, hok⟩ := cd_ok tb hcd
  simp only at hdg
  unfold enI at h
  split at h
  · obtain rfl : len = 1 := by simpa [okE] using hok
    exact so_iret B hdg h I
  · obtain rfl : len = 1 := by simpa [okE] using hok
    exact so_aret B hdg h I
  · obtain rfl : len = 1 := by simpa [okE] using hok
    exact so_vret B hdg h I
  · split at h
    · rename_i ha
      simp only [okE, Bool.and_eq_true, beq_iff_eq] at hok
      obtain ⟨rfl, ho⟩ := hok
      rw [if_pos ha] at ho
      exact so_throw tb.2.2.1 B hdg ho h I
    · cases h
  · cases h
theorem call_lt {a b k : Nat} {q : Nat × List Value × Cg} (h : s_call a b pc lc st sh gi gl gr sl k = some q) : a < 9000 := by
  unfold s_call at h
  split at h
  · cases h
  · omega
theorem so_call (tb : TB) {y : Cg} {as : List Value} {mj : Nat} {r : Out} {i : Instr} {len a b k z : Nat} (B : Bx p l R s m meth c w mi sh0 sl0) (hcd : cd mi pc = some (i, len, a, b, k, z)) (h : caI i a b pc lc st sh gi gl gr sl = some (mj, as, y)) (I : In w s sh0 sl0 mi lc (sh, gi, gl, gr) sl H locs ls)
    (IH : IHc p l e w mj as (sh, gi, gl, gr) sl r) (Kr : ∀ v, r.1 = .inl v → KK p l e R s m args below meth c w sh0 sl0 Q (mi, y.1 + 3, y.2.1, v.toList ++ y.2.2.1, r.2))
    (Kt : ∀ q, r.1 = .inr q → r.2.1.1[q.1]? = some (10 + q.2, 0) → q.1 ≠ 0 → q.2 < 3 → KT p l e R s m args below meth c w sh0 sl0 Q mi y.1 y.2.1 ls (y.2.2.1.map (cv w.b w.base)) q r.2) :
    W p l e R s m args below meth c H locs (sh.length - sh0) (sl - sl0) Q (F0 m pc ls (st.map (cv w.b w.base))) := by
  obtain ⟨hdg, hok⟩ := cd_ok tb hcd
  simp only at hdg
  have okc : ∀ {ix n : Nat}, okC mi ix a b n z = true → okM a = true := fun {ix n} ho => by
    unfold okC at ho
    simp only [Bool.and_eq_true, decide_eq_true_eq] at ho
    exact tb.2.2.2.2.2.2.1 a ho.1.2 ho.2
  unfold caI at h
  split at h
  · simp only [okE, Bool.and_eq_true, beq_iff_eq] at hok
    obtain ⟨rfl, ho⟩ := hok
    have ha := call_lt h
    rw [if_neg (by omega), if_neg (by omega)] at ho
    exact so_callS B I hdg ho (okc ho) h IH Kr Kt ha
  · simp only [okE, Bool.and_eq_true, beq_iff_eq] at hok
    obtain ⟨rfl, ho⟩ := hok
    exact so_callV B I hdg ho (okc ho) h IH Kr Kt (call_lt h)
  · simp only [okE, Bool.and_eq_true, beq_iff_eq] at hok
    obtain ⟨rfl, ho⟩ := hok
    have ha := call_lt h
    rw [if_neg (by omega), if_neg (by omega)] at ho
    exact so_callI B I hdg ho (okc ho) h IH Kr Kt ha
  · cases h
end
theorem call_as {i : Instr} {a b pc sl : Nat} {lc : Lc} {st : List Value} {sh : List (Nat × Nat)} {gi : Nat → Nat → Int32} {gl : Nat → Nat → Int64} {gr : Nat → Nat → Option Nat} {q : Nat × List Value × Cg} (h : caI i a b pc lc st sh gi gl gr sl = some q) : q.2.2.2.2.2 = ((sh, gi, gl, gr), sl) := by
  have key : ∀ k, s_call a b pc lc st sh gi gl gr sl k = some q → q.2.2.2.2.2 = ((sh, gi, gl, gr), sl) := by
    intro k h
    unfold s_call at h
    split at h
    · cases h
    · split at h
      · split at h
        · cases h; rfl
        · cases h
      · split at h
        · split at h
          · split at h
            · cases h; rfl
            · cases h
          · cases h
        · cases h
  unfold caI at h
  split at h
  · exact key _ h
  · exact key _ h
  · exact key _ h
  · cases h
theorem cd_lt (tb : TB) {mi pc : Nat} {q : En} (h : cd mi pc = some q) : mi < mYl.length := by
  unfold cd at h
  split at h
  · rename_i li hl
    have := (List.getElem?_eq_some_iff.mp hl).1
    rw [tb.2.2.2.2.2.2.2.2.2] at this
    exact this
  · cases h
theorem snd (tb : TB) {p : Program} {l : Launch} {e : Env} {w : Wd} : ∀ (n : Nat) (x : Cf) (r : Out), exe n x = some r → ∀ (R : Room) (s : State) (m : MethodId) (args : Array Value) (below : List Frame) (meth : Method) (c : Code) (sh0 sl0 : Nat), Bx p l R s m meth c w x.1 sh0 sl0 → KK p l e R s m args below meth c w sh0 sl0 (QQ w below s sh0 sl0 r) x := by
  intro n
  induction n with
  | zero => intro x r h; cases h
  | succ n ih =>
    intro x r h R s m args below meth c sh0 sl0 B H locs ls I
    obtain ⟨mi, pc, lc, st, ⟨sh, gi, gl, gr⟩, sl⟩ := x
    rw [exe] at h
    unfold sx at h
    simp only at h
    cases hcd : cd mi pc with
    | none => rw [hcd] at h; cases h
    | some q =>
      obtain ⟨i, len, a, b, k, z⟩ := q
      rw [hcd] at h
      simp only at h
      cases hst : stI i len a b k mi pc lc st sh gi gl gr sl with
      | some y =>
        rw [hst] at h
        simp only at h
        exact so_step tb B hcd hst I (ih _ _ h R s m args below meth c sh0 sl0 B)
      | none =>
        rw [hst] at h
        simp only at h
        cases hen : enI i a mi st sh gi gl gr sl with
        | some o =>
          rw [hen] at h
          simp only at h
          cases h
          exact so_end tb B hcd hen I
        | none =>
          rw [hen] at h
          simp only at h
          cases hca : caI i a b pc lc st sh gi gl gr sl with
          | none => rw [hca] at h; cases h
          | some q =>
            obtain ⟨mj, as, y⟩ := q
            rw [hca] at h
            simp only [Option.map_some] at h
            have hy : y.2.2.2 = ((sh, gi, gl, gr), sl) := call_as hca
            rw [hy] at h
            cases hr : exe n (mj, 0, lv_args 0 as, [], (sh, gi, gl, gr), sl) with
            | none => rw [hr] at h; cases h
            | some r2 =>
              rw [hr] at h
              have IH : IHc p l e w mj as (sh, gi, gl, gr) sl r2 := fun R' s' m' args' below' meth' c' H' locs' ls' B' I' => ih _ _ hr R' s' m' args' below' meth' c' sh.length sl B' H' locs' ls' I'
              obtain ⟨v | ⟨k9, E⟩, hs⟩ := r2
              · simp only at h
                refine so_call tb B hcd hca I IH (fun v' hv => ?_) (fun q hq => by cases hq)
                cases hv
                exact ih _ _ h R s m args below meth c sh0 sl0 B
              · simp only at h
                refine so_call tb B hcd hca I IH (fun v' hv => by cases hv) (fun q hq h1 h2 h3 => ?_)
                cases hq
                cases hh : hnd mi y.1 E with
                | none => rw [hh] at h; cases h
                | some z9 =>
                  rw [hh] at h
                  cases z9 with
                  | none =>
                    simp only at h
                    cases h
                    exact so_leave B hh (tb.2.2.2.2.2.2.2.1 mi) h1 h2 h3
                  | some pc' =>
                    simp only at h
                    exact so_caught B hh (tb.2.2.2.2.2.2.2.1 mi) (hX_ok tb mi (cd_lt tb hcd)) h1 h2 h3 (ih _ _ h R s m args below meth c sh0 sl0 B)
end
section
/-! running the small machine by rewriting: until a place named in stp, or a symbol that blocks -/
theorem Ev.stuck {x : Cf} {r : Out} (h : sx x = none) : ¬ Ev x r := by
  rintro ⟨n, hn⟩
  cases n with
  | zero => cases hn
  | succ n => rw [exe, h] at hn; cases hn
theorem Ev.callI {x : Cf} {y : Cg} {r : Out} {mj : Nat} {as : List Value} (h : sx x = some (.inr (.inl (mj, as, y)))) : Ev x r ↔ ∃ ro : Out, Ev (mj, 0, lv_args 0 as, [], y.2.2.2) ro ∧ (match ro with
    | (.inl v, hs) => Ev (x.1, y.1 + 3, y.2.1, v.toList ++ y.2.2.1, hs) r
    | (.inr q, hs) => match hnd x.1 y.1 q.2 with
      | none => False
      | some none => r = (.inr q, hs)
      | some (some pc') => Ev (x.1, pc', y.2.1, [.ref q.1], hs) r) := by
  constructor
  · rintro ⟨n, hn⟩
    cases n with
    | zero => cases hn
    | succ n =>
      rw [exe, h] at hn
      simp only at hn
      cases hr : exe n (mj, 0, lv_args 0 as, [], y.2.2.2) with
      | none => rw [hr] at hn; cases hn
      | some ro =>
        rw [hr] at hn
        refine ⟨ro, ⟨n, hr⟩, ?_⟩
        obtain ⟨v | ⟨q, E⟩, hs⟩ := ro
        · exact ⟨n, hn⟩
        · simp only at hn ⊢
          cases hh : hnd x.1 y.1 E with
          | none => rw [hh] at hn; cases hn
          | some z =>
            rw [hh] at hn
            cases z with
            | none => exact (Option.some.inj hn).symm
            | some pc' => exact ⟨n, hn⟩
  · rintro ⟨⟨v | ⟨q, E⟩, hs⟩, hc, hr⟩
    · exact (Ev.call h hc).mpr hr
    · simp only at hr
      cases hh : hnd x.1 y.1 E with
      | none => rw [hh] at hr; exact hr.elim
      | some z =>
        rw [hh] at hr
        cases z with
        | none =>
          simp only at hr
          subst hr
          exact Ev.throw h hc hh
        | some pc' => exact Ev.caught h hc hh hr
def EvU (stp : Nat → Bool) : Nat → Nat → Nat → Lc → List Value → Hp → Nat → Out → Prop
  | 0, mi, pc, ls, st, h, sl, r => Ev (mi, pc, ls, st, h, sl) r
  | k + 1, mi, pc, ls, st, h, sl, r => if stp pc = true then Ev (mi, pc, ls, st, h, sl) r else match cd mi pc with
    | some (.ifCond cc _, _, a, _) => (match st with
      | .int x :: st' => (match cc with
        | .eq => if x = 0 then EvU stp k mi a ls st' h sl r else EvU stp k mi (pc + 3) ls st' h sl r
        | .ne => if x = 0 then EvU stp k mi (pc + 3) ls st' h sl r else EvU stp k mi a ls st' h sl r
        | .lt => if x < 0 then EvU stp k mi a ls st' h sl r else EvU stp k mi (pc + 3) ls st' h sl r
        | .ge => if 0 ≤ x then EvU stp k mi a ls st' h sl r else EvU stp k mi (pc + 3) ls st' h sl r
        | .gt => if 0 < x then EvU stp k mi a ls st' h sl r else EvU stp k mi (pc + 3) ls st' h sl r
        | .le => if x ≤ 0 then EvU stp k mi a ls st' h sl r else EvU stp k mi (pc + 3) ls st' h sl r)
      | _ => False)
    | some (.if_icmp cc _, _, a, _) => (match st with
      | .int y :: .int x :: st' => (match cc with
        | .eq => if x = y then EvU stp k mi a ls st' h sl r else EvU stp k mi (pc + 3) ls st' h sl r
        | .ne => if x = y then EvU stp k mi (pc + 3) ls st' h sl r else EvU stp k mi a ls st' h sl r
        | .lt => if x < y then EvU stp k mi a ls st' h sl r else EvU stp k mi (pc + 3) ls st' h sl r
        | .ge => if y ≤ x then EvU stp k mi a ls st' h sl r else EvU stp k mi (pc + 3) ls st' h sl r
        | .gt => if y < x then EvU stp k mi a ls st' h sl r else EvU stp k mi (pc + 3) ls st' h sl r
        | .le => if x ≤ y then EvU stp k mi a ls st' h sl r else EvU stp k mi (pc + 3) ls st' h sl r)
      | _ => False)
    | _ => match sx (mi, pc, ls, st, h, sl) with
      | none => False
      | some (.inl y) => EvU stp k mi y.1 y.2.1 y.2.2.1 y.2.2.2.1 y.2.2.2.2 r
      | some (.inr (.inr o)) => r = o
      | some (.inr (.inl (mj, as, y))) => ∃ ro : Out, Ev (mj, 0, lv_args 0 as, [], y.2.2.2) ro ∧ (match ro with
        | (.inl v, hs) => EvU stp k mi (y.1 + 3) y.2.1 (v.toList ++ y.2.2.1) hs.1 hs.2 r
        | (.inr q, hs) => match hnd mi y.1 q.2 with
          | none => False
          | some none => r = (.inr q, hs)
          | some (some pc') => EvU stp k mi pc' y.2.1 [.ref q.1] hs.1 hs.2 r)
theorem Ev.iff1 {x : Cf} {r : Out} : Ev x r ↔ (match sx x with
      | none => False
      | some (.inl y) => Ev (x.1, y) r
      | some (.inr (.inr o)) => r = o
      | some (.inr (.inl (mj, as, y))) => ∃ ro : Out, Ev (mj, 0, lv_args 0 as, [], y.2.2.2) ro ∧ (match ro with
        | (.inl v, hs) => Ev (x.1, y.1 + 3, y.2.1, v.toList ++ y.2.2.1, hs) r
        | (.inr q, hs) => match hnd x.1 y.1 q.2 with
          | none => False
          | some none => r = (.inr q, hs)
          | some (some pc') => Ev (x.1, pc', y.2.1, [.ref q.1], hs) r)) := by
  cases h : sx x with
  | none => exact ⟨fun h' => absurd h' (Ev.stuck h), fun h' => h'.elim⟩
  | some z =>
    rcases z with y | ⟨mj, as, y⟩ | o
    · exact Ev.step h
    · exact Ev.callI h
    · exact Ev.fin h
theorem EvU_iff (stp : Nat → Bool) : ∀ (k mi pc : Nat) (ls : Lc) (st : List Value) (h : Hp) (sl : Nat) (r : Out), Ev (mi, pc, ls, st, h, sl) r ↔ EvU stp k mi pc ls st h sl r := by
  intro k
  induction k with
  | zero => intro mi pc ls st h sl r; exact Iff.rfl
  | succ k ih =>
    intro mi pc ls st h sl r
    unfold EvU
    by_cases hp : stp pc = true
    · rw [if_pos hp]
    · rw [if_neg hp]
      obtain ⟨sh, gi, gl, gr⟩ := h
      split
      · rename_i cc o9 l9 a q9 hcd
        rw [Ev.iff1]
        unfold sx
        simp only [hcd, stI, s_if, enI, caI, Option.map_none]
        cases st with
        | nil => exact Iff.rfl
        | cons v st' =>
          cases v with
          | int x =>
            cases cc
            · by_cases hq : x = 0 <;> simp only [br, go, hq, if_true, if_false] <;> exact ih _ _ _ _ _ _ _
            · by_cases hq : x = 0 <;> simp only [br, go, hq, if_true, if_false] <;> exact ih _ _ _ _ _ _ _
            · by_cases hq : x < 0 <;> simp only [br, go, hq, if_true, if_false] <;> exact ih _ _ _ _ _ _ _
            · by_cases hq : 0 ≤ x <;> simp only [br, go, hq, if_true, if_false] <;> exact ih _ _ _ _ _ _ _
            · by_cases hq : 0 < x <;> simp only [br, go, hq, if_true, if_false] <;> exact ih _ _ _ _ _ _ _
            · by_cases hq : x ≤ 0 <;> simp only [br, go, hq, if_true, if_false] <;> exact ih _ _ _ _ _ _ _
          | _ => exact Iff.rfl
      · rename_i cc o9 l9 a q9 hcd
        rw [Ev.iff1]
        unfold sx
        simp only [hcd, stI, s_icmp, enI, caI, Option.map_none]
        cases st with
        | nil => exact Iff.rfl
        | cons v st' =>
          cases v with
          | int y =>
            cases st' with
            | nil => exact Iff.rfl
            | cons v st' =>
              cases v with
              | int x =>
                cases cc
                · by_cases hq : x = y <;> simp only [br, go, hq, if_true, if_false] <;> exact ih _ _ _ _ _ _ _
                · by_cases hq : x = y <;> simp only [br, go, hq, if_true, if_false] <;> exact ih _ _ _ _ _ _ _
                · by_cases hq : x < y <;> simp only [br, go, hq, if_true, if_false] <;> exact ih _ _ _ _ _ _ _
                · by_cases hq : y ≤ x <;> simp only [br, go, hq, if_true, if_false] <;> exact ih _ _ _ _ _ _ _
                · by_cases hq : y < x <;> simp only [br, go, hq, if_true, if_false] <;> exact ih _ _ _ _ _ _ _
                · by_cases hq : x ≤ y <;> simp only [br, go, hq, if_true, if_false] <;> exact ih _ _ _ _ _ _ _
              | _ => exact Iff.rfl
          | _ => exact Iff.rfl
      · rw [Ev.iff1]
        cases sx (mi, pc, ls, st, (sh, gi, gl, gr), sl) with
        | none => exact Iff.rfl
        | some z =>
          rcases z with y | ⟨mj, as, y⟩ | o
          · exact ih _ _ _ _ _ _ _
          · simp only
            constructor
            · rintro ⟨⟨v | q, hs⟩, h1, h2⟩
              · exact ⟨_, h1, (ih _ _ _ _ _ _ _).mp h2⟩
              · refine ⟨_, h1, ?_⟩
                simp only at h2 ⊢
                cases hh : hnd mi y.1 q.2 with
                | none => rw [hh] at h2; exact h2
                | some z =>
                  rw [hh] at h2
                  cases z with
                  | none => exact h2
                  | some pc' => exact (ih _ _ _ _ _ _ _).mp h2
            · rintro ⟨⟨v | q, hs⟩, h1, h2⟩
              · exact ⟨_, h1, (ih _ _ _ _ _ _ _).mpr h2⟩
              · refine ⟨_, h1, ?_⟩
                simp only at h2 ⊢
                cases hh : hnd mi y.1 q.2 with
                | none => rw [hh] at h2; exact h2
                | some z =>
                  rw [hh] at h2
                  cases z with
                  | none => exact h2
                  | some pc' => exact (ih _ _ _ _ _ _ _).mpr h2
          · exact Iff.rfl
end
section
/-! ints of the machine as small integers -/
def oi (z : Int) : Int32 := Int32.ofInt z
abbrev sm (a : Int) : Prop := -2147483648 ≤ a ∧ a < 2147483648
theorem oi_of (z : Int) : Int32.ofInt z = oi z := rfl
theorem oi_add (a b : Int) : oi a + oi b = oi (a + b) := (Int32.ofInt_add a b).symm
theorem oi_sub (a b : Int) : oi a - oi b = oi (a - b) := (Int32.ofInt_sub a b).symm
theorem oi_mul (a b : Int) : oi a * oi b = oi (a * b) := (Int32.ofInt_mul a b).symm
theorem oi_toInt {a : Int} (h : sm a) : (oi a).toInt = a := Int32.toInt_ofInt_of_le (by have := h.1; omega) (by have := h.2; omega)
theorem oi_lt {a b : Int} (ha : sm a) (hb : sm b) : oi a < oi b ↔ a < b := by rw [Int32.lt_iff_toInt_lt, oi_toInt ha, oi_toInt hb]
theorem oi_le {a b : Int} (ha : sm a) (hb : sm b) : oi a ≤ oi b ↔ a ≤ b := by rw [Int32.le_iff_toInt_le, oi_toInt ha, oi_toInt hb]
theorem oi_eq {a b : Int} (ha : sm a) (hb : sm b) : oi a = oi b ↔ a = b := by rw [← Int32.toInt_inj, oi_toInt ha, oi_toInt hb]
theorem oi_0 : (0 : Int32) = oi 0 := by decide +kernel
theorem oi_eq0 {a : Int} (ha : sm a) : oi a = 0 ↔ a = 0 := by rw [oi_0, oi_eq ha (by decide)]
theorem oi_lt0 {a : Int} (ha : sm a) : oi a < 0 ↔ a < 0 := by rw [oi_0, oi_lt ha (by decide)]
theorem oi_le0 {a : Int} (ha : sm a) : oi a ≤ 0 ↔ a ≤ 0 := by rw [oi_0, oi_le ha (by decide)]
theorem oi_gt0 {a : Int} (ha : sm a) : 0 < oi a ↔ 0 < a := by rw [oi_0, oi_lt (by decide) ha]
theorem oi_ge0 {a : Int} (ha : sm a) : 0 ≤ oi a ↔ 0 ≤ a := by rw [oi_0, oi_le (by decide) ha]
theorem oi_cl {a : Int} (h : sm a) : (oi a).toNatClampNeg = a.toNat := by rw [← Int32.toNat_toInt, oi_toInt h]
theorem oi_in {a : Int} {n : Nat} (h0 : 0 ≤ a) (h1 : a < n) (hn : n < 2147483648) : (oi a < 0 ∨ n ≤ (oi a).toNatClampNeg) ↔ False := by
  have hs : sm a := ⟨by omega, by omega⟩
  rw [oi_lt0 hs, oi_cl hs]
  constructor
  · intro h
    omega
  · exact False.elim
theorem oi_all (x : Int32) : ∃ a : Int, sm a ∧ x = oi a := ⟨x.toInt, ⟨by have := Int32.le_toInt x; omega, by have := Int32.toInt_lt x; omega⟩, (Int32.ofInt_toInt x).symm⟩
/-- what needs no division: one round off at most -/
def rd (a n : Int) : Int := if a < 0 then a + n else if n ≤ a then a - n else a
end
section
/-! rows of the code, by program -/
def conjL (k : Nat) : List (Nat × En) → Prop
  | [] => True
  | z :: t => cd k z.1 = some z.2 ∧ conjL k t
theorem conjL_of (k : Nat) : ∀ l : List (Nat × En), l.all (fun z => decide (cd k z.1 = some z.2)) = true → conjL k l
  | [], _ => trivial
  | z :: t, h => by
    rw [List.all_cons, Bool.and_eq_true, decide_eq_true_eq] at h
    exact ⟨h.1, conjL_of k t h.2⟩
theorem D0_0 : cd 0 0 = some ((.new 8), 3, 0, 4, 0, 60) ∧ cd 0 3 = some (.dup, 1, 0, 0, 0, 0) ∧ cd 0 4 = some ((.invokespecial 97), 3, 1, 0, 2, 62) ∧ cd 0 7 = some ((.astore_n 1), 1, 0, 0, 0, 0) ∧ cd 0 8 = some ((.new 98), 3, 9, 24, 0, 794) ∧ cd 0 11 = some (.dup, 1, 0, 0, 0, 0) ∧ cd 0 12 = some ((.invokespecial 100), 3, 113, 0, 2, 796) ∧ cd 0 15 = some ((.astore_n 2), 1, 0, 0, 0, 0) ∧ cd 0 16 = some ((.iconst 1), 1, 0, 0, 0, 0) ∧ cd 0 17 = some ((.newarray .long), 2, 2, 0, 0, 0) ∧ cd 0 19 = some ((.astore_n 3), 1, 0, 0, 0, 0) ∧ cd 0 20 = some ((.iconst 0), 1, 0, 0, 0, 0) ∧ cd 0 21 = some ((.istore 4), 2, 0, 0, 0, 0) ∧ cd 0 23 = some ((.iload 4), 2, 0, 0, 0, 0) ∧ cd 0 25 = some ((.aload_n 0), 1, 0, 0, 0, 0) ∧ cd 0 26 = some (.arraylength, 1, 0, 0, 0, 0) ∧ cd 0 27 = some ((.iconst 4), 1, 0, 0, 0, 0) ∧ cd 0 28 = some (.isub, 1, 0, 0, 0, 0) ∧ cd 0 29 = some ((.if_icmp .gt 1767), 3, 1796, 0, 0, 0) ∧ cd 0 32 = some ((.aload_n 0), 1, 0, 0, 0, 0) ∧ cd 0 33 = some ((.iload 4), 2, 0, 0, 0, 0) ∧ cd 0 35 = some (.iaload, 1, 0, 0, 0, 0) ∧ cd 0 36 = some ((.bipush 31), 2, 0, 0, 0, 0) ∧ cd 0 38 = some (.iand, 1, 0, 0, 0, 0) ∧ cd 0 39 = some ((.tableswitch 1751 0 25 #[117, 173, 253, 321, 424, 492, 552, 620, 699, 767, 870, 930, 986, 1042, 1122, 1178, 1234, 1290, 1358, 1402, 1458, 1471, 1515, 1559, 1639, 1695]), 117, 0, 0, 0, 0) ∧ cd 0 156 = some ((.aload_n 1), 1, 0, 0, 0, 0) ∧ cd 0 157 = some ((.aload_n 0), 1, 0, 0, 0, 0) ∧ cd 0 158 = some ((.iload 4), 2, 0, 0, 0, 0) ∧ cd 0 160 = some ((.iconst 1), 1, 0, 0, 0, 0) ∧ cd 0 161 = some (.iadd, 1, 0, 0, 0, 0) ∧ cd 0 162 = some (.iaload, 1, 0, 0, 0, 0) ∧ cd 0 163 = some ((.aload_n 3), 1, 0, 0, 0, 0) ∧ cd 0 164 = some ((.invokestatic 101), 3, 27, 3, 0, 354) ∧ cd 0 167 = some ((.istore 5), 2, 0, 0, 0, 0) ∧ cd 0 169 = some ((.aload_n 2), 1, 0, 0, 0, 0) ∧ cd 0 170 = some ((.aload_n 0), 1, 0, 0, 0, 0) ∧ cd 0 171 = some ((.iload 4), 2, 0, 0, 0, 0) ∧ cd 0 173 = some ((.iconst 1), 1, 0, 0, 0, 0) ∧ cd 0 174 = some (.iadd, 1, 0, 0, 0, 0) ∧ cd 0 175 = some (.iaload, 1, 0, 0, 0, 0) ∧ True := conjL_of 0 c0_0 (by decide +kernel)
theorem D0_1 : cd 0 176 = some ((.invokevirtual 106), 3, 116, 1, 1, 881) ∧ cd 0 179 = some ((.istore 6), 2, 0, 0, 0, 0) ∧ cd 0 181 = some ((.aload_n 2), 1, 0, 0, 0, 0) ∧ cd 0 182 = some ((.invokevirtual 107), 3, 115, 0, 1, 877) ∧ cd 0 185 = some ((.iload 5), 2, 0, 0, 0, 0) ∧ cd 0 187 = some ((.if_icmp .eq 5), 3, 192, 0, 0, 0) ∧ cd 0 190 = some ((.iconst 0), 1, 0, 0, 0, 0) ∧ cd 0 191 = some (.ireturn, 1, 0, 0, 0, 0) ∧ cd 0 192 = some ((.iload 5), 2, 0, 0, 0, 0) ∧ cd 0 194 = some ((.ifCond .ne 15), 3, 209, 0, 0, 0) ∧ cd 0 197 = some ((.aload_n 3), 1, 0, 0, 0, 0) ∧ cd 0 198 = some ((.iconst 0), 1, 0, 0, 0, 0) ∧ cd 0 199 = some (.laload, 1, 0, 0, 0, 0) ∧ cd 0 200 = some ((.iload 6), 2, 0, 0, 0, 0) ∧ cd 0 202 = some (.i2l, 1, 0, 0, 0, 0) ∧ cd 0 203 = some (.lcmp, 1, 0, 0, 0, 0) ∧ cd 0 204 = some ((.ifCond .eq 5), 3, 209, 0, 0, 0) ∧ cd 0 207 = some ((.iconst 0), 1, 0, 0, 0, 0) ∧ cd 0 208 = some (.ireturn, 1, 0, 0, 0, 0) ∧ cd 0 209 = some ((.goto 1581), 3, 1790, 0, 0, 0) ∧ cd 0 212 = some ((.aload_n 1), 1, 0, 0, 0, 0) ∧ cd 0 213 = some ((.aload_n 0), 1, 0, 0, 0, 0) ∧ cd 0 214 = some ((.iload 4), 2, 0, 0, 0, 0) ∧ cd 0 216 = some ((.iconst 1), 1, 0, 0, 0, 0) ∧ cd 0 217 = some (.iadd, 1, 0, 0, 0, 0) ∧ cd 0 218 = some (.iaload, 1, 0, 0, 0, 0) ∧ cd 0 219 = some ((.aload_n 0), 1, 0, 0, 0, 0) ∧ cd 0 220 = some ((.iload 4), 2, 0, 0, 0, 0) ∧ cd 0 222 = some ((.iconst 2), 1, 0, 0, 0, 0) ∧ cd 0 223 = some (.iadd, 1, 0, 0, 0, 0) ∧ cd 0 224 = some (.iaload, 1, 0, 0, 0, 0) ∧ cd 0 225 = some ((.aload_n 0), 1, 0, 0, 0, 0) ∧ cd 0 226 = some ((.iload 4), 2, 0, 0, 0, 0) ∧ cd 0 228 = some ((.iconst 3), 1, 0, 0, 0, 0) ∧ cd 0 229 = some (.iadd, 1, 0, 0, 0, 0) ∧ cd 0 230 = some (.iaload, 1, 0, 0, 0, 0) ∧ cd 0 231 = some ((.aload_n 3), 1, 0, 0, 0, 0) ∧ cd 0 232 = some ((.invokestatic 110), 3, 32, 5, 0, 459) ∧ cd 0 235 = some ((.istore 5), 2, 0, 0, 0, 0) ∧ cd 0 237 = some ((.aload_n 2), 1, 0, 0, 0, 0) ∧ True := conjL_of 0 c0_1 (by decide +kernel)
theorem D0_2 : cd 0 238 = some ((.aload_n 0), 1, 0, 0, 0, 0) ∧ cd 0 239 = some ((.iload 4), 2, 0, 0, 0, 0) ∧ cd 0 241 = some ((.iconst 1), 1, 0, 0, 0, 0) ∧ cd 0 242 = some (.iadd, 1, 0, 0, 0, 0) ∧ cd 0 243 = some (.iaload, 1, 0, 0, 0, 0) ∧ cd 0 244 = some ((.aload_n 0), 1, 0, 0, 0, 0) ∧ cd 0 245 = some ((.iload 4), 2, 0, 0, 0, 0) ∧ cd 0 247 = some ((.iconst 2), 1, 0, 0, 0, 0) ∧ cd 0 248 = some (.iadd, 1, 0, 0, 0, 0) ∧ cd 0 249 = some (.iaload, 1, 0, 0, 0, 0) ∧ cd 0 250 = some ((.aload_n 0), 1, 0, 0, 0, 0) ∧ cd 0 251 = some ((.iload 4), 2, 0, 0, 0, 0) ∧ cd 0 253 = some ((.iconst 3), 1, 0, 0, 0, 0) ∧ cd 0 254 = some (.iadd, 1, 0, 0, 0, 0) ∧ cd 0 255 = some (.iaload, 1, 0, 0, 0, 0) ∧ cd 0 256 = some ((.invokevirtual 113), 3, 118, 3, 1, 889) ∧ cd 0 259 = some ((.istore 6), 2, 0, 0, 0, 0) ∧ cd 0 261 = some ((.aload_n 2), 1, 0, 0, 0, 0) ∧ cd 0 262 = some ((.invokevirtual 107), 3, 115, 0, 1, 877) ∧ cd 0 265 = some ((.iload 5), 2, 0, 0, 0, 0) ∧ cd 0 267 = some ((.if_icmp .eq 5), 3, 272, 0, 0, 0) ∧ cd 0 270 = some ((.iconst 0), 1, 0, 0, 0, 0) ∧ cd 0 271 = some (.ireturn, 1, 0, 0, 0, 0) ∧ cd 0 272 = some ((.iload 5), 2, 0, 0, 0, 0) ∧ cd 0 274 = some ((.ifCond .ne 15), 3, 289, 0, 0, 0) ∧ cd 0 277 = some ((.aload_n 3), 1, 0, 0, 0, 0) ∧ cd 0 278 = some ((.iconst 0), 1, 0, 0, 0, 0) ∧ cd 0 279 = some (.laload, 1, 0, 0, 0, 0) ∧ cd 0 280 = some ((.iload 6), 2, 0, 0, 0, 0) ∧ cd 0 282 = some (.i2l, 1, 0, 0, 0, 0) ∧ cd 0 283 = some (.lcmp, 1, 0, 0, 0, 0) ∧ cd 0 284 = some ((.ifCond .eq 5), 3, 289, 0, 0, 0) ∧ cd 0 287 = some ((.iconst 0), 1, 0, 0, 0, 0) ∧ cd 0 288 = some (.ireturn, 1, 0, 0, 0, 0) ∧ cd 0 289 = some ((.goto 1501), 3, 1790, 0, 0, 0) ∧ cd 0 292 = some ((.aload_n 1), 1, 0, 0, 0, 0) ∧ cd 0 293 = some ((.aload_n 0), 1, 0, 0, 0, 0) ∧ cd 0 294 = some ((.iload 4), 2, 0, 0, 0, 0) ∧ cd 0 296 = some ((.iconst 1), 1, 0, 0, 0, 0) ∧ cd 0 297 = some (.iadd, 1, 0, 0, 0, 0) ∧ True := conjL_of 0 c0_2 (by decide +kernel)
theorem D0_3 : cd 0 298 = some (.iaload, 1, 0, 0, 0, 0) ∧ cd 0 299 = some ((.aload_n 0), 1, 0, 0, 0, 0) ∧ cd 0 300 = some ((.iload 4), 2, 0, 0, 0, 0) ∧ cd 0 302 = some ((.iconst 2), 1, 0, 0, 0, 0) ∧ cd 0 303 = some (.iadd, 1, 0, 0, 0, 0) ∧ cd 0 304 = some (.iaload, 1, 0, 0, 0, 0) ∧ cd 0 305 = some ((.aload_n 3), 1, 0, 0, 0, 0) ∧ cd 0 306 = some ((.invokestatic 114), 3, 37, 4, 0, 494) ∧ cd 0 309 = some ((.istore 5), 2, 0, 0, 0, 0) ∧ cd 0 311 = some ((.aload_n 2), 1, 0, 0, 0, 0) ∧ cd 0 312 = some ((.aload_n 0), 1, 0, 0, 0, 0) ∧ cd 0 313 = some ((.iload 4), 2, 0, 0, 0, 0) ∧ cd 0 315 = some ((.iconst 1), 1, 0, 0, 0, 0) ∧ cd 0 316 = some (.iadd, 1, 0, 0, 0, 0) ∧ cd 0 317 = some (.iaload, 1, 0, 0, 0, 0) ∧ cd 0 318 = some ((.aload_n 0), 1, 0, 0, 0, 0) ∧ cd 0 319 = some ((.iload 4), 2, 0, 0, 0, 0) ∧ cd 0 321 = some ((.iconst 2), 1, 0, 0, 0, 0) ∧ cd 0 322 = some (.iadd, 1, 0, 0, 0, 0) ∧ cd 0 323 = some (.iaload, 1, 0, 0, 0, 0) ∧ cd 0 324 = some ((.invokevirtual 117), 3, 121, 2, 1, 900) ∧ cd 0 327 = some ((.istore 6), 2, 0, 0, 0, 0) ∧ cd 0 329 = some ((.aload_n 2), 1, 0, 0, 0, 0) ∧ cd 0 330 = some ((.invokevirtual 107), 3, 115, 0, 1, 877) ∧ cd 0 333 = some ((.iload 5), 2, 0, 0, 0, 0) ∧ cd 0 335 = some ((.if_icmp .eq 5), 3, 340, 0, 0, 0) ∧ cd 0 338 = some ((.iconst 0), 1, 0, 0, 0, 0) ∧ cd 0 339 = some (.ireturn, 1, 0, 0, 0, 0) ∧ cd 0 340 = some ((.iload 5), 2, 0, 0, 0, 0) ∧ cd 0 342 = some ((.ifCond .ne 15), 3, 357, 0, 0, 0) ∧ cd 0 345 = some ((.aload_n 3), 1, 0, 0, 0, 0) ∧ cd 0 346 = some ((.iconst 0), 1, 0, 0, 0, 0) ∧ cd 0 347 = some (.laload, 1, 0, 0, 0, 0) ∧ cd 0 348 = some ((.iload 6), 2, 0, 0, 0, 0) ∧ cd 0 350 = some (.i2l, 1, 0, 0, 0, 0) ∧ cd 0 351 = some (.lcmp, 1, 0, 0, 0, 0) ∧ cd 0 352 = some ((.ifCond .eq 5), 3, 357, 0, 0, 0) ∧ cd 0 355 = some ((.iconst 0), 1, 0, 0, 0, 0) ∧ cd 0 356 = some (.ireturn, 1, 0, 0, 0, 0) ∧ cd 0 357 = some ((.goto 1433), 3, 1790, 0, 0, 0) ∧ True := conjL_of 0 c0_3 (by decide +kernel)
theorem D0_4 : cd 0 360 = some ((.aload_n 1), 1, 0, 0, 0, 0) ∧ cd 0 361 = some ((.aload_n 0), 1, 0, 0, 0, 0) ∧ cd 0 362 = some ((.iload 4), 2, 0, 0, 0, 0) ∧ cd 0 364 = some ((.iconst 1), 1, 0, 0, 0, 0) ∧ cd 0 365 = some (.iadd, 1, 0, 0, 0, 0) ∧ cd 0 366 = some (.iaload, 1, 0, 0, 0, 0) ∧ cd 0 367 = some ((.aload_n 0), 1, 0, 0, 0, 0) ∧ cd 0 368 = some ((.iload 4), 2, 0, 0, 0, 0) ∧ cd 0 370 = some ((.iconst 2), 1, 0, 0, 0, 0) ∧ cd 0 371 = some (.iadd, 1, 0, 0, 0, 0) ∧ cd 0 372 = some (.iaload, 1, 0, 0, 0, 0) ∧ cd 0 373 = some ((.aload_n 0), 1, 0, 0, 0, 0) ∧ cd 0 374 = some ((.iload 4), 2, 0, 0, 0, 0) ∧ cd 0 376 = some ((.iconst 3), 1, 0, 0, 0, 0) ∧ cd 0 377 = some (.iadd, 1, 0, 0, 0, 0) ∧ cd 0 378 = some (.iaload, 1, 0, 0, 0, 0) ∧ cd 0 379 = some ((.ifCond .eq 7), 3, 386, 0, 0, 0) ∧ cd 0 382 = some ((.iconst 1), 1, 0, 0, 0, 0) ∧ cd 0 383 = some ((.goto 4), 3, 387, 0, 0, 0) ∧ cd 0 386 = some ((.iconst 0), 1, 0, 0, 0, 0) ∧ cd 0 387 = some ((.aload_n 3), 1, 0, 0, 0, 0) ∧ cd 0 388 = some ((.invokestatic 118), 3, 39, 5, 0, 501) ∧ cd 0 391 = some ((.istore 5), 2, 0, 0, 0, 0) ∧ cd 0 393 = some ((.aload_n 2), 1, 0, 0, 0, 0) ∧ cd 0 394 = some ((.aload_n 0), 1, 0, 0, 0, 0) ∧ cd 0 395 = some ((.iload 4), 2, 0, 0, 0, 0) ∧ cd 0 397 = some ((.iconst 1), 1, 0, 0, 0, 0) ∧ cd 0 398 = some (.iadd, 1, 0, 0, 0, 0) ∧ cd 0 399 = some (.iaload, 1, 0, 0, 0, 0) ∧ cd 0 400 = some ((.aload_n 0), 1, 0, 0, 0, 0) ∧ cd 0 401 = some ((.iload 4), 2, 0, 0, 0, 0) ∧ cd 0 403 = some ((.iconst 2), 1, 0, 0, 0, 0) ∧ cd 0 404 = some (.iadd, 1, 0, 0, 0, 0) ∧ cd 0 405 = some (.iaload, 1, 0, 0, 0, 0) ∧ cd 0 406 = some ((.aload_n 0), 1, 0, 0, 0, 0) ∧ cd 0 407 = some ((.iload 4), 2, 0, 0, 0, 0) ∧ cd 0 409 = some ((.iconst 3), 1, 0, 0, 0, 0) ∧ cd 0 410 = some (.iadd, 1, 0, 0, 0, 0) ∧ cd 0 411 = some (.iaload, 1, 0, 0, 0, 0) ∧ cd 0 412 = some ((.ifCond .eq 7), 3, 419, 0, 0, 0) ∧ True := conjL_of 0 c0_4 (by decide +kernel)
theorem D0_5 : cd 0 415 = some ((.iconst 1), 1, 0, 0, 0, 0) ∧ cd 0 416 = some ((.goto 4), 3, 420, 0, 0, 0) ∧ cd 0 419 = some ((.iconst 0), 1, 0, 0, 0, 0) ∧ cd 0 420 = some ((.invokevirtual 121), 3, 122, 3, 1, 904) ∧ cd 0 423 = some ((.istore 6), 2, 0, 0, 0, 0) ∧ cd 0 425 = some ((.aload_n 2), 1, 0, 0, 0, 0) ∧ cd 0 426 = some ((.invokevirtual 107), 3, 115, 0, 1, 877) ∧ cd 0 429 = some ((.iload 5), 2, 0, 0, 0, 0) ∧ cd 0 431 = some ((.if_icmp .eq 5), 3, 436, 0, 0, 0) ∧ cd 0 434 = some ((.iconst 0), 1, 0, 0, 0, 0) ∧ cd 0 435 = some (.ireturn, 1, 0, 0, 0, 0) ∧ cd 0 436 = some ((.iload 5), 2, 0, 0, 0, 0) ∧ cd 0 438 = some ((.ifCond .ne 22), 3, 460, 0, 0, 0) ∧ cd 0 441 = some ((.aload_n 3), 1, 0, 0, 0, 0) ∧ cd 0 442 = some ((.iconst 0), 1, 0, 0, 0, 0) ∧ cd 0 443 = some (.laload, 1, 0, 0, 0, 0) ∧ cd 0 444 = some ((.iload 6), 2, 0, 0, 0, 0) ∧ cd 0 446 = some ((.ifCond .eq 7), 3, 453, 0, 0, 0) ∧ cd 0 449 = some ((.lconst 1), 1, 0, 0, 0, 0) ∧ cd 0 450 = some ((.goto 4), 3, 454, 0, 0, 0) ∧ cd 0 453 = some ((.lconst 0), 1, 0, 0, 0, 0) ∧ cd 0 454 = some (.lcmp, 1, 0, 0, 0, 0) ∧ cd 0 455 = some ((.ifCond .eq 5), 3, 460, 0, 0, 0) ∧ cd 0 458 = some ((.iconst 0), 1, 0, 0, 0, 0) ∧ cd 0 459 = some (.ireturn, 1, 0, 0, 0, 0) ∧ cd 0 460 = some ((.goto 1330), 3, 1790, 0, 0, 0) ∧ cd 0 463 = some ((.aload_n 1), 1, 0, 0, 0, 0) ∧ cd 0 464 = some ((.aload_n 0), 1, 0, 0, 0, 0) ∧ cd 0 465 = some ((.iload 4), 2, 0, 0, 0, 0) ∧ cd 0 467 = some ((.iconst 1), 1, 0, 0, 0, 0) ∧ cd 0 468 = some (.iadd, 1, 0, 0, 0, 0) ∧ cd 0 469 = some (.iaload, 1, 0, 0, 0, 0) ∧ cd 0 470 = some ((.aload_n 0), 1, 0, 0, 0, 0) ∧ cd 0 471 = some ((.iload 4), 2, 0, 0, 0, 0) ∧ cd 0 473 = some ((.iconst 2), 1, 0, 0, 0, 0) ∧ cd 0 474 = some (.iadd, 1, 0, 0, 0, 0) ∧ cd 0 475 = some (.iaload, 1, 0, 0, 0, 0) ∧ cd 0 476 = some ((.aload_n 3), 1, 0, 0, 0, 0) ∧ cd 0 477 = some ((.invokestatic 122), 3, 42, 4, 0, 511) ∧ cd 0 480 = some ((.istore 5), 2, 0, 0, 0, 0) ∧ True := conjL_of 0 c0_5 (by decide +kernel)
theorem D0_6 : cd 0 482 = some ((.aload_n 2), 1, 0, 0, 0, 0) ∧ cd 0 483 = some ((.aload_n 0), 1, 0, 0, 0, 0) ∧ cd 0 484 = some ((.iload 4), 2, 0, 0, 0, 0) ∧ cd 0 486 = some ((.iconst 1), 1, 0, 0, 0, 0) ∧ cd 0 487 = some (.iadd, 1, 0, 0, 0, 0) ∧ cd 0 488 = some (.iaload, 1, 0, 0, 0, 0) ∧ cd 0 489 = some ((.aload_n 0), 1, 0, 0, 0, 0) ∧ cd 0 490 = some ((.iload 4), 2, 0, 0, 0, 0) ∧ cd 0 492 = some ((.iconst 2), 1, 0, 0, 0, 0) ∧ cd 0 493 = some (.iadd, 1, 0, 0, 0, 0) ∧ cd 0 494 = some (.iaload, 1, 0, 0, 0, 0) ∧ cd 0 495 = some ((.invokevirtual 124), 3, 123, 2, 1, 908) ∧ cd 0 498 = some ((.istore 6), 2, 0, 0, 0, 0) ∧ cd 0 500 = some ((.aload_n 2), 1, 0, 0, 0, 0) ∧ cd 0 501 = some ((.invokevirtual 107), 3, 115, 0, 1, 877) ∧ cd 0 504 = some ((.iload 5), 2, 0, 0, 0, 0) ∧ cd 0 506 = some ((.if_icmp .eq 5), 3, 511, 0, 0, 0) ∧ cd 0 509 = some ((.iconst 0), 1, 0, 0, 0, 0) ∧ cd 0 510 = some (.ireturn, 1, 0, 0, 0, 0) ∧ cd 0 511 = some ((.iload 5), 2, 0, 0, 0, 0) ∧ cd 0 513 = some ((.ifCond .ne 15), 3, 528, 0, 0, 0) ∧ cd 0 516 = some ((.aload_n 3), 1, 0, 0, 0, 0) ∧ cd 0 517 = some ((.iconst 0), 1, 0, 0, 0, 0) ∧ cd 0 518 = some (.laload, 1, 0, 0, 0, 0) ∧ cd 0 519 = some ((.iload 6), 2, 0, 0, 0, 0) ∧ cd 0 521 = some (.i2l, 1, 0, 0, 0, 0) ∧ cd 0 522 = some (.lcmp, 1, 0, 0, 0, 0) ∧ cd 0 523 = some ((.ifCond .eq 5), 3, 528, 0, 0, 0) ∧ cd 0 526 = some ((.iconst 0), 1, 0, 0, 0, 0) ∧ cd 0 527 = some (.ireturn, 1, 0, 0, 0, 0) ∧ cd 0 528 = some ((.goto 1262), 3, 1790, 0, 0, 0) ∧ cd 0 531 = some ((.aload_n 1), 1, 0, 0, 0, 0) ∧ cd 0 532 = some ((.aload_n 0), 1, 0, 0, 0, 0) ∧ cd 0 533 = some ((.iload 4), 2, 0, 0, 0, 0) ∧ cd 0 535 = some ((.iconst 1), 1, 0, 0, 0, 0) ∧ cd 0 536 = some (.iadd, 1, 0, 0, 0, 0) ∧ cd 0 537 = some (.iaload, 1, 0, 0, 0, 0) ∧ cd 0 538 = some ((.aload_n 0), 1, 0, 0, 0, 0) ∧ cd 0 539 = some ((.iload 4), 2, 0, 0, 0, 0) ∧ cd 0 541 = some ((.iconst 2), 1, 0, 0, 0, 0) ∧ True := conjL_of 0 c0_6 (by decide +kernel)
theorem D0_7 : cd 0 542 = some (.iadd, 1, 0, 0, 0, 0) ∧ cd 0 543 = some (.iaload, 1, 0, 0, 0, 0) ∧ cd 0 544 = some ((.aload_n 0), 1, 0, 0, 0, 0) ∧ cd 0 545 = some ((.iload 4), 2, 0, 0, 0, 0) ∧ cd 0 547 = some ((.iconst 3), 1, 0, 0, 0, 0) ∧ cd 0 548 = some (.iadd, 1, 0, 0, 0, 0) ∧ cd 0 549 = some (.iaload, 1, 0, 0, 0, 0) ∧ cd 0 550 = some ((.invokestatic 125), 3, 47, 4, 0, 530) ∧ cd 0 553 = some ((.istore 5), 2, 0, 0, 0, 0) ∧ cd 0 555 = some ((.aload_n 2), 1, 0, 0, 0, 0) ∧ cd 0 556 = some ((.aload_n 0), 1, 0, 0, 0, 0) ∧ cd 0 557 = some ((.iload 4), 2, 0, 0, 0, 0) ∧ cd 0 559 = some ((.iconst 1), 1, 0, 0, 0, 0) ∧ cd 0 560 = some (.iadd, 1, 0, 0, 0, 0) ∧ cd 0 561 = some (.iaload, 1, 0, 0, 0, 0) ∧ cd 0 562 = some ((.aload_n 0), 1, 0, 0, 0, 0) ∧ cd 0 563 = some ((.iload 4), 2, 0, 0, 0, 0) ∧ cd 0 565 = some ((.iconst 2), 1, 0, 0, 0, 0) ∧ cd 0 566 = some (.iadd, 1, 0, 0, 0, 0) ∧ cd 0 567 = some (.iaload, 1, 0, 0, 0, 0) ∧ cd 0 568 = some ((.aload_n 0), 1, 0, 0, 0, 0) ∧ cd 0 569 = some ((.iload 4), 2, 0, 0, 0, 0) ∧ cd 0 571 = some ((.iconst 3), 1, 0, 0, 0, 0) ∧ cd 0 572 = some (.iadd, 1, 0, 0, 0, 0) ∧ cd 0 573 = some (.iaload, 1, 0, 0, 0, 0) ∧ cd 0 574 = some ((.invokevirtual 128), 3, 124, 3, 1, 912) ∧ cd 0 577 = some ((.aload_n 2), 1, 0, 0, 0, 0) ∧ cd 0 578 = some ((.invokevirtual 107), 3, 115, 0, 1, 877) ∧ cd 0 581 = some ((.iload 5), 2, 0, 0, 0, 0) ∧ cd 0 583 = some ((.if_icmp .eq 5), 3, 588, 0, 0, 0) ∧ cd 0 586 = some ((.iconst 0), 1, 0, 0, 0, 0) ∧ cd 0 587 = some (.ireturn, 1, 0, 0, 0, 0) ∧ cd 0 588 = some ((.goto 1202), 3, 1790, 0, 0, 0) ∧ cd 0 591 = some ((.aload_n 1), 1, 0, 0, 0, 0) ∧ cd 0 592 = some ((.aload_n 0), 1, 0, 0, 0, 0) ∧ cd 0 593 = some ((.iload 4), 2, 0, 0, 0, 0) ∧ cd 0 595 = some ((.iconst 1), 1, 0, 0, 0, 0) ∧ cd 0 596 = some (.iadd, 1, 0, 0, 0, 0) ∧ cd 0 597 = some (.iaload, 1, 0, 0, 0, 0) ∧ cd 0 598 = some ((.aload_n 0), 1, 0, 0, 0, 0) ∧ True := conjL_of 0 c0_7 (by decide +kernel)
theorem D0_8 : cd 0 599 = some ((.iload 4), 2, 0, 0, 0, 0) ∧ cd 0 601 = some ((.iconst 2), 1, 0, 0, 0, 0) ∧ cd 0 602 = some (.iadd, 1, 0, 0, 0, 0) ∧ cd 0 603 = some (.iaload, 1, 0, 0, 0, 0) ∧ cd 0 604 = some ((.aload_n 3), 1, 0, 0, 0, 0) ∧ cd 0 605 = some ((.invokestatic 129), 3, 52, 4, 0, 551) ∧ cd 0 608 = some ((.istore 5), 2, 0, 0, 0, 0) ∧ cd 0 610 = some ((.aload_n 2), 1, 0, 0, 0, 0) ∧ cd 0 611 = some ((.aload_n 0), 1, 0, 0, 0, 0) ∧ cd 0 612 = some ((.iload 4), 2, 0, 0, 0, 0) ∧ cd 0 614 = some ((.iconst 1), 1, 0, 0, 0, 0) ∧ cd 0 615 = some (.iadd, 1, 0, 0, 0, 0) ∧ cd 0 616 = some (.iaload, 1, 0, 0, 0, 0) ∧ cd 0 617 = some ((.aload_n 0), 1, 0, 0, 0, 0) ∧ cd 0 618 = some ((.iload 4), 2, 0, 0, 0, 0) ∧ cd 0 620 = some ((.iconst 2), 1, 0, 0, 0, 0) ∧ cd 0 621 = some (.iadd, 1, 0, 0, 0, 0) ∧ cd 0 622 = some (.iaload, 1, 0, 0, 0, 0) ∧ cd 0 623 = some ((.invokevirtual 131), 3, 126, 2, 1, 920) ∧ cd 0 626 = some ((.istore 6), 2, 0, 0, 0, 0) ∧ cd 0 628 = some ((.aload_n 2), 1, 0, 0, 0, 0) ∧ cd 0 629 = some ((.invokevirtual 107), 3, 115, 0, 1, 877) ∧ cd 0 632 = some ((.iload 5), 2, 0, 0, 0, 0) ∧ cd 0 634 = some ((.if_icmp .eq 5), 3, 639, 0, 0, 0) ∧ cd 0 637 = some ((.iconst 0), 1, 0, 0, 0, 0) ∧ cd 0 638 = some (.ireturn, 1, 0, 0, 0, 0) ∧ cd 0 639 = some ((.iload 5), 2, 0, 0, 0, 0) ∧ cd 0 641 = some ((.ifCond .ne 15), 3, 656, 0, 0, 0) ∧ cd 0 644 = some ((.aload_n 3), 1, 0, 0, 0, 0) ∧ cd 0 645 = some ((.iconst 0), 1, 0, 0, 0, 0) ∧ cd 0 646 = some (.laload, 1, 0, 0, 0, 0) ∧ cd 0 647 = some ((.iload 6), 2, 0, 0, 0, 0) ∧ cd 0 649 = some (.i2l, 1, 0, 0, 0, 0) ∧ cd 0 650 = some (.lcmp, 1, 0, 0, 0, 0) ∧ cd 0 651 = some ((.ifCond .eq 5), 3, 656, 0, 0, 0) ∧ cd 0 654 = some ((.iconst 0), 1, 0, 0, 0, 0) ∧ cd 0 655 = some (.ireturn, 1, 0, 0, 0, 0) ∧ cd 0 656 = some ((.goto 1134), 3, 1790, 0, 0, 0) ∧ cd 0 659 = some ((.aload_n 1), 1, 0, 0, 0, 0) ∧ cd 0 660 = some ((.aload_n 0), 1, 0, 0, 0, 0) ∧ True := conjL_of 0 c0_8 (by decide +kernel)
theorem D0_9 : cd 0 661 = some ((.iload 4), 2, 0, 0, 0, 0) ∧ cd 0 663 = some ((.iconst 1), 1, 0, 0, 0, 0) ∧ cd 0 664 = some (.iadd, 1, 0, 0, 0, 0) ∧ cd 0 665 = some (.iaload, 1, 0, 0, 0, 0) ∧ cd 0 666 = some ((.ifCond .eq 7), 3, 673, 0, 0, 0) ∧ cd 0 669 = some ((.iconst 1), 1, 0, 0, 0, 0) ∧ cd 0 670 = some ((.goto 4), 3, 674, 0, 0, 0) ∧ cd 0 673 = some ((.iconst 0), 1, 0, 0, 0, 0) ∧ cd 0 674 = some ((.aload_n 3), 1, 0, 0, 0, 0) ∧ cd 0 675 = some ((.invokestatic 132), 3, 55, 3, 0, 562) ∧ cd 0 678 = some ((.istore 5), 2, 0, 0, 0, 0) ∧ cd 0 680 = some ((.aload_n 2), 1, 0, 0, 0, 0) ∧ cd 0 681 = some ((.aload_n 0), 1, 0, 0, 0, 0) ∧ cd 0 682 = some ((.iload 4), 2, 0, 0, 0, 0) ∧ cd 0 684 = some ((.iconst 1), 1, 0, 0, 0, 0) ∧ cd 0 685 = some (.iadd, 1, 0, 0, 0, 0) ∧ cd 0 686 = some (.iaload, 1, 0, 0, 0, 0) ∧ cd 0 687 = some ((.ifCond .eq 7), 3, 694, 0, 0, 0) ∧ cd 0 690 = some ((.iconst 1), 1, 0, 0, 0, 0) ∧ cd 0 691 = some ((.goto 4), 3, 695, 0, 0, 0) ∧ cd 0 694 = some ((.iconst 0), 1, 0, 0, 0, 0) ∧ cd 0 695 = some ((.invokevirtual 135), 3, 127, 1, 1, 924) ∧ cd 0 698 = some ((.istore 6), 2, 0, 0, 0, 0) ∧ cd 0 700 = some ((.aload_n 2), 1, 0, 0, 0, 0) ∧ cd 0 701 = some ((.invokevirtual 107), 3, 115, 0, 1, 877) ∧ cd 0 704 = some ((.iload 5), 2, 0, 0, 0, 0) ∧ cd 0 706 = some ((.if_icmp .eq 5), 3, 711, 0, 0, 0) ∧ cd 0 709 = some ((.iconst 0), 1, 0, 0, 0, 0) ∧ cd 0 710 = some (.ireturn, 1, 0, 0, 0, 0) ∧ cd 0 711 = some ((.iload 5), 2, 0, 0, 0, 0) ∧ cd 0 713 = some ((.ifCond .ne 22), 3, 735, 0, 0, 0) ∧ cd 0 716 = some ((.aload_n 3), 1, 0, 0, 0, 0) ∧ cd 0 717 = some ((.iconst 0), 1, 0, 0, 0, 0) ∧ cd 0 718 = some (.laload, 1, 0, 0, 0, 0) ∧ cd 0 719 = some ((.iload 6), 2, 0, 0, 0, 0) ∧ cd 0 721 = some ((.ifCond .eq 7), 3, 728, 0, 0, 0) ∧ cd 0 724 = some ((.lconst 1), 1, 0, 0, 0, 0) ∧ cd 0 725 = some ((.goto 4), 3, 729, 0, 0, 0) ∧ cd 0 728 = some ((.lconst 0), 1, 0, 0, 0, 0) ∧ cd 0 729 = some (.lcmp, 1, 0, 0, 0, 0) ∧ True := conjL_of 0 c0_9 (by decide +kernel)
theorem D0_10 : cd 0 730 = some ((.ifCond .eq 5), 3, 735, 0, 0, 0) ∧ cd 0 733 = some ((.iconst 0), 1, 0, 0, 0, 0) ∧ cd 0 734 = some (.ireturn, 1, 0, 0, 0, 0) ∧ cd 0 735 = some ((.goto 1055), 3, 1790, 0, 0, 0) ∧ cd 0 738 = some ((.aload_n 1), 1, 0, 0, 0, 0) ∧ cd 0 739 = some ((.aload_n 0), 1, 0, 0, 0, 0) ∧ cd 0 740 = some ((.iload 4), 2, 0, 0, 0, 0) ∧ cd 0 742 = some ((.iconst 1), 1, 0, 0, 0, 0) ∧ cd 0 743 = some (.iadd, 1, 0, 0, 0, 0) ∧ cd 0 744 = some (.iaload, 1, 0, 0, 0, 0) ∧ cd 0 745 = some ((.aload_n 0), 1, 0, 0, 0, 0) ∧ cd 0 746 = some ((.iload 4), 2, 0, 0, 0, 0) ∧ cd 0 748 = some ((.iconst 2), 1, 0, 0, 0, 0) ∧ cd 0 749 = some (.iadd, 1, 0, 0, 0, 0) ∧ cd 0 750 = some (.iaload, 1, 0, 0, 0, 0) ∧ cd 0 751 = some ((.aload_n 3), 1, 0, 0, 0, 0) ∧ cd 0 752 = some ((.invokestatic 136), 3, 57, 4, 0, 569) ∧ cd 0 755 = some ((.istore 5), 2, 0, 0, 0, 0) ∧ cd 0 757 = some ((.aload_n 2), 1, 0, 0, 0, 0) ∧ cd 0 758 = some ((.aload_n 0), 1, 0, 0, 0, 0) ∧ cd 0 759 = some ((.iload 4), 2, 0, 0, 0, 0) ∧ cd 0 761 = some ((.iconst 1), 1, 0, 0, 0, 0) ∧ cd 0 762 = some (.iadd, 1, 0, 0, 0, 0) ∧ cd 0 763 = some (.iaload, 1, 0, 0, 0, 0) ∧ cd 0 764 = some ((.aload_n 0), 1, 0, 0, 0, 0) ∧ cd 0 765 = some ((.iload 4), 2, 0, 0, 0, 0) ∧ cd 0 767 = some ((.iconst 2), 1, 0, 0, 0, 0) ∧ cd 0 768 = some (.iadd, 1, 0, 0, 0, 0) ∧ cd 0 769 = some (.iaload, 1, 0, 0, 0, 0) ∧ cd 0 770 = some ((.invokevirtual 138), 3, 128, 2, 1, 928) ∧ cd 0 773 = some ((.istore 6), 2, 0, 0, 0, 0) ∧ cd 0 775 = some ((.aload_n 2), 1, 0, 0, 0, 0) ∧ cd 0 776 = some ((.invokevirtual 107), 3, 115, 0, 1, 877) ∧ cd 0 779 = some ((.iload 5), 2, 0, 0, 0, 0) ∧ cd 0 781 = some ((.if_icmp .eq 5), 3, 786, 0, 0, 0) ∧ cd 0 784 = some ((.iconst 0), 1, 0, 0, 0, 0) ∧ cd 0 785 = some (.ireturn, 1, 0, 0, 0, 0) ∧ cd 0 786 = some ((.iload 5), 2, 0, 0, 0, 0) ∧ cd 0 788 = some ((.ifCond .ne 15), 3, 803, 0, 0, 0) ∧ cd 0 791 = some ((.aload_n 3), 1, 0, 0, 0, 0) ∧ True := conjL_of 0 c0_10 (by decide +kernel)
theorem D0_11 : cd 0 792 = some ((.iconst 0), 1, 0, 0, 0, 0) ∧ cd 0 793 = some (.laload, 1, 0, 0, 0, 0) ∧ cd 0 794 = some ((.iload 6), 2, 0, 0, 0, 0) ∧ cd 0 796 = some (.i2l, 1, 0, 0, 0, 0) ∧ cd 0 797 = some (.lcmp, 1, 0, 0, 0, 0) ∧ cd 0 798 = some ((.ifCond .eq 5), 3, 803, 0, 0, 0) ∧ cd 0 801 = some ((.iconst 0), 1, 0, 0, 0, 0) ∧ cd 0 802 = some (.ireturn, 1, 0, 0, 0, 0) ∧ cd 0 803 = some ((.goto 987), 3, 1790, 0, 0, 0) ∧ cd 0 806 = some ((.aload_n 1), 1, 0, 0, 0, 0) ∧ cd 0 807 = some ((.aload_n 0), 1, 0, 0, 0, 0) ∧ cd 0 808 = some ((.iload 4), 2, 0, 0, 0, 0) ∧ cd 0 810 = some ((.iconst 1), 1, 0, 0, 0, 0) ∧ cd 0 811 = some (.iadd, 1, 0, 0, 0, 0) ∧ cd 0 812 = some (.iaload, 1, 0, 0, 0, 0) ∧ cd 0 813 = some ((.aload_n 0), 1, 0, 0, 0, 0) ∧ cd 0 814 = some ((.iload 4), 2, 0, 0, 0, 0) ∧ cd 0 816 = some ((.iconst 2), 1, 0, 0, 0, 0) ∧ cd 0 817 = some (.iadd, 1, 0, 0, 0, 0) ∧ cd 0 818 = some (.iaload, 1, 0, 0, 0, 0) ∧ cd 0 819 = some ((.aload_n 0), 1, 0, 0, 0, 0) ∧ cd 0 820 = some ((.iload 4), 2, 0, 0, 0, 0) ∧ cd 0 822 = some ((.iconst 3), 1, 0, 0, 0, 0) ∧ cd 0 823 = some (.iadd, 1, 0, 0, 0, 0) ∧ cd 0 824 = some (.iaload, 1, 0, 0, 0, 0) ∧ cd 0 825 = some ((.ifCond .eq 7), 3, 832, 0, 0, 0) ∧ cd 0 828 = some ((.iconst 1), 1, 0, 0, 0, 0) ∧ cd 0 829 = some ((.goto 4), 3, 833, 0, 0, 0) ∧ cd 0 832 = some ((.iconst 0), 1, 0, 0, 0, 0) ∧ cd 0 833 = some ((.aload_n 3), 1, 0, 0, 0, 0) ∧ cd 0 834 = some ((.invokestatic 139), 3, 59, 5, 0, 578) ∧ cd 0 837 = some ((.istore 5), 2, 0, 0, 0, 0) ∧ cd 0 839 = some ((.aload_n 2), 1, 0, 0, 0, 0) ∧ cd 0 840 = some ((.aload_n 0), 1, 0, 0, 0, 0) ∧ cd 0 841 = some ((.iload 4), 2, 0, 0, 0, 0) ∧ cd 0 843 = some ((.iconst 1), 1, 0, 0, 0, 0) ∧ cd 0 844 = some (.iadd, 1, 0, 0, 0, 0) ∧ cd 0 845 = some (.iaload, 1, 0, 0, 0, 0) ∧ cd 0 846 = some ((.aload_n 0), 1, 0, 0, 0, 0) ∧ cd 0 847 = some ((.iload 4), 2, 0, 0, 0, 0) ∧ True := conjL_of 0 c0_11 (by decide +kernel)
theorem D0_12 : cd 0 849 = some ((.iconst 2), 1, 0, 0, 0, 0) ∧ cd 0 850 = some (.iadd, 1, 0, 0, 0, 0) ∧ cd 0 851 = some (.iaload, 1, 0, 0, 0, 0) ∧ cd 0 852 = some ((.aload_n 0), 1, 0, 0, 0, 0) ∧ cd 0 853 = some ((.iload 4), 2, 0, 0, 0, 0) ∧ cd 0 855 = some ((.iconst 3), 1, 0, 0, 0, 0) ∧ cd 0 856 = some (.iadd, 1, 0, 0, 0, 0) ∧ cd 0 857 = some (.iaload, 1, 0, 0, 0, 0) ∧ cd 0 858 = some ((.ifCond .eq 7), 3, 865, 0, 0, 0) ∧ cd 0 861 = some ((.iconst 1), 1, 0, 0, 0, 0) ∧ cd 0 862 = some ((.goto 4), 3, 866, 0, 0, 0) ∧ cd 0 865 = some ((.iconst 0), 1, 0, 0, 0, 0) ∧ cd 0 866 = some ((.invokevirtual 141), 3, 130, 3, 1, 935) ∧ cd 0 869 = some ((.istore 6), 2, 0, 0, 0, 0) ∧ cd 0 871 = some ((.aload_n 2), 1, 0, 0, 0, 0) ∧ cd 0 872 = some ((.invokevirtual 107), 3, 115, 0, 1, 877) ∧ cd 0 875 = some ((.iload 5), 2, 0, 0, 0, 0) ∧ cd 0 877 = some ((.if_icmp .eq 5), 3, 882, 0, 0, 0) ∧ cd 0 880 = some ((.iconst 0), 1, 0, 0, 0, 0) ∧ cd 0 881 = some (.ireturn, 1, 0, 0, 0, 0) ∧ cd 0 882 = some ((.iload 5), 2, 0, 0, 0, 0) ∧ cd 0 884 = some ((.ifCond .ne 22), 3, 906, 0, 0, 0) ∧ cd 0 887 = some ((.aload_n 3), 1, 0, 0, 0, 0) ∧ cd 0 888 = some ((.iconst 0), 1, 0, 0, 0, 0) ∧ cd 0 889 = some (.laload, 1, 0, 0, 0, 0) ∧ cd 0 890 = some ((.iload 6), 2, 0, 0, 0, 0) ∧ cd 0 892 = some ((.ifCond .eq 7), 3, 899, 0, 0, 0) ∧ cd 0 895 = some ((.lconst 1), 1, 0, 0, 0, 0) ∧ cd 0 896 = some ((.goto 4), 3, 900, 0, 0, 0) ∧ cd 0 899 = some ((.lconst 0), 1, 0, 0, 0, 0) ∧ cd 0 900 = some (.lcmp, 1, 0, 0, 0, 0) ∧ cd 0 901 = some ((.ifCond .eq 5), 3, 906, 0, 0, 0) ∧ cd 0 904 = some ((.iconst 0), 1, 0, 0, 0, 0) ∧ cd 0 905 = some (.ireturn, 1, 0, 0, 0, 0) ∧ cd 0 906 = some ((.goto 884), 3, 1790, 0, 0, 0) ∧ cd 0 909 = some ((.aload_n 1), 1, 0, 0, 0, 0) ∧ cd 0 910 = some ((.aload_n 0), 1, 0, 0, 0, 0) ∧ cd 0 911 = some ((.iload 4), 2, 0, 0, 0, 0) ∧ cd 0 913 = some ((.iconst 1), 1, 0, 0, 0, 0) ∧ cd 0 914 = some (.iadd, 1, 0, 0, 0, 0) ∧ True := conjL_of 0 c0_12 (by decide +kernel)
theorem D0_13 : cd 0 915 = some (.iaload, 1, 0, 0, 0, 0) ∧ cd 0 916 = some ((.aload_n 0), 1, 0, 0, 0, 0) ∧ cd 0 917 = some ((.iload 4), 2, 0, 0, 0, 0) ∧ cd 0 919 = some ((.iconst 2), 1, 0, 0, 0, 0) ∧ cd 0 920 = some (.iadd, 1, 0, 0, 0, 0) ∧ cd 0 921 = some (.iaload, 1, 0, 0, 0, 0) ∧ cd 0 922 = some ((.aload_n 0), 1, 0, 0, 0, 0) ∧ cd 0 923 = some ((.iload 4), 2, 0, 0, 0, 0) ∧ cd 0 925 = some ((.iconst 3), 1, 0, 0, 0, 0) ∧ cd 0 926 = some (.iadd, 1, 0, 0, 0, 0) ∧ cd 0 927 = some (.iaload, 1, 0, 0, 0, 0) ∧ cd 0 928 = some ((.invokestatic 142), 3, 61, 4, 0, 585) ∧ cd 0 931 = some ((.istore 5), 2, 0, 0, 0, 0) ∧ cd 0 933 = some ((.aload_n 2), 1, 0, 0, 0, 0) ∧ cd 0 934 = some ((.aload_n 0), 1, 0, 0, 0, 0) ∧ cd 0 935 = some ((.iload 4), 2, 0, 0, 0, 0) ∧ cd 0 937 = some ((.iconst 1), 1, 0, 0, 0, 0) ∧ cd 0 938 = some (.iadd, 1, 0, 0, 0, 0) ∧ cd 0 939 = some (.iaload, 1, 0, 0, 0, 0) ∧ cd 0 940 = some ((.aload_n 0), 1, 0, 0, 0, 0) ∧ cd 0 941 = some ((.iload 4), 2, 0, 0, 0, 0) ∧ cd 0 943 = some ((.iconst 2), 1, 0, 0, 0, 0) ∧ cd 0 944 = some (.iadd, 1, 0, 0, 0, 0) ∧ cd 0 945 = some (.iaload, 1, 0, 0, 0, 0) ∧ cd 0 946 = some ((.aload_n 0), 1, 0, 0, 0, 0) ∧ cd 0 947 = some ((.iload 4), 2, 0, 0, 0, 0) ∧ cd 0 949 = some ((.iconst 3), 1, 0, 0, 0, 0) ∧ cd 0 950 = some (.iadd, 1, 0, 0, 0, 0) ∧ cd 0 951 = some (.iaload, 1, 0, 0, 0, 0) ∧ cd 0 952 = some ((.invokevirtual 144), 3, 131, 3, 1, 939) ∧ cd 0 955 = some ((.aload_n 2), 1, 0, 0, 0, 0) ∧ cd 0 956 = some ((.invokevirtual 107), 3, 115, 0, 1, 877) ∧ cd 0 959 = some ((.iload 5), 2, 0, 0, 0, 0) ∧ cd 0 961 = some ((.if_icmp .eq 5), 3, 966, 0, 0, 0) ∧ cd 0 964 = some ((.iconst 0), 1, 0, 0, 0, 0) ∧ cd 0 965 = some (.ireturn, 1, 0, 0, 0, 0) ∧ cd 0 966 = some ((.goto 824), 3, 1790, 0, 0, 0) ∧ cd 0 969 = some ((.aload_n 1), 1, 0, 0, 0, 0) ∧ cd 0 970 = some ((.aload_n 0), 1, 0, 0, 0, 0) ∧ cd 0 971 = some ((.iload 4), 2, 0, 0, 0, 0) ∧ True := conjL_of 0 c0_13 (by decide +kernel)
theorem D0_14 : cd 0 973 = some ((.iconst 1), 1, 0, 0, 0, 0) ∧ cd 0 974 = some (.iadd, 1, 0, 0, 0, 0) ∧ cd 0 975 = some (.iaload, 1, 0, 0, 0, 0) ∧ cd 0 976 = some ((.aload_n 3), 1, 0, 0, 0, 0) ∧ cd 0 977 = some ((.invokestatic 145), 3, 63, 3, 0, 592) ∧ cd 0 980 = some ((.istore 5), 2, 0, 0, 0, 0) ∧ cd 0 982 = some ((.aload_n 2), 1, 0, 0, 0, 0) ∧ cd 0 983 = some ((.aload_n 0), 1, 0, 0, 0, 0) ∧ cd 0 984 = some ((.iload 4), 2, 0, 0, 0, 0) ∧ cd 0 986 = some ((.iconst 1), 1, 0, 0, 0, 0) ∧ cd 0 987 = some (.iadd, 1, 0, 0, 0, 0) ∧ cd 0 988 = some (.iaload, 1, 0, 0, 0, 0) ∧ cd 0 989 = some ((.invokevirtual 147), 3, 132, 1, 1, 943) ∧ cd 0 992 = some ((.istore 6), 2, 0, 0, 0, 0) ∧ cd 0 994 = some ((.aload_n 2), 1, 0, 0, 0, 0) ∧ cd 0 995 = some ((.invokevirtual 107), 3, 115, 0, 1, 877) ∧ cd 0 998 = some ((.iload 5), 2, 0, 0, 0, 0) ∧ cd 0 1000 = some ((.if_icmp .eq 5), 3, 1005, 0, 0, 0) ∧ cd 0 1003 = some ((.iconst 0), 1, 0, 0, 0, 0) ∧ cd 0 1004 = some (.ireturn, 1, 0, 0, 0, 0) ∧ cd 0 1005 = some ((.iload 5), 2, 0, 0, 0, 0) ∧ cd 0 1007 = some ((.ifCond .ne 15), 3, 1022, 0, 0, 0) ∧ cd 0 1010 = some ((.aload_n 3), 1, 0, 0, 0, 0) ∧ cd 0 1011 = some ((.iconst 0), 1, 0, 0, 0, 0) ∧ cd 0 1012 = some (.laload, 1, 0, 0, 0, 0) ∧ cd 0 1013 = some ((.iload 6), 2, 0, 0, 0, 0) ∧ cd 0 1015 = some (.i2l, 1, 0, 0, 0, 0) ∧ cd 0 1016 = some (.lcmp, 1, 0, 0, 0, 0) ∧ cd 0 1017 = some ((.ifCond .eq 5), 3, 1022, 0, 0, 0) ∧ cd 0 1020 = some ((.iconst 0), 1, 0, 0, 0, 0) ∧ cd 0 1021 = some (.ireturn, 1, 0, 0, 0, 0) ∧ cd 0 1022 = some ((.goto 768), 3, 1790, 0, 0, 0) ∧ cd 0 1025 = some ((.aload_n 1), 1, 0, 0, 0, 0) ∧ cd 0 1026 = some ((.aload_n 0), 1, 0, 0, 0, 0) ∧ cd 0 1027 = some ((.iload 4), 2, 0, 0, 0, 0) ∧ cd 0 1029 = some ((.iconst 1), 1, 0, 0, 0, 0) ∧ cd 0 1030 = some (.iadd, 1, 0, 0, 0, 0) ∧ cd 0 1031 = some (.iaload, 1, 0, 0, 0, 0) ∧ cd 0 1032 = some ((.aload_n 3), 1, 0, 0, 0, 0) ∧ cd 0 1033 = some ((.invokestatic 148), 3, 65, 3, 0, 599) ∧ True := conjL_of 0 c0_14 (by decide +kernel)
theorem D0_15 : cd 0 1036 = some ((.istore 5), 2, 0, 0, 0, 0) ∧ cd 0 1038 = some ((.aload_n 2), 1, 0, 0, 0, 0) ∧ cd 0 1039 = some ((.aload_n 0), 1, 0, 0, 0, 0) ∧ cd 0 1040 = some ((.iload 4), 2, 0, 0, 0, 0) ∧ cd 0 1042 = some ((.iconst 1), 1, 0, 0, 0, 0) ∧ cd 0 1043 = some (.iadd, 1, 0, 0, 0, 0) ∧ cd 0 1044 = some (.iaload, 1, 0, 0, 0, 0) ∧ cd 0 1045 = some ((.invokevirtual 150), 3, 133, 1, 1, 947) ∧ cd 0 1048 = some ((.istore 6), 2, 0, 0, 0, 0) ∧ cd 0 1050 = some ((.aload_n 2), 1, 0, 0, 0, 0) ∧ cd 0 1051 = some ((.invokevirtual 107), 3, 115, 0, 1, 877) ∧ cd 0 1054 = some ((.iload 5), 2, 0, 0, 0, 0) ∧ cd 0 1056 = some ((.if_icmp .eq 5), 3, 1061, 0, 0, 0) ∧ cd 0 1059 = some ((.iconst 0), 1, 0, 0, 0, 0) ∧ cd 0 1060 = some (.ireturn, 1, 0, 0, 0, 0) ∧ cd 0 1061 = some ((.iload 5), 2, 0, 0, 0, 0) ∧ cd 0 1063 = some ((.ifCond .ne 15), 3, 1078, 0, 0, 0) ∧ cd 0 1066 = some ((.aload_n 3), 1, 0, 0, 0, 0) ∧ cd 0 1067 = some ((.iconst 0), 1, 0, 0, 0, 0) ∧ cd 0 1068 = some (.laload, 1, 0, 0, 0, 0) ∧ cd 0 1069 = some ((.iload 6), 2, 0, 0, 0, 0) ∧ cd 0 1071 = some (.i2l, 1, 0, 0, 0, 0) ∧ cd 0 1072 = some (.lcmp, 1, 0, 0, 0, 0) ∧ cd 0 1073 = some ((.ifCond .eq 5), 3, 1078, 0, 0, 0) ∧ cd 0 1076 = some ((.iconst 0), 1, 0, 0, 0, 0) ∧ cd 0 1077 = some (.ireturn, 1, 0, 0, 0, 0) ∧ cd 0 1078 = some ((.goto 712), 3, 1790, 0, 0, 0) ∧ cd 0 1081 = some ((.aload_n 1), 1, 0, 0, 0, 0) ∧ cd 0 1082 = some ((.aload_n 0), 1, 0, 0, 0, 0) ∧ cd 0 1083 = some ((.iload 4), 2, 0, 0, 0, 0) ∧ cd 0 1085 = some ((.iconst 1), 1, 0, 0, 0, 0) ∧ cd 0 1086 = some (.iadd, 1, 0, 0, 0, 0) ∧ cd 0 1087 = some (.iaload, 1, 0, 0, 0, 0) ∧ cd 0 1088 = some ((.aload_n 0), 1, 0, 0, 0, 0) ∧ cd 0 1089 = some ((.iload 4), 2, 0, 0, 0, 0) ∧ cd 0 1091 = some ((.iconst 2), 1, 0, 0, 0, 0) ∧ cd 0 1092 = some (.iadd, 1, 0, 0, 0, 0) ∧ cd 0 1093 = some (.iaload, 1, 0, 0, 0, 0) ∧ cd 0 1094 = some ((.aload_n 0), 1, 0, 0, 0, 0) ∧ cd 0 1095 = some ((.iload 4), 2, 0, 0, 0, 0) ∧ True := conjL_of 0 c0_15 (by decide +kernel)
theorem D0_16 : cd 0 1097 = some ((.iconst 3), 1, 0, 0, 0, 0) ∧ cd 0 1098 = some (.iadd, 1, 0, 0, 0, 0) ∧ cd 0 1099 = some (.iaload, 1, 0, 0, 0, 0) ∧ cd 0 1100 = some ((.aload_n 3), 1, 0, 0, 0, 0) ∧ cd 0 1101 = some ((.invokestatic 151), 3, 67, 5, 0, 606) ∧ cd 0 1104 = some ((.istore 5), 2, 0, 0, 0, 0) ∧ cd 0 1106 = some ((.aload_n 2), 1, 0, 0, 0, 0) ∧ cd 0 1107 = some ((.aload_n 0), 1, 0, 0, 0, 0) ∧ cd 0 1108 = some ((.iload 4), 2, 0, 0, 0, 0) ∧ cd 0 1110 = some ((.iconst 1), 1, 0, 0, 0, 0) ∧ cd 0 1111 = some (.iadd, 1, 0, 0, 0, 0) ∧ cd 0 1112 = some (.iaload, 1, 0, 0, 0, 0) ∧ cd 0 1113 = some ((.aload_n 0), 1, 0, 0, 0, 0) ∧ cd 0 1114 = some ((.iload 4), 2, 0, 0, 0, 0) ∧ cd 0 1116 = some ((.iconst 2), 1, 0, 0, 0, 0) ∧ cd 0 1117 = some (.iadd, 1, 0, 0, 0, 0) ∧ cd 0 1118 = some (.iaload, 1, 0, 0, 0, 0) ∧ cd 0 1119 = some ((.aload_n 0), 1, 0, 0, 0, 0) ∧ cd 0 1120 = some ((.iload 4), 2, 0, 0, 0, 0) ∧ cd 0 1122 = some ((.iconst 3), 1, 0, 0, 0, 0) ∧ cd 0 1123 = some (.iadd, 1, 0, 0, 0, 0) ∧ cd 0 1124 = some (.iaload, 1, 0, 0, 0, 0) ∧ cd 0 1125 = some ((.invokevirtual 153), 3, 134, 3, 1, 951) ∧ cd 0 1128 = some ((.istore 6), 2, 0, 0, 0, 0) ∧ cd 0 1130 = some ((.aload_n 2), 1, 0, 0, 0, 0) ∧ cd 0 1131 = some ((.invokevirtual 107), 3, 115, 0, 1, 877) ∧ cd 0 1134 = some ((.iload 5), 2, 0, 0, 0, 0) ∧ cd 0 1136 = some ((.if_icmp .eq 5), 3, 1141, 0, 0, 0) ∧ cd 0 1139 = some ((.iconst 0), 1, 0, 0, 0, 0) ∧ cd 0 1140 = some (.ireturn, 1, 0, 0, 0, 0) ∧ cd 0 1141 = some ((.iload 5), 2, 0, 0, 0, 0) ∧ cd 0 1143 = some ((.ifCond .ne 15), 3, 1158, 0, 0, 0) ∧ cd 0 1146 = some ((.aload_n 3), 1, 0, 0, 0, 0) ∧ cd 0 1147 = some ((.iconst 0), 1, 0, 0, 0, 0) ∧ cd 0 1148 = some (.laload, 1, 0, 0, 0, 0) ∧ cd 0 1149 = some ((.iload 6), 2, 0, 0, 0, 0) ∧ cd 0 1151 = some (.i2l, 1, 0, 0, 0, 0) ∧ cd 0 1152 = some (.lcmp, 1, 0, 0, 0, 0) ∧ cd 0 1153 = some ((.ifCond .eq 5), 3, 1158, 0, 0, 0) ∧ cd 0 1156 = some ((.iconst 0), 1, 0, 0, 0, 0) ∧ True := conjL_of 0 c0_16 (by decide +kernel)
theorem D0_17 : cd 0 1157 = some (.ireturn, 1, 0, 0, 0, 0) ∧ cd 0 1158 = some ((.goto 632), 3, 1790, 0, 0, 0) ∧ cd 0 1161 = some ((.aload_n 1), 1, 0, 0, 0, 0) ∧ cd 0 1162 = some ((.aload_n 0), 1, 0, 0, 0, 0) ∧ cd 0 1163 = some ((.iload 4), 2, 0, 0, 0, 0) ∧ cd 0 1165 = some ((.iconst 1), 1, 0, 0, 0, 0) ∧ cd 0 1166 = some (.iadd, 1, 0, 0, 0, 0) ∧ cd 0 1167 = some (.iaload, 1, 0, 0, 0, 0) ∧ cd 0 1168 = some ((.aload_n 3), 1, 0, 0, 0, 0) ∧ cd 0 1169 = some ((.invokestatic 154), 3, 71, 3, 0, 620) ∧ cd 0 1172 = some ((.istore 5), 2, 0, 0, 0, 0) ∧ cd 0 1174 = some ((.aload_n 2), 1, 0, 0, 0, 0) ∧ cd 0 1175 = some ((.aload_n 0), 1, 0, 0, 0, 0) ∧ cd 0 1176 = some ((.iload 4), 2, 0, 0, 0, 0) ∧ cd 0 1178 = some ((.iconst 1), 1, 0, 0, 0, 0) ∧ cd 0 1179 = some (.iadd, 1, 0, 0, 0, 0) ∧ cd 0 1180 = some (.iaload, 1, 0, 0, 0, 0) ∧ cd 0 1181 = some ((.invokevirtual 156), 3, 136, 1, 1, 959) ∧ cd 0 1184 = some ((.istore 6), 2, 0, 0, 0, 0) ∧ cd 0 1186 = some ((.aload_n 2), 1, 0, 0, 0, 0) ∧ cd 0 1187 = some ((.invokevirtual 107), 3, 115, 0, 1, 877) ∧ cd 0 1190 = some ((.iload 5), 2, 0, 0, 0, 0) ∧ cd 0 1192 = some ((.if_icmp .eq 5), 3, 1197, 0, 0, 0) ∧ cd 0 1195 = some ((.iconst 0), 1, 0, 0, 0, 0) ∧ cd 0 1196 = some (.ireturn, 1, 0, 0, 0, 0) ∧ cd 0 1197 = some ((.iload 5), 2, 0, 0, 0, 0) ∧ cd 0 1199 = some ((.ifCond .ne 15), 3, 1214, 0, 0, 0) ∧ cd 0 1202 = some ((.aload_n 3), 1, 0, 0, 0, 0) ∧ cd 0 1203 = some ((.iconst 0), 1, 0, 0, 0, 0) ∧ cd 0 1204 = some (.laload, 1, 0, 0, 0, 0) ∧ cd 0 1205 = some ((.iload 6), 2, 0, 0, 0, 0) ∧ cd 0 1207 = some (.i2l, 1, 0, 0, 0, 0) ∧ cd 0 1208 = some (.lcmp, 1, 0, 0, 0, 0) ∧ cd 0 1209 = some ((.ifCond .eq 5), 3, 1214, 0, 0, 0) ∧ cd 0 1212 = some ((.iconst 0), 1, 0, 0, 0, 0) ∧ cd 0 1213 = some (.ireturn, 1, 0, 0, 0, 0) ∧ cd 0 1214 = some ((.goto 576), 3, 1790, 0, 0, 0) ∧ cd 0 1217 = some ((.aload_n 1), 1, 0, 0, 0, 0) ∧ cd 0 1218 = some ((.aload_n 0), 1, 0, 0, 0, 0) ∧ cd 0 1219 = some ((.iload 4), 2, 0, 0, 0, 0) ∧ True := conjL_of 0 c0_17 (by decide +kernel)
theorem D0_18 : cd 0 1221 = some ((.iconst 1), 1, 0, 0, 0, 0) ∧ cd 0 1222 = some (.iadd, 1, 0, 0, 0, 0) ∧ cd 0 1223 = some (.iaload, 1, 0, 0, 0, 0) ∧ cd 0 1224 = some ((.aload_n 3), 1, 0, 0, 0, 0) ∧ cd 0 1225 = some ((.invokestatic 157), 3, 81, 3, 0, 664) ∧ cd 0 1228 = some ((.istore 5), 2, 0, 0, 0, 0) ∧ cd 0 1230 = some ((.aload_n 2), 1, 0, 0, 0, 0) ∧ cd 0 1231 = some ((.aload_n 0), 1, 0, 0, 0, 0) ∧ cd 0 1232 = some ((.iload 4), 2, 0, 0, 0, 0) ∧ cd 0 1234 = some ((.iconst 1), 1, 0, 0, 0, 0) ∧ cd 0 1235 = some (.iadd, 1, 0, 0, 0, 0) ∧ cd 0 1236 = some (.iaload, 1, 0, 0, 0, 0) ∧ cd 0 1237 = some ((.invokevirtual 159), 3, 150, 1, 1, 1015) ∧ cd 0 1240 = some ((.istore 6), 2, 0, 0, 0, 0) ∧ cd 0 1242 = some ((.aload_n 2), 1, 0, 0, 0, 0) ∧ cd 0 1243 = some ((.invokevirtual 107), 3, 115, 0, 1, 877) ∧ cd 0 1246 = some ((.iload 5), 2, 0, 0, 0, 0) ∧ cd 0 1248 = some ((.if_icmp .eq 5), 3, 1253, 0, 0, 0) ∧ cd 0 1251 = some ((.iconst 0), 1, 0, 0, 0, 0) ∧ cd 0 1252 = some (.ireturn, 1, 0, 0, 0, 0) ∧ cd 0 1253 = some ((.iload 5), 2, 0, 0, 0, 0) ∧ cd 0 1255 = some ((.ifCond .ne 15), 3, 1270, 0, 0, 0) ∧ cd 0 1258 = some ((.aload_n 3), 1, 0, 0, 0, 0) ∧ cd 0 1259 = some ((.iconst 0), 1, 0, 0, 0, 0) ∧ cd 0 1260 = some (.laload, 1, 0, 0, 0, 0) ∧ cd 0 1261 = some ((.iload 6), 2, 0, 0, 0, 0) ∧ cd 0 1263 = some (.i2l, 1, 0, 0, 0, 0) ∧ cd 0 1264 = some (.lcmp, 1, 0, 0, 0, 0) ∧ cd 0 1265 = some ((.ifCond .eq 5), 3, 1270, 0, 0, 0) ∧ cd 0 1268 = some ((.iconst 0), 1, 0, 0, 0, 0) ∧ cd 0 1269 = some (.ireturn, 1, 0, 0, 0, 0) ∧ cd 0 1270 = some ((.goto 520), 3, 1790, 0, 0, 0) ∧ cd 0 1273 = some ((.aload_n 1), 1, 0, 0, 0, 0) ∧ cd 0 1274 = some ((.aload_n 0), 1, 0, 0, 0, 0) ∧ cd 0 1275 = some ((.iload 4), 2, 0, 0, 0, 0) ∧ cd 0 1277 = some ((.iconst 1), 1, 0, 0, 0, 0) ∧ cd 0 1278 = some (.iadd, 1, 0, 0, 0, 0) ∧ cd 0 1279 = some (.iaload, 1, 0, 0, 0, 0) ∧ cd 0 1280 = some ((.aload_n 3), 1, 0, 0, 0, 0) ∧ cd 0 1281 = some ((.invokestatic 160), 3, 84, 3, 0, 675) ∧ True := conjL_of 0 c0_18 (by decide +kernel)
theorem D0_19 : cd 0 1284 = some ((.istore 5), 2, 0, 0, 0, 0) ∧ cd 0 1286 = some ((.aload_n 2), 1, 0, 0, 0, 0) ∧ cd 0 1287 = some ((.aload_n 0), 1, 0, 0, 0, 0) ∧ cd 0 1288 = some ((.iload 4), 2, 0, 0, 0, 0) ∧ cd 0 1290 = some ((.iconst 1), 1, 0, 0, 0, 0) ∧ cd 0 1291 = some (.iadd, 1, 0, 0, 0, 0) ∧ cd 0 1292 = some (.iaload, 1, 0, 0, 0, 0) ∧ cd 0 1293 = some ((.invokevirtual 162), 3, 151, 1, 1, 1019) ∧ cd 0 1296 = some ((.istore 6), 2, 0, 0, 0, 0) ∧ cd 0 1298 = some ((.aload_n 2), 1, 0, 0, 0, 0) ∧ cd 0 1299 = some ((.invokevirtual 107), 3, 115, 0, 1, 877) ∧ cd 0 1302 = some ((.iload 5), 2, 0, 0, 0, 0) ∧ cd 0 1304 = some ((.if_icmp .eq 5), 3, 1309, 0, 0, 0) ∧ cd 0 1307 = some ((.iconst 0), 1, 0, 0, 0, 0) ∧ cd 0 1308 = some (.ireturn, 1, 0, 0, 0, 0) ∧ cd 0 1309 = some ((.iload 5), 2, 0, 0, 0, 0) ∧ cd 0 1311 = some ((.ifCond .ne 15), 3, 1326, 0, 0, 0) ∧ cd 0 1314 = some ((.aload_n 3), 1, 0, 0, 0, 0) ∧ cd 0 1315 = some ((.iconst 0), 1, 0, 0, 0, 0) ∧ cd 0 1316 = some (.laload, 1, 0, 0, 0, 0) ∧ cd 0 1317 = some ((.iload 6), 2, 0, 0, 0, 0) ∧ cd 0 1319 = some (.i2l, 1, 0, 0, 0, 0) ∧ cd 0 1320 = some (.lcmp, 1, 0, 0, 0, 0) ∧ cd 0 1321 = some ((.ifCond .eq 5), 3, 1326, 0, 0, 0) ∧ cd 0 1324 = some ((.iconst 0), 1, 0, 0, 0, 0) ∧ cd 0 1325 = some (.ireturn, 1, 0, 0, 0, 0) ∧ cd 0 1326 = some ((.goto 464), 3, 1790, 0, 0, 0) ∧ cd 0 1329 = some ((.aload_n 1), 1, 0, 0, 0, 0) ∧ cd 0 1330 = some ((.aload_n 0), 1, 0, 0, 0, 0) ∧ cd 0 1331 = some ((.iload 4), 2, 0, 0, 0, 0) ∧ cd 0 1333 = some ((.iconst 1), 1, 0, 0, 0, 0) ∧ cd 0 1334 = some (.iadd, 1, 0, 0, 0, 0) ∧ cd 0 1335 = some (.iaload, 1, 0, 0, 0, 0) ∧ cd 0 1336 = some ((.aload_n 0), 1, 0, 0, 0, 0) ∧ cd 0 1337 = some ((.iload 4), 2, 0, 0, 0, 0) ∧ cd 0 1339 = some ((.iconst 2), 1, 0, 0, 0, 0) ∧ cd 0 1340 = some (.iadd, 1, 0, 0, 0, 0) ∧ cd 0 1341 = some (.iaload, 1, 0, 0, 0, 0) ∧ cd 0 1342 = some ((.aload_n 3), 1, 0, 0, 0, 0) ∧ cd 0 1343 = some ((.invokestatic 163), 3, 86, 4, 0, 682) ∧ True := conjL_of 0 c0_19 (by decide +kernel)
theorem D0_20 : cd 0 1346 = some ((.istore 5), 2, 0, 0, 0, 0) ∧ cd 0 1348 = some ((.aload_n 2), 1, 0, 0, 0, 0) ∧ cd 0 1349 = some ((.aload_n 0), 1, 0, 0, 0, 0) ∧ cd 0 1350 = some ((.iload 4), 2, 0, 0, 0, 0) ∧ cd 0 1352 = some ((.iconst 1), 1, 0, 0, 0, 0) ∧ cd 0 1353 = some (.iadd, 1, 0, 0, 0, 0) ∧ cd 0 1354 = some (.iaload, 1, 0, 0, 0, 0) ∧ cd 0 1355 = some ((.aload_n 0), 1, 0, 0, 0, 0) ∧ cd 0 1356 = some ((.iload 4), 2, 0, 0, 0, 0) ∧ cd 0 1358 = some ((.iconst 2), 1, 0, 0, 0, 0) ∧ cd 0 1359 = some (.iadd, 1, 0, 0, 0, 0) ∧ cd 0 1360 = some (.iaload, 1, 0, 0, 0, 0) ∧ cd 0 1361 = some ((.invokevirtual 165), 3, 152, 2, 1, 1023) ∧ cd 0 1364 = some ((.istore 6), 2, 0, 0, 0, 0) ∧ cd 0 1366 = some ((.aload_n 2), 1, 0, 0, 0, 0) ∧ cd 0 1367 = some ((.invokevirtual 107), 3, 115, 0, 1, 877) ∧ cd 0 1370 = some ((.iload 5), 2, 0, 0, 0, 0) ∧ cd 0 1372 = some ((.if_icmp .eq 5), 3, 1377, 0, 0, 0) ∧ cd 0 1375 = some ((.iconst 0), 1, 0, 0, 0, 0) ∧ cd 0 1376 = some (.ireturn, 1, 0, 0, 0, 0) ∧ cd 0 1377 = some ((.iload 5), 2, 0, 0, 0, 0) ∧ cd 0 1379 = some ((.ifCond .ne 15), 3, 1394, 0, 0, 0) ∧ cd 0 1382 = some ((.aload_n 3), 1, 0, 0, 0, 0) ∧ cd 0 1383 = some ((.iconst 0), 1, 0, 0, 0, 0) ∧ cd 0 1384 = some (.laload, 1, 0, 0, 0, 0) ∧ cd 0 1385 = some ((.iload 6), 2, 0, 0, 0, 0) ∧ cd 0 1387 = some (.i2l, 1, 0, 0, 0, 0) ∧ cd 0 1388 = some (.lcmp, 1, 0, 0, 0, 0) ∧ cd 0 1389 = some ((.ifCond .eq 5), 3, 1394, 0, 0, 0) ∧ cd 0 1392 = some ((.iconst 0), 1, 0, 0, 0, 0) ∧ cd 0 1393 = some (.ireturn, 1, 0, 0, 0, 0) ∧ cd 0 1394 = some ((.goto 396), 3, 1790, 0, 0, 0) ∧ cd 0 1397 = some ((.aload_n 1), 1, 0, 0, 0, 0) ∧ cd 0 1398 = some ((.aload_n 3), 1, 0, 0, 0, 0) ∧ cd 0 1399 = some ((.invokestatic 166), 3, 88, 2, 0, 689) ∧ cd 0 1402 = some ((.istore 5), 2, 0, 0, 0, 0) ∧ cd 0 1404 = some ((.aload_n 2), 1, 0, 0, 0, 0) ∧ cd 0 1405 = some ((.invokevirtual 169), 3, 153, 0, 1, 1027) ∧ cd 0 1408 = some ((.istore 6), 2, 0, 0, 0, 0) ∧ cd 0 1410 = some ((.aload_n 2), 1, 0, 0, 0, 0) ∧ True := conjL_of 0 c0_20 (by decide +kernel)
theorem D0_21 : cd 0 1411 = some ((.invokevirtual 107), 3, 115, 0, 1, 877) ∧ cd 0 1414 = some ((.iload 5), 2, 0, 0, 0, 0) ∧ cd 0 1416 = some ((.if_icmp .eq 5), 3, 1421, 0, 0, 0) ∧ cd 0 1419 = some ((.iconst 0), 1, 0, 0, 0, 0) ∧ cd 0 1420 = some (.ireturn, 1, 0, 0, 0, 0) ∧ cd 0 1421 = some ((.iload 5), 2, 0, 0, 0, 0) ∧ cd 0 1423 = some ((.ifCond .ne 15), 3, 1438, 0, 0, 0) ∧ cd 0 1426 = some ((.aload_n 3), 1, 0, 0, 0, 0) ∧ cd 0 1427 = some ((.iconst 0), 1, 0, 0, 0, 0) ∧ cd 0 1428 = some (.laload, 1, 0, 0, 0, 0) ∧ cd 0 1429 = some ((.iload 6), 2, 0, 0, 0, 0) ∧ cd 0 1431 = some (.i2l, 1, 0, 0, 0, 0) ∧ cd 0 1432 = some (.lcmp, 1, 0, 0, 0, 0) ∧ cd 0 1433 = some ((.ifCond .eq 5), 3, 1438, 0, 0, 0) ∧ cd 0 1436 = some ((.iconst 0), 1, 0, 0, 0, 0) ∧ cd 0 1437 = some (.ireturn, 1, 0, 0, 0, 0) ∧ cd 0 1438 = some ((.goto 352), 3, 1790, 0, 0, 0) ∧ cd 0 1441 = some ((.aload_n 1), 1, 0, 0, 0, 0) ∧ cd 0 1442 = some ((.aload_n 0), 1, 0, 0, 0, 0) ∧ cd 0 1443 = some ((.iload 4), 2, 0, 0, 0, 0) ∧ cd 0 1445 = some ((.iconst 1), 1, 0, 0, 0, 0) ∧ cd 0 1446 = some (.iadd, 1, 0, 0, 0, 0) ∧ cd 0 1447 = some (.iaload, 1, 0, 0, 0, 0) ∧ cd 0 1448 = some ((.aload_n 3), 1, 0, 0, 0, 0) ∧ cd 0 1449 = some ((.invokestatic 170), 3, 92, 3, 0, 705) ∧ cd 0 1452 = some ((.istore 5), 2, 0, 0, 0, 0) ∧ cd 0 1454 = some ((.aload_n 2), 1, 0, 0, 0, 0) ∧ cd 0 1455 = some ((.aload_n 0), 1, 0, 0, 0, 0) ∧ cd 0 1456 = some ((.iload 4), 2, 0, 0, 0, 0) ∧ cd 0 1458 = some ((.iconst 1), 1, 0, 0, 0, 0) ∧ cd 0 1459 = some (.iadd, 1, 0, 0, 0, 0) ∧ cd 0 1460 = some (.iaload, 1, 0, 0, 0, 0) ∧ cd 0 1461 = some ((.invokevirtual 172), 3, 154, 1, 1, 1031) ∧ cd 0 1464 = some ((.istore 6), 2, 0, 0, 0, 0) ∧ cd 0 1466 = some ((.aload_n 2), 1, 0, 0, 0, 0) ∧ cd 0 1467 = some ((.invokevirtual 107), 3, 115, 0, 1, 877) ∧ cd 0 1470 = some ((.iload 5), 2, 0, 0, 0, 0) ∧ cd 0 1472 = some ((.if_icmp .eq 5), 3, 1477, 0, 0, 0) ∧ cd 0 1475 = some ((.iconst 0), 1, 0, 0, 0, 0) ∧ cd 0 1476 = some (.ireturn, 1, 0, 0, 0, 0) ∧ True := conjL_of 0 c0_21 (by decide +kernel)
theorem D0_22 : cd 0 1477 = some ((.iload 5), 2, 0, 0, 0, 0) ∧ cd 0 1479 = some ((.ifCond .ne 15), 3, 1494, 0, 0, 0) ∧ cd 0 1482 = some ((.aload_n 3), 1, 0, 0, 0, 0) ∧ cd 0 1483 = some ((.iconst 0), 1, 0, 0, 0, 0) ∧ cd 0 1484 = some (.laload, 1, 0, 0, 0, 0) ∧ cd 0 1485 = some ((.iload 6), 2, 0, 0, 0, 0) ∧ cd 0 1487 = some (.i2l, 1, 0, 0, 0, 0) ∧ cd 0 1488 = some (.lcmp, 1, 0, 0, 0, 0) ∧ cd 0 1489 = some ((.ifCond .eq 5), 3, 1494, 0, 0, 0) ∧ cd 0 1492 = some ((.iconst 0), 1, 0, 0, 0, 0) ∧ cd 0 1493 = some (.ireturn, 1, 0, 0, 0, 0) ∧ cd 0 1494 = some ((.goto 296), 3, 1790, 0, 0, 0) ∧ cd 0 1497 = some ((.aload_n 1), 1, 0, 0, 0, 0) ∧ cd 0 1498 = some ((.invokevirtual 173), 3, 16, 0, 1, 310) ∧ cd 0 1501 = some ((.aload_n 2), 1, 0, 0, 0, 0) ∧ cd 0 1502 = some ((.invokevirtual 176), 3, 158, 0, 1, 1047) ∧ cd 0 1505 = some ((.if_icmp .eq 285), 3, 1790, 0, 0, 0) ∧ cd 0 1508 = some ((.iconst 0), 1, 0, 0, 0, 0) ∧ cd 0 1509 = some (.ireturn, 1, 0, 0, 0, 0) ∧ cd 0 1510 = some ((.aload_n 1), 1, 0, 0, 0, 0) ∧ cd 0 1511 = some ((.aload_n 3), 1, 0, 0, 0, 0) ∧ cd 0 1512 = some ((.invokestatic 177), 3, 97, 2, 0, 728) ∧ cd 0 1515 = some ((.istore 5), 2, 0, 0, 0, 0) ∧ cd 0 1517 = some ((.aload_n 2), 1, 0, 0, 0, 0) ∧ cd 0 1518 = some ((.invokevirtual 179), 3, 159, 0, 1, 1051) ∧ cd 0 1521 = some ((.istore 6), 2, 0, 0, 0, 0) ∧ cd 0 1523 = some ((.aload_n 2), 1, 0, 0, 0, 0) ∧ cd 0 1524 = some ((.invokevirtual 107), 3, 115, 0, 1, 877) ∧ cd 0 1527 = some ((.iload 5), 2, 0, 0, 0, 0) ∧ cd 0 1529 = some ((.if_icmp .eq 5), 3, 1534, 0, 0, 0) ∧ cd 0 1532 = some ((.iconst 0), 1, 0, 0, 0, 0) ∧ cd 0 1533 = some (.ireturn, 1, 0, 0, 0, 0) ∧ cd 0 1534 = some ((.iload 5), 2, 0, 0, 0, 0) ∧ cd 0 1536 = some ((.ifCond .ne 15), 3, 1551, 0, 0, 0) ∧ cd 0 1539 = some ((.aload_n 3), 1, 0, 0, 0, 0) ∧ cd 0 1540 = some ((.iconst 0), 1, 0, 0, 0, 0) ∧ cd 0 1541 = some (.laload, 1, 0, 0, 0, 0) ∧ cd 0 1542 = some ((.iload 6), 2, 0, 0, 0, 0) ∧ cd 0 1544 = some (.i2l, 1, 0, 0, 0, 0) ∧ cd 0 1545 = some (.lcmp, 1, 0, 0, 0, 0) ∧ True := conjL_of 0 c0_22 (by decide +kernel)
theorem D0_23 : cd 0 1546 = some ((.ifCond .eq 5), 3, 1551, 0, 0, 0) ∧ cd 0 1549 = some ((.iconst 0), 1, 0, 0, 0, 0) ∧ cd 0 1550 = some (.ireturn, 1, 0, 0, 0, 0) ∧ cd 0 1551 = some ((.goto 239), 3, 1790, 0, 0, 0) ∧ cd 0 1554 = some ((.aload_n 1), 1, 0, 0, 0, 0) ∧ cd 0 1555 = some ((.aload_n 3), 1, 0, 0, 0, 0) ∧ cd 0 1556 = some ((.invokestatic 180), 3, 100, 2, 0, 741) ∧ cd 0 1559 = some ((.istore 5), 2, 0, 0, 0, 0) ∧ cd 0 1561 = some ((.aload_n 2), 1, 0, 0, 0, 0) ∧ cd 0 1562 = some ((.invokevirtual 182), 3, 160, 0, 1, 1055) ∧ cd 0 1565 = some ((.istore 6), 2, 0, 0, 0, 0) ∧ cd 0 1567 = some ((.aload_n 2), 1, 0, 0, 0, 0) ∧ cd 0 1568 = some ((.invokevirtual 107), 3, 115, 0, 1, 877) ∧ cd 0 1571 = some ((.iload 5), 2, 0, 0, 0, 0) ∧ cd 0 1573 = some ((.if_icmp .eq 5), 3, 1578, 0, 0, 0) ∧ cd 0 1576 = some ((.iconst 0), 1, 0, 0, 0, 0) ∧ cd 0 1577 = some (.ireturn, 1, 0, 0, 0, 0) ∧ cd 0 1578 = some ((.iload 5), 2, 0, 0, 0, 0) ∧ cd 0 1580 = some ((.ifCond .ne 15), 3, 1595, 0, 0, 0) ∧ cd 0 1583 = some ((.aload_n 3), 1, 0, 0, 0, 0) ∧ cd 0 1584 = some ((.iconst 0), 1, 0, 0, 0, 0) ∧ cd 0 1585 = some (.laload, 1, 0, 0, 0, 0) ∧ cd 0 1586 = some ((.iload 6), 2, 0, 0, 0, 0) ∧ cd 0 1588 = some (.i2l, 1, 0, 0, 0, 0) ∧ cd 0 1589 = some (.lcmp, 1, 0, 0, 0, 0) ∧ cd 0 1590 = some ((.ifCond .eq 5), 3, 1595, 0, 0, 0) ∧ cd 0 1593 = some ((.iconst 0), 1, 0, 0, 0, 0) ∧ cd 0 1594 = some (.ireturn, 1, 0, 0, 0, 0) ∧ cd 0 1595 = some ((.goto 195), 3, 1790, 0, 0, 0) ∧ cd 0 1598 = some ((.aload_n 1), 1, 0, 0, 0, 0) ∧ cd 0 1599 = some ((.aload_n 0), 1, 0, 0, 0, 0) ∧ cd 0 1600 = some ((.iload 4), 2, 0, 0, 0, 0) ∧ cd 0 1602 = some ((.iconst 1), 1, 0, 0, 0, 0) ∧ cd 0 1603 = some (.iadd, 1, 0, 0, 0, 0) ∧ cd 0 1604 = some (.iaload, 1, 0, 0, 0, 0) ∧ cd 0 1605 = some ((.aload_n 0), 1, 0, 0, 0, 0) ∧ cd 0 1606 = some ((.iload 4), 2, 0, 0, 0, 0) ∧ cd 0 1608 = some ((.iconst 2), 1, 0, 0, 0, 0) ∧ cd 0 1609 = some (.iadd, 1, 0, 0, 0, 0) ∧ cd 0 1610 = some (.iaload, 1, 0, 0, 0, 0) ∧ True := conjL_of 0 c0_23 (by decide +kernel)
theorem D0_24 : cd 0 1611 = some ((.aload_n 0), 1, 0, 0, 0, 0) ∧ cd 0 1612 = some ((.iload 4), 2, 0, 0, 0, 0) ∧ cd 0 1614 = some ((.iconst 3), 1, 0, 0, 0, 0) ∧ cd 0 1615 = some (.iadd, 1, 0, 0, 0, 0) ∧ cd 0 1616 = some (.iaload, 1, 0, 0, 0, 0) ∧ cd 0 1617 = some ((.aload_n 3), 1, 0, 0, 0, 0) ∧ cd 0 1618 = some ((.invokestatic 183), 3, 103, 5, 0, 753) ∧ cd 0 1621 = some ((.istore 5), 2, 0, 0, 0, 0) ∧ cd 0 1623 = some ((.aload_n 2), 1, 0, 0, 0, 0) ∧ cd 0 1624 = some ((.aload_n 0), 1, 0, 0, 0, 0) ∧ cd 0 1625 = some ((.iload 4), 2, 0, 0, 0, 0) ∧ cd 0 1627 = some ((.iconst 1), 1, 0, 0, 0, 0) ∧ cd 0 1628 = some (.iadd, 1, 0, 0, 0, 0) ∧ cd 0 1629 = some (.iaload, 1, 0, 0, 0, 0) ∧ cd 0 1630 = some ((.aload_n 0), 1, 0, 0, 0, 0) ∧ cd 0 1631 = some ((.iload 4), 2, 0, 0, 0, 0) ∧ cd 0 1633 = some ((.iconst 2), 1, 0, 0, 0, 0) ∧ cd 0 1634 = some (.iadd, 1, 0, 0, 0, 0) ∧ cd 0 1635 = some (.iaload, 1, 0, 0, 0, 0) ∧ cd 0 1636 = some ((.aload_n 0), 1, 0, 0, 0, 0) ∧ cd 0 1637 = some ((.iload 4), 2, 0, 0, 0, 0) ∧ cd 0 1639 = some ((.iconst 3), 1, 0, 0, 0, 0) ∧ cd 0 1640 = some (.iadd, 1, 0, 0, 0, 0) ∧ cd 0 1641 = some (.iaload, 1, 0, 0, 0, 0) ∧ cd 0 1642 = some ((.invokevirtual 185), 3, 161, 3, 1, 1059) ∧ cd 0 1645 = some ((.istore 6), 2, 0, 0, 0, 0) ∧ cd 0 1647 = some ((.aload_n 2), 1, 0, 0, 0, 0) ∧ cd 0 1648 = some ((.invokevirtual 107), 3, 115, 0, 1, 877) ∧ cd 0 1651 = some ((.iload 5), 2, 0, 0, 0, 0) ∧ cd 0 1653 = some ((.if_icmp .eq 5), 3, 1658, 0, 0, 0) ∧ cd 0 1656 = some ((.iconst 0), 1, 0, 0, 0, 0) ∧ cd 0 1657 = some (.ireturn, 1, 0, 0, 0, 0) ∧ cd 0 1658 = some ((.iload 5), 2, 0, 0, 0, 0) ∧ cd 0 1660 = some ((.ifCond .ne 15), 3, 1675, 0, 0, 0) ∧ cd 0 1663 = some ((.aload_n 3), 1, 0, 0, 0, 0) ∧ cd 0 1664 = some ((.iconst 0), 1, 0, 0, 0, 0) ∧ cd 0 1665 = some (.laload, 1, 0, 0, 0, 0) ∧ cd 0 1666 = some ((.iload 6), 2, 0, 0, 0, 0) ∧ cd 0 1668 = some (.i2l, 1, 0, 0, 0, 0) ∧ cd 0 1669 = some (.lcmp, 1, 0, 0, 0, 0) ∧ True := conjL_of 0 c0_24 (by decide +kernel)
theorem D0_25 : cd 0 1670 = some ((.ifCond .eq 5), 3, 1675, 0, 0, 0) ∧ cd 0 1673 = some ((.iconst 0), 1, 0, 0, 0, 0) ∧ cd 0 1674 = some (.ireturn, 1, 0, 0, 0, 0) ∧ cd 0 1675 = some ((.goto 115), 3, 1790, 0, 0, 0) ∧ cd 0 1678 = some ((.aload_n 1), 1, 0, 0, 0, 0) ∧ cd 0 1679 = some ((.aload_n 0), 1, 0, 0, 0, 0) ∧ cd 0 1680 = some ((.iload 4), 2, 0, 0, 0, 0) ∧ cd 0 1682 = some ((.iconst 1), 1, 0, 0, 0, 0) ∧ cd 0 1683 = some (.iadd, 1, 0, 0, 0, 0) ∧ cd 0 1684 = some (.iaload, 1, 0, 0, 0, 0) ∧ cd 0 1685 = some ((.aload_n 3), 1, 0, 0, 0, 0) ∧ cd 0 1686 = some ((.invokestatic 186), 3, 105, 3, 0, 761) ∧ cd 0 1689 = some ((.istore 5), 2, 0, 0, 0, 0) ∧ cd 0 1691 = some ((.aload_n 2), 1, 0, 0, 0, 0) ∧ cd 0 1692 = some ((.aload_n 0), 1, 0, 0, 0, 0) ∧ cd 0 1693 = some ((.iload 4), 2, 0, 0, 0, 0) ∧ cd 0 1695 = some ((.iconst 1), 1, 0, 0, 0, 0) ∧ cd 0 1696 = some (.iadd, 1, 0, 0, 0, 0) ∧ cd 0 1697 = some (.iaload, 1, 0, 0, 0, 0) ∧ cd 0 1698 = some ((.invokevirtual 188), 3, 163, 1, 1, 1067) ∧ cd 0 1701 = some ((.istore 6), 2, 0, 0, 0, 0) ∧ cd 0 1703 = some ((.aload_n 2), 1, 0, 0, 0, 0) ∧ cd 0 1704 = some ((.invokevirtual 107), 3, 115, 0, 1, 877) ∧ cd 0 1707 = some ((.iload 5), 2, 0, 0, 0, 0) ∧ cd 0 1709 = some ((.if_icmp .eq 5), 3, 1714, 0, 0, 0) ∧ cd 0 1712 = some ((.iconst 0), 1, 0, 0, 0, 0) ∧ cd 0 1713 = some (.ireturn, 1, 0, 0, 0, 0) ∧ cd 0 1714 = some ((.iload 5), 2, 0, 0, 0, 0) ∧ cd 0 1716 = some ((.ifCond .ne 15), 3, 1731, 0, 0, 0) ∧ cd 0 1719 = some ((.aload_n 3), 1, 0, 0, 0, 0) ∧ cd 0 1720 = some ((.iconst 0), 1, 0, 0, 0, 0) ∧ cd 0 1721 = some (.laload, 1, 0, 0, 0, 0) ∧ cd 0 1722 = some ((.iload 6), 2, 0, 0, 0, 0) ∧ cd 0 1724 = some (.i2l, 1, 0, 0, 0, 0) ∧ cd 0 1725 = some (.lcmp, 1, 0, 0, 0, 0) ∧ cd 0 1726 = some ((.ifCond .eq 5), 3, 1731, 0, 0, 0) ∧ cd 0 1729 = some ((.iconst 0), 1, 0, 0, 0, 0) ∧ cd 0 1730 = some (.ireturn, 1, 0, 0, 0, 0) ∧ cd 0 1731 = some ((.goto 59), 3, 1790, 0, 0, 0) ∧ cd 0 1734 = some ((.aload_n 1), 1, 0, 0, 0, 0) ∧ True := conjL_of 0 c0_25 (by decide +kernel)
theorem D0_26 : cd 0 1735 = some ((.aload_n 0), 1, 0, 0, 0, 0) ∧ cd 0 1736 = some ((.iload 4), 2, 0, 0, 0, 0) ∧ cd 0 1738 = some ((.iconst 1), 1, 0, 0, 0, 0) ∧ cd 0 1739 = some (.iadd, 1, 0, 0, 0, 0) ∧ cd 0 1740 = some (.iaload, 1, 0, 0, 0, 0) ∧ cd 0 1741 = some ((.aload_n 3), 1, 0, 0, 0, 0) ∧ cd 0 1742 = some ((.invokestatic 189), 3, 110, 3, 0, 782) ∧ cd 0 1745 = some ((.istore 5), 2, 0, 0, 0, 0) ∧ cd 0 1747 = some ((.aload_n 2), 1, 0, 0, 0, 0) ∧ cd 0 1748 = some ((.aload_n 0), 1, 0, 0, 0, 0) ∧ cd 0 1749 = some ((.iload 4), 2, 0, 0, 0, 0) ∧ cd 0 1751 = some ((.iconst 1), 1, 0, 0, 0, 0) ∧ cd 0 1752 = some (.iadd, 1, 0, 0, 0, 0) ∧ cd 0 1753 = some (.iaload, 1, 0, 0, 0, 0) ∧ cd 0 1754 = some ((.invokevirtual 191), 3, 164, 1, 1, 1071) ∧ cd 0 1757 = some ((.istore 6), 2, 0, 0, 0, 0) ∧ cd 0 1759 = some ((.aload_n 2), 1, 0, 0, 0, 0) ∧ cd 0 1760 = some ((.invokevirtual 107), 3, 115, 0, 1, 877) ∧ cd 0 1763 = some ((.iload 5), 2, 0, 0, 0, 0) ∧ cd 0 1765 = some ((.if_icmp .eq 5), 3, 1770, 0, 0, 0) ∧ cd 0 1768 = some ((.iconst 0), 1, 0, 0, 0, 0) ∧ cd 0 1769 = some (.ireturn, 1, 0, 0, 0, 0) ∧ cd 0 1770 = some ((.iload 5), 2, 0, 0, 0, 0) ∧ cd 0 1772 = some ((.ifCond .ne 15), 3, 1787, 0, 0, 0) ∧ cd 0 1775 = some ((.aload_n 3), 1, 0, 0, 0, 0) ∧ cd 0 1776 = some ((.iconst 0), 1, 0, 0, 0, 0) ∧ cd 0 1777 = some (.laload, 1, 0, 0, 0, 0) ∧ cd 0 1778 = some ((.iload 6), 2, 0, 0, 0, 0) ∧ cd 0 1780 = some (.i2l, 1, 0, 0, 0, 0) ∧ cd 0 1781 = some (.lcmp, 1, 0, 0, 0, 0) ∧ cd 0 1782 = some ((.ifCond .eq 5), 3, 1787, 0, 0, 0) ∧ cd 0 1785 = some ((.iconst 0), 1, 0, 0, 0, 0) ∧ cd 0 1786 = some (.ireturn, 1, 0, 0, 0, 0) ∧ cd 0 1787 = some ((.goto 3), 3, 1790, 0, 0, 0) ∧ cd 0 1790 = some ((.iinc 4 4), 3, 0, 0, 0, 0) ∧ cd 0 1793 = some ((.goto (-1770)), 3, 23, 0, 0, 0) ∧ cd 0 1796 = some ((.iconst 1), 1, 0, 0, 0, 0) ∧ cd 0 1797 = some (.ireturn, 1, 0, 0, 0, 0) ∧ True := conjL_of 0 c0_26 (by decide +kernel)
theorem Z0 : mZ 0 = 2 ∧ mL 0 = 7 ∧ mK 0 = 99 ∧ hT 0 = [] := ⟨rfl, rfl, rfl, rfl⟩
theorem D1 : cd 1 0 = some ((.aload_n 0), 1, 0, 0, 0, 0) ∧ cd 1 1 = some ((.invokespecial 1), 3, 9001, 0, 2, 65) ∧ cd 1 4 = some ((.aload_n 0), 1, 0, 0, 0, 0) ∧ cd 1 5 = some ((.new 7), 3, 2, 14, 0, 68) ∧ cd 1 8 = some (.dup, 1, 0, 0, 0, 0) ∧ cd 1 9 = some ((.invokespecial 9), 3, 2, 0, 2, 70) ∧ cd 1 12 = some ((.putfield 10), 3, 0, 0, 2, 297) ∧ cd 1 15 = some ((.aload_n 0), 1, 0, 0, 0, 0) ∧ cd 1 16 = some ((.new 16), 3, 7, 3, 0, 206) ∧ cd 1 19 = some (.dup, 1, 0, 0, 0, 0) ∧ cd 1 20 = some ((.invokespecial 18), 3, 7, 0, 6, 208) ∧ cd 1 23 = some ((.putfield 19), 3, 0, 1, 2, 298) ∧ cd 1 26 = some ((.aload_n 0), 1, 0, 0, 0, 0) ∧ cd 1 27 = some ((.new 23), 3, 1, 3, 0, 223) ∧ cd 1 30 = some (.dup, 1, 0, 0, 0, 0) ∧ cd 1 31 = some ((.invokespecial 25), 3, 8, 0, 2, 225) ∧ cd 1 34 = some ((.putfield 26), 3, 0, 2, 2, 299) ∧ cd 1 37 = some ((.aload_n 0), 1, 0, 0, 0, 0) ∧ cd 1 38 = some ((.new 30), 3, 6, 2, 0, 271) ∧ cd 1 41 = some (.dup, 1, 0, 0, 0, 0) ∧ cd 1 42 = some ((.invokespecial 32), 3, 4, 0, 6, 272) ∧ cd 1 45 = some ((.putfield 33), 3, 0, 3, 2, 300) ∧ cd 1 48 = some ((.aload_n 0), 1, 0, 0, 0, 0) ∧ cd 1 49 = some ((.getfield 10), 3, 0, 0, 2, 297) ∧ cd 1 52 = some ((.bipush 26), 2, 0, 0, 0, 0) ∧ cd 1 54 = some ((.invokevirtual 37), 3, 10, 1, 1, 273) ∧ cd 1 57 = some (.return_, 1, 0, 0, 0, 0) ∧ True := conjL_of 1 c1 (by decide +kernel)
theorem Z1 : mZ 1 = 0 ∧ mL 1 = 1 ∧ mK 1 = 0 ∧ hT 1 = [] := ⟨rfl, rfl, rfl, rfl⟩
theorem D2_0 : cd 2 0 = some ((.aload_n 0), 1, 0, 0, 0, 0) ∧ cd 2 1 = some ((.invokespecial 3), 3, 9001, 0, 2, 73) ∧ cd 2 4 = some ((.aload_n 0), 1, 0, 0, 0, 0) ∧ cd 2 5 = some ((.bipush 8), 2, 0, 0, 0, 0) ∧ cd 2 7 = some ((.anewarray 9), 3, 5, 75, 0, 74) ∧ cd 2 10 = some ((.putfield 11), 3, 2, 0, 2, 151) ∧ cd 2 13 = some ((.aload_n 0), 1, 0, 0, 0, 0) ∧ cd 2 14 = some ((.bipush 6), 2, 0, 0, 0, 0) ∧ cd 2 16 = some ((.newarray .int), 2, 0, 0, 0, 0) ∧ cd 2 18 = some ((.putfield 17), 3, 2, 1, 2, 153) ∧ cd 2 21 = some ((.aload_n 0), 1, 0, 0, 0, 0) ∧ cd 2 22 = some ((.bipush 6), 2, 0, 0, 0, 0) ∧ cd 2 24 = some ((.newarray .int), 2, 0, 0, 0, 0) ∧ cd 2 26 = some ((.putfield 21), 3, 2, 2, 2, 154) ∧ cd 2 29 = some ((.aload_n 0), 1, 0, 0, 0, 0) ∧ cd 2 30 = some ((.bipush 12), 2, 0, 0, 0, 0) ∧ cd 2 32 = some ((.anewarray 24), 3, 4, 77, 0, 76) ∧ cd 2 35 = some ((.putfield 26), 3, 2, 3, 2, 155) ∧ cd 2 38 = some ((.aload_n 0), 1, 0, 0, 0, 0) ∧ cd 2 39 = some ((.bipush 27), 2, 0, 0, 0, 0) ∧ cd 2 41 = some ((.newarray .int), 2, 0, 0, 0, 0) ∧ cd 2 43 = some ((.putfield 30), 3, 2, 4, 2, 157) ∧ cd 2 46 = some ((.aload_n 0), 1, 0, 0, 0, 0) ∧ cd 2 47 = some ((.bipush 27), 2, 0, 0, 0, 0) ∧ cd 2 49 = some ((.newarray .int), 2, 0, 0, 0, 0) ∧ cd 2 51 = some ((.putfield 33), 3, 2, 5, 2, 159) ∧ cd 2 54 = some ((.aload_n 0), 1, 0, 0, 0, 0) ∧ cd 2 55 = some ((.new 36), 3, 4, 2, 0, 78) ∧ cd 2 58 = some (.dup, 1, 0, 0, 0, 0) ∧ cd 2 59 = some ((.invokespecial 38), 3, 3, 0, 6, 80) ∧ cd 2 62 = some ((.putfield 39), 3, 2, 6, 2, 161) ∧ cd 2 65 = some ((.aload_n 0), 1, 0, 0, 0, 0) ∧ cd 2 66 = some ((.new 36), 3, 4, 2, 0, 78) ∧ cd 2 69 = some (.dup, 1, 0, 0, 0, 0) ∧ cd 2 70 = some ((.invokespecial 38), 3, 3, 0, 6, 80) ∧ cd 2 73 = some ((.putfield 43), 3, 2, 7, 2, 163) ∧ cd 2 76 = some ((.aload_n 0), 1, 0, 0, 0, 0) ∧ cd 2 77 = some ((.new 46), 3, 6, 2, 0, 94) ∧ cd 2 80 = some (.dup, 1, 0, 0, 0, 0) ∧ cd 2 81 = some ((.invokespecial 48), 3, 4, 0, 6, 96) ∧ True := conjL_of 2 c2_0 (by decide +kernel)
theorem D2_1 : cd 2 84 = some ((.putfield 49), 3, 2, 8, 2, 165) ∧ cd 2 87 = some ((.iconst 0), 1, 0, 0, 0, 0) ∧ cd 2 88 = some ((.istore_n 1), 1, 0, 0, 0, 0) ∧ cd 2 89 = some ((.iload_n 1), 1, 0, 0, 0, 0) ∧ cd 2 90 = some ((.bipush 8), 2, 0, 0, 0, 0) ∧ cd 2 92 = some ((.if_icmp .ge 22), 3, 114, 0, 0, 0) ∧ cd 2 95 = some ((.aload_n 0), 1, 0, 0, 0, 0) ∧ cd 2 96 = some ((.getfield 11), 3, 2, 0, 2, 151) ∧ cd 2 99 = some ((.iload_n 1), 1, 0, 0, 0, 0) ∧ cd 2 100 = some ((.new 9), 3, 8, 4, 0, 74) ∧ cd 2 103 = some (.dup, 1, 0, 0, 0, 0) ∧ cd 2 104 = some ((.invokespecial 53), 3, 5, 0, 6, 112) ∧ cd 2 107 = some (.aastore, 1, 0, 0, 0, 0) ∧ cd 2 108 = some ((.iinc 1 1), 3, 0, 0, 0, 0) ∧ cd 2 111 = some ((.goto (-22)), 3, 89, 0, 0, 0) ∧ cd 2 114 = some ((.iconst 0), 1, 0, 0, 0, 0) ∧ cd 2 115 = some ((.istore_n 1), 1, 0, 0, 0, 0) ∧ cd 2 116 = some ((.iload_n 1), 1, 0, 0, 0, 0) ∧ cd 2 117 = some ((.bipush 12), 2, 0, 0, 0, 0) ∧ cd 2 119 = some ((.if_icmp .ge 22), 3, 141, 0, 0, 0) ∧ cd 2 122 = some ((.aload_n 0), 1, 0, 0, 0, 0) ∧ cd 2 123 = some ((.getfield 26), 3, 2, 3, 2, 155) ∧ cd 2 126 = some ((.iload_n 1), 1, 0, 0, 0, 0) ∧ cd 2 127 = some ((.new 24), 3, 5, 2, 0, 76) ∧ cd 2 130 = some (.dup, 1, 0, 0, 0, 0) ∧ cd 2 131 = some ((.invokespecial 54), 3, 6, 0, 6, 136) ∧ cd 2 134 = some (.aastore, 1, 0, 0, 0, 0) ∧ cd 2 135 = some ((.iinc 1 1), 3, 0, 0, 0, 0) ∧ cd 2 138 = some ((.goto (-22)), 3, 116, 0, 0, 0) ∧ cd 2 141 = some (.return_, 1, 0, 0, 0, 0) ∧ True := conjL_of 2 c2_1 (by decide +kernel)
theorem Z2 : mZ 2 = 0 ∧ mL 2 = 2 ∧ mK 2 = 2 ∧ hT 2 = [] := ⟨rfl, rfl, rfl, rfl⟩
theorem D3 : cd 3 0 = some ((.aload_n 0), 1, 0, 0, 0, 0) ∧ cd 3 1 = some ((.invokespecial 3), 3, 9001, 0, 2, 83) ∧ cd 3 4 = some ((.aload_n 0), 1, 0, 0, 0, 0) ∧ cd 3 5 = some ((.bipush 32), 2, 0, 0, 0, 0) ∧ cd 3 7 = some ((.newarray .int), 2, 0, 0, 0, 0) ∧ cd 3 9 = some ((.putfield 9), 3, 4, 0, 2, 84) ∧ cd 3 12 = some (.return_, 1, 0, 0, 0, 0) ∧ True := conjL_of 3 c3 (by decide +kernel)
theorem Z3 : mZ 3 = 0 ∧ mL 3 = 1 ∧ mK 3 = 4 ∧ hT 3 = [] := ⟨rfl, rfl, rfl, rfl⟩
theorem D4 : cd 4 0 = some ((.aload_n 0), 1, 0, 0, 0, 0) ∧ cd 4 1 = some ((.invokespecial 3), 3, 9001, 0, 2, 99) ∧ cd 4 4 = some ((.aload_n 0), 1, 0, 0, 0, 0) ∧ cd 4 5 = some ((.bipush 6), 2, 0, 0, 0, 0) ∧ cd 4 7 = some ((.newarray .int), 2, 0, 0, 0, 0) ∧ cd 4 9 = some ((.putfield 9), 3, 6, 0, 2, 100) ∧ cd 4 12 = some ((.aload_n 0), 1, 0, 0, 0, 0) ∧ cd 4 13 = some ((.bipush 12), 2, 0, 0, 0, 0) ∧ cd 4 15 = some ((.newarray .int), 2, 0, 0, 0, 0) ∧ cd 4 17 = some ((.putfield 15), 3, 6, 1, 2, 103) ∧ cd 4 20 = some (.return_, 1, 0, 0, 0, 0) ∧ True := conjL_of 4 c4 (by decide +kernel)
theorem Z4 : mZ 4 = 0 ∧ mL 4 = 1 ∧ mK 4 = 6 ∧ hT 4 = [] := ⟨rfl, rfl, rfl, rfl⟩
theorem D5 : cd 5 0 = some ((.aload_n 0), 1, 0, 0, 0, 0) ∧ cd 5 1 = some ((.invokespecial 3), 3, 9001, 0, 2, 115) ∧ cd 5 4 = some ((.aload_n 0), 1, 0, 0, 0, 0) ∧ cd 5 5 = some ((.bipush 32), 2, 0, 0, 0, 0) ∧ cd 5 7 = some ((.newarray .int), 2, 0, 0, 0, 0) ∧ cd 5 9 = some ((.putfield 9), 3, 8, 0, 2, 116) ∧ cd 5 12 = some ((.aload_n 0), 1, 0, 0, 0, 0) ∧ cd 5 13 = some ((.bipush 32), 2, 0, 0, 0, 0) ∧ cd 5 15 = some ((.newarray .int), 2, 0, 0, 0, 0) ∧ cd 5 17 = some ((.putfield 15), 3, 8, 1, 2, 118) ∧ cd 5 20 = some ((.aload_n 0), 1, 0, 0, 0, 0) ∧ cd 5 21 = some ((.bipush 32), 2, 0, 0, 0, 0) ∧ cd 5 23 = some ((.newarray .boolean), 2, 1, 0, 0, 0) ∧ cd 5 25 = some ((.putfield 18), 3, 8, 2, 2, 120) ∧ cd 5 28 = some (.return_, 1, 0, 0, 0, 0) ∧ True := conjL_of 5 c5 (by decide +kernel)
theorem Z5 : mZ 5 = 0 ∧ mL 5 = 1 ∧ mK 5 = 8 ∧ hT 5 = [] := ⟨rfl, rfl, rfl, rfl⟩
theorem D6 : cd 6 0 = some ((.aload_n 0), 1, 0, 0, 0, 0) ∧ cd 6 1 = some ((.invokespecial 3), 3, 9001, 0, 2, 139) ∧ cd 6 4 = some ((.aload_n 0), 1, 0, 0, 0, 0) ∧ cd 6 5 = some ((.bipush 61), 2, 0, 0, 0, 0) ∧ cd 6 7 = some ((.newarray .boolean), 2, 1, 0, 0, 0) ∧ cd 6 9 = some ((.putfield 9), 3, 5, 0, 2, 140) ∧ cd 6 12 = some (.return_, 1, 0, 0, 0, 0) ∧ True := conjL_of 6 c6 (by decide +kernel)
theorem Z6 : mZ 6 = 0 ∧ mL 6 = 1 ∧ mK 6 = 5 ∧ hT 6 = [] := ⟨rfl, rfl, rfl, rfl⟩
theorem D7 : cd 7 0 = some ((.aload_n 0), 1, 0, 0, 0, 0) ∧ cd 7 1 = some ((.invokespecial 3), 3, 9001, 0, 2, 211) ∧ cd 7 4 = some ((.aload_n 0), 1, 0, 0, 0, 0) ∧ cd 7 5 = some ((.bipush 40), 2, 0, 0, 0, 0) ∧ cd 7 7 = some ((.newarray .int), 2, 0, 0, 0, 0) ∧ cd 7 9 = some ((.putfield 9), 3, 7, 0, 2, 212) ∧ cd 7 12 = some (.return_, 1, 0, 0, 0, 0) ∧ True := conjL_of 7 c7 (by decide +kernel)
theorem Z7 : mZ 7 = 0 ∧ mL 7 = 1 ∧ mK 7 = 7 ∧ hT 7 = [] := ⟨rfl, rfl, rfl, rfl⟩
theorem D8 : cd 8 0 = some ((.aload_n 0), 1, 0, 0, 0, 0) ∧ cd 8 1 = some ((.invokespecial 3), 3, 9001, 0, 2, 228) ∧ cd 8 4 = some ((.aload_n 0), 1, 0, 0, 0, 0) ∧ cd 8 5 = some ((.bipush 20), 2, 0, 0, 0, 0) ∧ cd 8 7 = some ((.anewarray 9), 3, 3, 230, 0, 229) ∧ cd 8 10 = some ((.putfield 11), 3, 1, 0, 2, 258) ∧ cd 8 13 = some ((.iconst 0), 1, 0, 0, 0, 0) ∧ cd 8 14 = some ((.istore_n 1), 1, 0, 0, 0, 0) ∧ cd 8 15 = some ((.iload_n 1), 1, 0, 0, 0, 0) ∧ cd 8 16 = some ((.bipush 20), 2, 0, 0, 0, 0) ∧ cd 8 18 = some ((.if_icmp .ge 22), 3, 40, 0, 0, 0) ∧ cd 8 21 = some ((.aload_n 0), 1, 0, 0, 0, 0) ∧ cd 8 22 = some ((.getfield 11), 3, 1, 0, 2, 258) ∧ cd 8 25 = some ((.iload_n 1), 1, 0, 0, 0, 0) ∧ cd 8 26 = some ((.new 9), 3, 3, 4, 0, 229) ∧ cd 8 29 = some (.dup, 1, 0, 0, 0, 0) ∧ cd 8 30 = some ((.invokespecial 17), 3, 9, 0, 6, 232) ∧ cd 8 33 = some (.aastore, 1, 0, 0, 0, 0) ∧ cd 8 34 = some ((.iinc 1 1), 3, 0, 0, 0, 0) ∧ cd 8 37 = some ((.goto (-22)), 3, 15, 0, 0, 0) ∧ cd 8 40 = some (.return_, 1, 0, 0, 0, 0) ∧ True := conjL_of 8 c8 (by decide +kernel)
theorem Z8 : mZ 8 = 0 ∧ mL 8 = 2 ∧ mK 8 = 1 ∧ hT 8 = [] := ⟨rfl, rfl, rfl, rfl⟩
theorem D9 : cd 9 0 = some ((.aload_n 0), 1, 0, 0, 0, 0) ∧ cd 9 1 = some ((.invokespecial 3), 3, 9001, 0, 2, 235) ∧ cd 9 4 = some ((.aload_n 0), 1, 0, 0, 0, 0) ∧ cd 9 5 = some ((.new 9), 3, 6, 2, 0, 236) ∧ cd 9 8 = some (.dup, 1, 0, 0, 0, 0) ∧ cd 9 9 = some ((.invokespecial 11), 3, 4, 0, 6, 237) ∧ cd 9 12 = some ((.putfield 12), 3, 3, 0, 2, 238) ∧ cd 9 15 = some ((.aload_n 0), 1, 0, 0, 0, 0) ∧ cd 9 16 = some ((.bipush 60), 2, 0, 0, 0, 0) ∧ cd 9 18 = some ((.newarray .int), 2, 0, 0, 0, 0) ∧ cd 9 20 = some ((.putfield 18), 3, 3, 1, 2, 241) ∧ cd 9 23 = some ((.aload_n 0), 1, 0, 0, 0, 0) ∧ cd 9 24 = some ((.bipush 60), 2, 0, 0, 0, 0) ∧ cd 9 26 = some ((.newarray .int), 2, 0, 0, 0, 0) ∧ cd 9 28 = some ((.putfield 22), 3, 3, 2, 2, 244) ∧ cd 9 31 = some (.return_, 1, 0, 0, 0, 0) ∧ True := conjL_of 9 c9 (by decide +kernel)
theorem Z9 : mZ 9 = 0 ∧ mL 9 = 1 ∧ mK 9 = 3 ∧ hT 9 = [] := ⟨rfl, rfl, rfl, rfl⟩
theorem D10_0 : cd 10 0 = some ((.iconst 0), 1, 0, 0, 0, 0) ∧ cd 10 1 = some ((.istore_n 2), 1, 0, 0, 0, 0) ∧ cd 10 2 = some ((.iload_n 2), 1, 0, 0, 0, 0) ∧ cd 10 3 = some ((.bipush 8), 2, 0, 0, 0, 0) ∧ cd 10 5 = some ((.if_icmp .ge 18), 3, 23, 0, 0, 0) ∧ cd 10 8 = some ((.aload_n 0), 1, 0, 0, 0, 0) ∧ cd 10 9 = some ((.getfield 11), 3, 2, 0, 2, 151) ∧ cd 10 12 = some ((.iload_n 2), 1, 0, 0, 0, 0) ∧ cd 10 13 = some (.aaload, 1, 0, 0, 0, 0) ∧ cd 10 14 = some ((.invokevirtual 55), 3, 11, 0, 1, 277) ∧ cd 10 17 = some ((.iinc 2 1), 3, 0, 0, 0, 0) ∧ cd 10 20 = some ((.goto (-18)), 3, 2, 0, 0, 0) ∧ cd 10 23 = some ((.iconst 0), 1, 0, 0, 0, 0) ∧ cd 10 24 = some ((.istore_n 2), 1, 0, 0, 0, 0) ∧ cd 10 25 = some ((.iload_n 2), 1, 0, 0, 0, 0) ∧ cd 10 26 = some ((.bipush 12), 2, 0, 0, 0, 0) ∧ cd 10 28 = some ((.if_icmp .ge 19), 3, 47, 0, 0, 0) ∧ cd 10 31 = some ((.aload_n 0), 1, 0, 0, 0, 0) ∧ cd 10 32 = some ((.getfield 26), 3, 2, 3, 2, 155) ∧ cd 10 35 = some ((.iload_n 2), 1, 0, 0, 0, 0) ∧ cd 10 36 = some (.aaload, 1, 0, 0, 0, 0) ∧ cd 10 37 = some ((.iconst 0), 1, 0, 0, 0, 0) ∧ cd 10 38 = some ((.invokevirtual 58), 3, 12, 1, 1, 281) ∧ cd 10 41 = some ((.iinc 2 1), 3, 0, 0, 0, 0) ∧ cd 10 44 = some ((.goto (-19)), 3, 25, 0, 0, 0) ∧ cd 10 47 = some ((.aload_n 0), 1, 0, 0, 0, 0) ∧ cd 10 48 = some ((.getfield 17), 3, 2, 1, 2, 153) ∧ cd 10 51 = some ((.iconst (-1)), 1, 0, 0, 0, 0) ∧ cd 10 52 = some ((.invokestatic 62), 3, 13, 2, 0, 285) ∧ cd 10 55 = some ((.aload_n 0), 1, 0, 0, 0, 0) ∧ cd 10 56 = some ((.getfield 30), 3, 2, 4, 2, 157) ∧ cd 10 59 = some ((.iconst (-1)), 1, 0, 0, 0, 0) ∧ cd 10 60 = some ((.invokestatic 62), 3, 13, 2, 0, 285) ∧ cd 10 63 = some ((.aload_n 0), 1, 0, 0, 0, 0) ∧ cd 10 64 = some ((.getfield 33), 3, 2, 5, 2, 159) ∧ cd 10 67 = some ((.iconst (-1)), 1, 0, 0, 0, 0) ∧ cd 10 68 = some ((.invokestatic 62), 3, 13, 2, 0, 285) ∧ cd 10 71 = some ((.aload_n 0), 1, 0, 0, 0, 0) ∧ cd 10 72 = some ((.getfield 39), 3, 2, 6, 2, 161) ∧ cd 10 75 = some ((.invokevirtual 68), 3, 14, 0, 1, 288) ∧ True := conjL_of 10 c10_0 (by decide +kernel)
theorem D10_1 : cd 10 78 = some ((.aload_n 0), 1, 0, 0, 0, 0) ∧ cd 10 79 = some ((.getfield 43), 3, 2, 7, 2, 163) ∧ cd 10 82 = some ((.invokevirtual 68), 3, 14, 0, 1, 288) ∧ cd 10 85 = some ((.aload_n 0), 1, 0, 0, 0, 0) ∧ cd 10 86 = some ((.getfield 49), 3, 2, 8, 2, 165) ∧ cd 10 89 = some ((.invokevirtual 69), 3, 15, 0, 1, 292) ∧ cd 10 92 = some ((.aload_n 0), 1, 0, 0, 0, 0) ∧ cd 10 93 = some ((.iload_n 1), 1, 0, 0, 0, 0) ∧ cd 10 94 = some ((.putfield 70), 3, 2, 9, 0, 168) ∧ cd 10 97 = some ((.aload_n 0), 1, 0, 0, 0, 0) ∧ cd 10 98 = some ((.iconst 0), 1, 0, 0, 0, 0) ∧ cd 10 99 = some ((.putfield 74), 3, 2, 10, 0, 169) ∧ cd 10 102 = some ((.aload_n 0), 1, 0, 0, 0, 0) ∧ cd 10 103 = some ((.iconst 0), 1, 0, 0, 0, 0) ∧ cd 10 104 = some ((.putfield 77), 3, 2, 11, 0, 171) ∧ cd 10 107 = some ((.aload_n 0), 1, 0, 0, 0, 0) ∧ cd 10 108 = some ((.iconst 0), 1, 0, 0, 0, 0) ∧ cd 10 109 = some ((.putfield 80), 3, 2, 12, 0, 173) ∧ cd 10 112 = some ((.aload_n 0), 1, 0, 0, 0, 0) ∧ cd 10 113 = some ((.iconst 0), 1, 0, 0, 0, 0) ∧ cd 10 114 = some ((.putfield 83), 3, 2, 13, 1, 175) ∧ cd 10 117 = some (.return_, 1, 0, 0, 0, 0) ∧ True := conjL_of 10 c10_1 (by decide +kernel)
theorem Z10 : mZ 10 = 0 ∧ mL 10 = 3 ∧ mK 10 = 2 ∧ hT 10 = [] := ⟨rfl, rfl, rfl, rfl⟩
theorem D11 : cd 11 0 = some ((.iconst 0), 1, 0, 0, 0, 0) ∧ cd 11 1 = some ((.istore_n 1), 1, 0, 0, 0, 0) ∧ cd 11 2 = some ((.iload_n 1), 1, 0, 0, 0, 0) ∧ cd 11 3 = some ((.bipush 32), 2, 0, 0, 0, 0) ∧ cd 11 5 = some ((.if_icmp .ge 30), 3, 35, 0, 0, 0) ∧ cd 11 8 = some ((.aload_n 0), 1, 0, 0, 0, 0) ∧ cd 11 9 = some ((.getfield 9), 3, 8, 0, 2, 116) ∧ cd 11 12 = some ((.iload_n 1), 1, 0, 0, 0, 0) ∧ cd 11 13 = some ((.iload_n 1), 1, 0, 0, 0, 0) ∧ cd 11 14 = some (.iastore, 1, 0, 0, 0, 0) ∧ cd 11 15 = some ((.aload_n 0), 1, 0, 0, 0, 0) ∧ cd 11 16 = some ((.getfield 15), 3, 8, 1, 2, 118) ∧ cd 11 19 = some ((.iload_n 1), 1, 0, 0, 0, 0) ∧ cd 11 20 = some ((.iload_n 1), 1, 0, 0, 0, 0) ∧ cd 11 21 = some (.iastore, 1, 0, 0, 0, 0) ∧ cd 11 22 = some ((.aload_n 0), 1, 0, 0, 0, 0) ∧ cd 11 23 = some ((.getfield 18), 3, 8, 2, 2, 120) ∧ cd 11 26 = some ((.iload_n 1), 1, 0, 0, 0, 0) ∧ cd 11 27 = some ((.iconst 0), 1, 0, 0, 0, 0) ∧ cd 11 28 = some (.bastore, 1, 0, 0, 0, 0) ∧ cd 11 29 = some ((.iinc 1 1), 3, 0, 0, 0, 0) ∧ cd 11 32 = some ((.goto (-30)), 3, 2, 0, 0, 0) ∧ cd 11 35 = some ((.aload_n 0), 1, 0, 0, 0, 0) ∧ cd 11 36 = some ((.iconst 0), 1, 0, 0, 0, 0) ∧ cd 11 37 = some ((.putfield 22), 3, 8, 3, 0, 123) ∧ cd 11 40 = some (.return_, 1, 0, 0, 0, 0) ∧ True := conjL_of 11 c11 (by decide +kernel)
theorem Z11 : mZ 11 = 0 ∧ mL 11 = 2 ∧ mK 11 = 8 ∧ hT 11 = [] := ⟨rfl, rfl, rfl, rfl⟩
theorem D12 : cd 12 0 = some ((.iconst 0), 1, 0, 0, 0, 0) ∧ cd 12 1 = some ((.istore_n 2), 1, 0, 0, 0, 0) ∧ cd 12 2 = some ((.iload_n 2), 1, 0, 0, 0, 0) ∧ cd 12 3 = some ((.bipush 61), 2, 0, 0, 0, 0) ∧ cd 12 5 = some ((.if_icmp .ge 16), 3, 21, 0, 0, 0) ∧ cd 12 8 = some ((.aload_n 0), 1, 0, 0, 0, 0) ∧ cd 12 9 = some ((.getfield 9), 3, 5, 0, 2, 140) ∧ cd 12 12 = some ((.iload_n 2), 1, 0, 0, 0, 0) ∧ cd 12 13 = some ((.iconst 0), 1, 0, 0, 0, 0) ∧ cd 12 14 = some (.bastore, 1, 0, 0, 0, 0) ∧ cd 12 15 = some ((.iinc 2 1), 3, 0, 0, 0, 0) ∧ cd 12 18 = some ((.goto (-16)), 3, 2, 0, 0, 0) ∧ cd 12 21 = some ((.aload_n 0), 1, 0, 0, 0, 0) ∧ cd 12 22 = some ((.iload_n 1), 1, 0, 0, 0, 0) ∧ cd 12 23 = some ((.putfield 15), 3, 5, 1, 0, 143) ∧ cd 12 26 = some (.return_, 1, 0, 0, 0, 0) ∧ True := conjL_of 12 c12 (by decide +kernel)
theorem Z12 : mZ 12 = 0 ∧ mL 12 = 3 ∧ mK 12 = 5 ∧ hT 12 = [] := ⟨rfl, rfl, rfl, rfl⟩
theorem D13 : cd 13 0 = some ((.iconst 0), 1, 0, 0, 0, 0) ∧ cd 13 1 = some ((.istore_n 2), 1, 0, 0, 0, 0) ∧ cd 13 2 = some ((.aload_n 0), 1, 0, 0, 0, 0) ∧ cd 13 3 = some (.arraylength, 1, 0, 0, 0, 0) ∧ cd 13 4 = some ((.istore_n 3), 1, 0, 0, 0, 0) ∧ cd 13 5 = some ((.iload_n 2), 1, 0, 0, 0, 0) ∧ cd 13 6 = some ((.iload_n 3), 1, 0, 0, 0, 0) ∧ cd 13 7 = some ((.if_icmp .ge 13), 3, 20, 0, 0, 0) ∧ cd 13 10 = some ((.aload_n 0), 1, 0, 0, 0, 0) ∧ cd 13 11 = some ((.iload_n 2), 1, 0, 0, 0, 0) ∧ cd 13 12 = some ((.iload_n 1), 1, 0, 0, 0, 0) ∧ cd 13 13 = some (.iastore, 1, 0, 0, 0, 0) ∧ cd 13 14 = some ((.iinc 2 1), 3, 0, 0, 0, 0) ∧ cd 13 17 = some ((.goto (-12)), 3, 5, 0, 0, 0) ∧ cd 13 20 = some (.return_, 1, 0, 0, 0, 0) ∧ True := conjL_of 13 c13 (by decide +kernel)
theorem Z13 : mZ 13 = 0 ∧ mL 13 = 4 ∧ mK 13 = 99 ∧ hT 13 = [] := ⟨rfl, rfl, rfl, rfl⟩
theorem D14 : cd 14 0 = some ((.iconst 0), 1, 0, 0, 0, 0) ∧ cd 14 1 = some ((.istore_n 1), 1, 0, 0, 0, 0) ∧ cd 14 2 = some ((.iload_n 1), 1, 0, 0, 0, 0) ∧ cd 14 3 = some ((.bipush 32), 2, 0, 0, 0, 0) ∧ cd 14 5 = some ((.if_icmp .ge 16), 3, 21, 0, 0, 0) ∧ cd 14 8 = some ((.aload_n 0), 1, 0, 0, 0, 0) ∧ cd 14 9 = some ((.getfield 9), 3, 4, 0, 2, 84) ∧ cd 14 12 = some ((.iload_n 1), 1, 0, 0, 0, 0) ∧ cd 14 13 = some ((.iload_n 1), 1, 0, 0, 0, 0) ∧ cd 14 14 = some (.iastore, 1, 0, 0, 0, 0) ∧ cd 14 15 = some ((.iinc 1 1), 3, 0, 0, 0, 0) ∧ cd 14 18 = some ((.goto (-16)), 3, 2, 0, 0, 0) ∧ cd 14 21 = some ((.aload_n 0), 1, 0, 0, 0, 0) ∧ cd 14 22 = some ((.iconst 0), 1, 0, 0, 0, 0) ∧ cd 14 23 = some ((.putfield 15), 3, 4, 1, 0, 86) ∧ cd 14 26 = some (.return_, 1, 0, 0, 0, 0) ∧ True := conjL_of 14 c14 (by decide +kernel)
theorem Z14 : mZ 14 = 0 ∧ mL 14 = 2 ∧ mK 14 = 4 ∧ hT 14 = [] := ⟨rfl, rfl, rfl, rfl⟩
theorem D15 : cd 15 0 = some ((.aload_n 0), 1, 0, 0, 0, 0) ∧ cd 15 1 = some ((.getfield 9), 3, 6, 0, 2, 100) ∧ cd 15 4 = some ((.iconst 0), 1, 0, 0, 0, 0) ∧ cd 15 5 = some ((.invokestatic 18), 3, 13, 2, 0, 296) ∧ cd 15 8 = some ((.aload_n 0), 1, 0, 0, 0, 0) ∧ cd 15 9 = some ((.getfield 15), 3, 6, 1, 2, 103) ∧ cd 15 12 = some ((.iconst 0), 1, 0, 0, 0, 0) ∧ cd 15 13 = some ((.invokestatic 18), 3, 13, 2, 0, 296) ∧ cd 15 16 = some (.return_, 1, 0, 0, 0, 0) ∧ True := conjL_of 15 c15 (by decide +kernel)
theorem Z15 : mZ 15 = 0 ∧ mL 15 = 1 ∧ mK 15 = 6 ∧ hT 15 = [] := ⟨rfl, rfl, rfl, rfl⟩
theorem D16 : cd 16 0 = some ((.iconst 0), 1, 0, 0, 0, 0) ∧ cd 16 1 = some ((.istore_n 1), 1, 0, 0, 0, 0) ∧ cd 16 2 = some ((.iconst 0), 1, 0, 0, 0, 0) ∧ cd 16 3 = some ((.istore_n 2), 1, 0, 0, 0, 0) ∧ cd 16 4 = some ((.iload_n 2), 1, 0, 0, 0, 0) ∧ cd 16 5 = some ((.aload_n 0), 1, 0, 0, 0, 0) ∧ cd 16 6 = some ((.getfield 10), 3, 0, 0, 2, 297) ∧ cd 16 9 = some ((.getfield 51), 3, 2, 9, 0, 167) ∧ cd 16 12 = some ((.if_icmp .ge 24), 3, 36, 0, 0, 0) ∧ cd 16 15 = some ((.aload_n 0), 1, 0, 0, 0, 0) ∧ cd 16 16 = some ((.getfield 10), 3, 0, 0, 2, 297) ∧ cd 16 19 = some ((.iload_n 2), 1, 0, 0, 0, 0) ∧ cd 16 20 = some ((.invokevirtual 179), 3, 17, 1, 1, 314) ∧ cd 16 23 = some ((.iload_n 2), 1, 0, 0, 0, 0) ∧ cd 16 24 = some ((.if_icmp .ne 6), 3, 30, 0, 0, 0) ∧ cd 16 27 = some ((.iinc 1 1), 3, 0, 0, 0, 0) ∧ cd 16 30 = some ((.iinc 2 1), 3, 0, 0, 0, 0) ∧ cd 16 33 = some ((.goto (-29)), 3, 4, 0, 0, 0) ∧ cd 16 36 = some ((.iload_n 1), 1, 0, 0, 0, 0) ∧ cd 16 37 = some (.ireturn, 1, 0, 0, 0, 0) ∧ True := conjL_of 16 c16 (by decide +kernel)
theorem Z16 : mZ 16 = 1 ∧ mL 16 = 3 ∧ mK 16 = 0 ∧ hT 16 = [] := ⟨rfl, rfl, rfl, rfl⟩
theorem D17 : cd 17 0 = some ((.aload_n 0), 1, 0, 0, 0, 0) ∧ cd 17 1 = some ((.getfield 39), 3, 2, 6, 2, 161) ∧ cd 17 4 = some ((.getfield 128), 3, 4, 0, 2, 85) ∧ cd 17 7 = some ((.aload_n 0), 1, 0, 0, 0, 0) ∧ cd 17 8 = some ((.aload_n 0), 1, 0, 0, 0, 0) ∧ cd 17 9 = some ((.getfield 39), 3, 2, 6, 2, 161) ∧ cd 17 12 = some ((.getfield 128), 3, 4, 0, 2, 85) ∧ cd 17 15 = some ((.iload_n 1), 1, 0, 0, 0, 0) ∧ cd 17 16 = some (.iaload, 1, 0, 0, 0, 0) ∧ cd 17 17 = some ((.invokevirtual 131), 3, 18, 1, 1, 318) ∧ cd 17 20 = some (.iaload, 1, 0, 0, 0, 0) ∧ cd 17 21 = some (.ireturn, 1, 0, 0, 0, 0) ∧ True := conjL_of 17 c17 (by decide +kernel)
theorem Z17 : mZ 17 = 1 ∧ mL 17 = 2 ∧ mK 17 = 2 ∧ hT 17 = [] := ⟨rfl, rfl, rfl, rfl⟩
theorem D18 : cd 18 0 = some ((.aload_n 0), 1, 0, 0, 0, 0) ∧ cd 18 1 = some ((.getfield 80), 3, 2, 12, 0, 173) ∧ cd 18 4 = some ((.lookupswitch 80 #[(0, 28), (1, 61)]), 28, 0, 0, 0, 0) ∧ cd 18 32 = some ((.aload_n 0), 1, 0, 0, 0, 0) ∧ cd 18 33 = some ((.getfield 83), 3, 2, 13, 1, 175) ∧ cd 18 36 = some ((.ifCond .eq 23), 3, 59, 0, 0, 0) ∧ cd 18 39 = some ((.aload_n 0), 1, 0, 0, 0, 0) ∧ cd 18 40 = some ((.aload_n 0), 1, 0, 0, 0, 0) ∧ cd 18 41 = some ((.getfield 43), 3, 2, 7, 2, 163) ∧ cd 18 44 = some ((.getfield 128), 3, 4, 0, 2, 85) ∧ cd 18 47 = some ((.aload_n 0), 1, 0, 0, 0, 0) ∧ cd 18 48 = some ((.iload_n 1), 1, 0, 0, 0, 0) ∧ cd 18 49 = some ((.invokevirtual 138), 3, 19, 1, 1, 322) ∧ cd 18 52 = some (.iaload, 1, 0, 0, 0, 0) ∧ cd 18 53 = some ((.invokevirtual 135), 3, 22, 1, 1, 333) ∧ cd 18 56 = some ((.goto 8), 3, 64, 0, 0, 0) ∧ cd 18 59 = some ((.aload_n 0), 1, 0, 0, 0, 0) ∧ cd 18 60 = some ((.iload_n 1), 1, 0, 0, 0, 0) ∧ cd 18 61 = some ((.invokevirtual 138), 3, 19, 1, 1, 322) ∧ cd 18 64 = some (.ireturn, 1, 0, 0, 0, 0) ∧ cd 18 65 = some ((.aload_n 0), 1, 0, 0, 0, 0) ∧ cd 18 66 = some ((.getfield 70), 3, 2, 9, 0, 168) ∧ cd 18 69 = some ((.bipush 32), 2, 0, 0, 0, 0) ∧ cd 18 71 = some ((.if_icmp .ne 11), 3, 82, 0, 0, 0) ∧ cd 18 74 = some ((.aload_n 0), 1, 0, 0, 0, 0) ∧ cd 18 75 = some ((.iload_n 1), 1, 0, 0, 0, 0) ∧ cd 18 76 = some ((.invokevirtual 141), 3, 23, 1, 1, 337) ∧ cd 18 79 = some ((.goto 4), 3, 83, 0, 0, 0) ∧ cd 18 82 = some ((.iload_n 1), 1, 0, 0, 0, 0) ∧ cd 18 83 = some (.ireturn, 1, 0, 0, 0, 0) ∧ cd 18 84 = some ((.aload_n 0), 1, 0, 0, 0, 0) ∧ cd 18 85 = some ((.invokevirtual 144), 3, 25, 0, 1, 345) ∧ cd 18 88 = some ((.iload_n 1), 1, 0, 0, 0, 0) ∧ cd 18 89 = some (.isub, 1, 0, 0, 0, 0) ∧ cd 18 90 = some ((.aload_n 0), 1, 0, 0, 0, 0) ∧ cd 18 91 = some ((.getfield 70), 3, 2, 9, 0, 168) ∧ cd 18 94 = some ((.invokestatic 101), 3, 21, 2, 4, 353) ∧ cd 18 97 = some (.ireturn, 1, 0, 0, 0, 0) ∧ True := conjL_of 18 c18 (by decide +kernel)
theorem Z18 : mZ 18 = 1 ∧ mL 18 = 2 ∧ mK 18 = 2 ∧ hT 18 = [] := ⟨rfl, rfl, rfl, rfl⟩
theorem D19 : cd 19 0 = some ((.iload_n 1), 1, 0, 0, 0, 0) ∧ cd 19 1 = some ((.istore_n 2), 1, 0, 0, 0, 0) ∧ cd 19 2 = some ((.iconst 0), 1, 0, 0, 0, 0) ∧ cd 19 3 = some ((.istore_n 3), 1, 0, 0, 0, 0) ∧ cd 19 4 = some ((.iload_n 3), 1, 0, 0, 0, 0) ∧ cd 19 5 = some ((.aload_n 0), 1, 0, 0, 0, 0) ∧ cd 19 6 = some ((.getfield 74), 3, 2, 10, 0, 169) ∧ cd 19 9 = some ((.if_icmp .ge 57), 3, 66, 0, 0, 0) ∧ cd 19 12 = some ((.aload_n 0), 1, 0, 0, 0, 0) ∧ cd 19 13 = some ((.getfield 11), 3, 2, 0, 2, 151) ∧ cd 19 16 = some ((.aload_n 0), 1, 0, 0, 0, 0) ∧ cd 19 17 = some ((.getfield 17), 3, 2, 1, 2, 153) ∧ cd 19 20 = some ((.aload_n 0), 1, 0, 0, 0, 0) ∧ cd 19 21 = some ((.getfield 21), 3, 2, 2, 2, 154) ∧ cd 19 24 = some ((.iload_n 3), 1, 0, 0, 0, 0) ∧ cd 19 25 = some (.iaload, 1, 0, 0, 0, 0) ∧ cd 19 26 = some (.iaload, 1, 0, 0, 0, 0) ∧ cd 19 27 = some (.aaload, 1, 0, 0, 0, 0) ∧ cd 19 28 = some ((.astore 4), 2, 0, 0, 0, 0) ∧ cd 19 30 = some ((.aload 4), 2, 0, 0, 0, 0) ∧ cd 19 32 = some ((.aload 4), 2, 0, 0, 0, 0) ∧ cd 19 34 = some ((.getfield 148), 3, 8, 0, 2, 117) ∧ cd 19 37 = some ((.iload_n 2), 1, 0, 0, 0, 0) ∧ cd 19 38 = some ((.aload_n 0), 1, 0, 0, 0, 0) ∧ cd 19 39 = some ((.getfield 49), 3, 2, 8, 2, 165) ∧ cd 19 42 = some ((.getfield 98), 3, 6, 0, 2, 101) ∧ cd 19 45 = some ((.aload_n 0), 1, 0, 0, 0, 0) ∧ cd 19 46 = some ((.getfield 21), 3, 2, 2, 2, 154) ∧ cd 19 49 = some ((.iload_n 3), 1, 0, 0, 0, 0) ∧ cd 19 50 = some (.iaload, 1, 0, 0, 0, 0) ∧ cd 19 51 = some (.iaload, 1, 0, 0, 0, 0) ∧ cd 19 52 = some ((.aload_n 0), 1, 0, 0, 0, 0) ∧ cd 19 53 = some ((.getfield 70), 3, 2, 9, 0, 168) ∧ cd 19 56 = some ((.invokevirtual 151), 3, 20, 4, 1, 326) ∧ cd 19 59 = some ((.istore_n 2), 1, 0, 0, 0, 0) ∧ cd 19 60 = some ((.iinc 3 1), 3, 0, 0, 0, 0) ∧ cd 19 63 = some ((.goto (-59)), 3, 4, 0, 0, 0) ∧ cd 19 66 = some ((.iload_n 2), 1, 0, 0, 0, 0) ∧ cd 19 67 = some (.ireturn, 1, 0, 0, 0, 0) ∧ True := conjL_of 19 c19 (by decide +kernel)
theorem Z19 : mZ 19 = 1 ∧ mL 19 = 5 ∧ mK 19 = 2 ∧ hT 19 = [] := ⟨rfl, rfl, rfl, rfl⟩
theorem D20 : cd 20 0 = some ((.iload_n 3), 1, 0, 0, 0, 0) ∧ cd 20 1 = some ((.aload_n 0), 1, 0, 0, 0, 0) ∧ cd 20 2 = some ((.getfield 22), 3, 8, 3, 0, 123) ∧ cd 20 5 = some (.isub, 1, 0, 0, 0, 0) ∧ cd 20 6 = some ((.istore 5), 2, 0, 0, 0, 0) ∧ cd 20 8 = some ((.aload_n 1), 1, 0, 0, 0, 0) ∧ cd 20 9 = some ((.iload_n 2), 1, 0, 0, 0, 0) ∧ cd 20 10 = some ((.iload 5), 2, 0, 0, 0, 0) ∧ cd 20 12 = some (.iadd, 1, 0, 0, 0, 0) ∧ cd 20 13 = some ((.iload 4), 2, 0, 0, 0, 0) ∧ cd 20 15 = some ((.invokestatic 30), 3, 21, 2, 4, 330) ∧ cd 20 18 = some (.iaload, 1, 0, 0, 0, 0) ∧ cd 20 19 = some ((.iload 5), 2, 0, 0, 0, 0) ∧ cd 20 21 = some (.isub, 1, 0, 0, 0, 0) ∧ cd 20 22 = some ((.iload 4), 2, 0, 0, 0, 0) ∧ cd 20 24 = some ((.invokestatic 30), 3, 21, 2, 4, 330) ∧ cd 20 27 = some (.ireturn, 1, 0, 0, 0, 0) ∧ True := conjL_of 20 c20 (by decide +kernel)
theorem Z20 : mZ 20 = 1 ∧ mL 20 = 6 ∧ mK 20 = 8 ∧ hT 20 = [] := ⟨rfl, rfl, rfl, rfl⟩
theorem D21 : cd 21 0 = some ((.iload_n 0), 1, 0, 0, 0, 0) ∧ cd 21 1 = some ((.ifCond .ge 7), 3, 8, 0, 0, 0) ∧ cd 21 4 = some ((.iload_n 0), 1, 0, 0, 0, 0) ∧ cd 21 5 = some ((.iload_n 1), 1, 0, 0, 0, 0) ∧ cd 21 6 = some (.iadd, 1, 0, 0, 0, 0) ∧ cd 21 7 = some (.ireturn, 1, 0, 0, 0, 0) ∧ cd 21 8 = some ((.iload_n 0), 1, 0, 0, 0, 0) ∧ cd 21 9 = some ((.iload_n 1), 1, 0, 0, 0, 0) ∧ cd 21 10 = some ((.if_icmp .lt 9), 3, 19, 0, 0, 0) ∧ cd 21 13 = some ((.iload_n 0), 1, 0, 0, 0, 0) ∧ cd 21 14 = some ((.iload_n 1), 1, 0, 0, 0, 0) ∧ cd 21 15 = some (.isub, 1, 0, 0, 0, 0) ∧ cd 21 16 = some ((.goto 4), 3, 20, 0, 0, 0) ∧ cd 21 19 = some ((.iload_n 0), 1, 0, 0, 0, 0) ∧ cd 21 20 = some (.ireturn, 1, 0, 0, 0, 0) ∧ True := conjL_of 21 c21 (by decide +kernel)
theorem Z21 : mZ 21 = 1 ∧ mL 21 = 2 ∧ mK 21 = 0 ∧ hT 21 = [] := ⟨rfl, rfl, rfl, rfl⟩
theorem D22 : cd 22 0 = some ((.iload_n 1), 1, 0, 0, 0, 0) ∧ cd 22 1 = some ((.istore_n 2), 1, 0, 0, 0, 0) ∧ cd 22 2 = some ((.aload_n 0), 1, 0, 0, 0, 0) ∧ cd 22 3 = some ((.getfield 74), 3, 2, 10, 0, 169) ∧ cd 22 6 = some ((.iconst 1), 1, 0, 0, 0, 0) ∧ cd 22 7 = some (.isub, 1, 0, 0, 0, 0) ∧ cd 22 8 = some ((.istore_n 3), 1, 0, 0, 0, 0) ∧ cd 22 9 = some ((.iload_n 3), 1, 0, 0, 0, 0) ∧ cd 22 10 = some ((.ifCond .lt 57), 3, 67, 0, 0, 0) ∧ cd 22 13 = some ((.aload_n 0), 1, 0, 0, 0, 0) ∧ cd 22 14 = some ((.getfield 11), 3, 2, 0, 2, 151) ∧ cd 22 17 = some ((.aload_n 0), 1, 0, 0, 0, 0) ∧ cd 22 18 = some ((.getfield 17), 3, 2, 1, 2, 153) ∧ cd 22 21 = some ((.aload_n 0), 1, 0, 0, 0, 0) ∧ cd 22 22 = some ((.getfield 21), 3, 2, 2, 2, 154) ∧ cd 22 25 = some ((.iload_n 3), 1, 0, 0, 0, 0) ∧ cd 22 26 = some (.iaload, 1, 0, 0, 0, 0) ∧ cd 22 27 = some (.iaload, 1, 0, 0, 0, 0) ∧ cd 22 28 = some (.aaload, 1, 0, 0, 0, 0) ∧ cd 22 29 = some ((.astore 4), 2, 0, 0, 0, 0) ∧ cd 22 31 = some ((.aload 4), 2, 0, 0, 0, 0) ∧ cd 22 33 = some ((.aload 4), 2, 0, 0, 0, 0) ∧ cd 22 35 = some ((.getfield 155), 3, 8, 1, 2, 119) ∧ cd 22 38 = some ((.iload_n 2), 1, 0, 0, 0, 0) ∧ cd 22 39 = some ((.aload_n 0), 1, 0, 0, 0, 0) ∧ cd 22 40 = some ((.getfield 49), 3, 2, 8, 2, 165) ∧ cd 22 43 = some ((.getfield 98), 3, 6, 0, 2, 101) ∧ cd 22 46 = some ((.aload_n 0), 1, 0, 0, 0, 0) ∧ cd 22 47 = some ((.getfield 21), 3, 2, 2, 2, 154) ∧ cd 22 50 = some ((.iload_n 3), 1, 0, 0, 0, 0) ∧ cd 22 51 = some (.iaload, 1, 0, 0, 0, 0) ∧ cd 22 52 = some (.iaload, 1, 0, 0, 0, 0) ∧ cd 22 53 = some ((.aload_n 0), 1, 0, 0, 0, 0) ∧ cd 22 54 = some ((.getfield 70), 3, 2, 9, 0, 168) ∧ cd 22 57 = some ((.invokevirtual 151), 3, 20, 4, 1, 326) ∧ cd 22 60 = some ((.istore_n 2), 1, 0, 0, 0, 0) ∧ cd 22 61 = some ((.iinc 3 (-1)), 3, 0, 0, 0, 0) ∧ cd 22 64 = some ((.goto (-55)), 3, 9, 0, 0, 0) ∧ cd 22 67 = some ((.iload_n 2), 1, 0, 0, 0, 0) ∧ cd 22 68 = some (.ireturn, 1, 0, 0, 0, 0) ∧ True := conjL_of 22 c22 (by decide +kernel)
theorem Z22 : mZ 22 = 1 ∧ mL 22 = 5 ∧ mK 22 = 2 ∧ hT 22 = [] := ⟨rfl, rfl, rfl, rfl⟩
theorem D23 : cd 23 0 = some ((.iload_n 1), 1, 0, 0, 0, 0) ∧ cd 23 1 = some ((.istore_n 2), 1, 0, 0, 0, 0) ∧ cd 23 2 = some ((.iconst 0), 1, 0, 0, 0, 0) ∧ cd 23 3 = some ((.istore_n 3), 1, 0, 0, 0, 0) ∧ cd 23 4 = some ((.iload_n 3), 1, 0, 0, 0, 0) ∧ cd 23 5 = some ((.iconst 5), 1, 0, 0, 0, 0) ∧ cd 23 6 = some ((.if_icmp .ge 30), 3, 36, 0, 0, 0) ∧ cd 23 9 = some ((.aload_n 0), 1, 0, 0, 0, 0) ∧ cd 23 10 = some ((.iload_n 3), 1, 0, 0, 0, 0) ∧ cd 23 11 = some ((.invokevirtual 114), 3, 24, 1, 1, 341) ∧ cd 23 14 = some ((.aload_n 0), 1, 0, 0, 0, 0) ∧ cd 23 15 = some ((.iload_n 3), 1, 0, 0, 0, 0) ∧ cd 23 16 = some ((.iconst 5), 1, 0, 0, 0, 0) ∧ cd 23 17 = some (.iadd, 1, 0, 0, 0, 0) ∧ cd 23 18 = some ((.invokevirtual 114), 3, 24, 1, 1, 341) ∧ cd 23 21 = some ((.if_icmp .eq 9), 3, 30, 0, 0, 0) ∧ cd 23 24 = some ((.iload_n 2), 1, 0, 0, 0, 0) ∧ cd 23 25 = some ((.iconst 1), 1, 0, 0, 0, 0) ∧ cd 23 26 = some ((.iload_n 3), 1, 0, 0, 0, 0) ∧ cd 23 27 = some (.ishl, 1, 0, 0, 0, 0) ∧ cd 23 28 = some (.ixor, 1, 0, 0, 0, 0) ∧ cd 23 29 = some ((.istore_n 2), 1, 0, 0, 0, 0) ∧ cd 23 30 = some ((.iinc 3 1), 3, 0, 0, 0, 0) ∧ cd 23 33 = some ((.goto (-29)), 3, 4, 0, 0, 0) ∧ cd 23 36 = some ((.iload_n 2), 1, 0, 0, 0, 0) ∧ cd 23 37 = some (.ireturn, 1, 0, 0, 0, 0) ∧ True := conjL_of 23 c23 (by decide +kernel)
theorem Z23 : mZ 23 = 1 ∧ mL 23 = 4 ∧ mK 23 = 2 ∧ hT 23 = [] := ⟨rfl, rfl, rfl, rfl⟩
theorem D24 : cd 24 0 = some ((.aload_n 0), 1, 0, 0, 0, 0) ∧ cd 24 1 = some ((.getfield 26), 3, 2, 3, 2, 155) ∧ cd 24 4 = some ((.iload_n 1), 1, 0, 0, 0, 0) ∧ cd 24 5 = some (.aaload, 1, 0, 0, 0, 0) ∧ cd 24 6 = some ((.astore_n 2), 1, 0, 0, 0, 0) ∧ cd 24 7 = some ((.aload_n 0), 1, 0, 0, 0, 0) ∧ cd 24 8 = some ((.getfield 49), 3, 2, 8, 2, 165) ∧ cd 24 11 = some ((.getfield 105), 3, 6, 1, 2, 104) ∧ cd 24 14 = some ((.iload_n 1), 1, 0, 0, 0, 0) ∧ cd 24 15 = some (.iaload, 1, 0, 0, 0, 0) ∧ cd 24 16 = some ((.istore_n 3), 1, 0, 0, 0, 0) ∧ cd 24 17 = some ((.iload_n 3), 1, 0, 0, 0, 0) ∧ cd 24 18 = some ((.aload_n 2), 1, 0, 0, 0, 0) ∧ cd 24 19 = some ((.getfield 87), 3, 5, 1, 0, 144) ∧ cd 24 22 = some ((.if_icmp .ge 16), 3, 38, 0, 0, 0) ∧ cd 24 25 = some ((.aload_n 2), 1, 0, 0, 0, 0) ∧ cd 24 26 = some ((.getfield 121), 3, 5, 0, 2, 142) ∧ cd 24 29 = some ((.iload_n 3), 1, 0, 0, 0, 0) ∧ cd 24 30 = some (.baload, 1, 0, 0, 0, 0) ∧ cd 24 31 = some ((.ifCond .eq 7), 3, 38, 0, 0, 0) ∧ cd 24 34 = some ((.iconst 1), 1, 0, 0, 0, 0) ∧ cd 24 35 = some ((.goto 4), 3, 39, 0, 0, 0) ∧ cd 24 38 = some ((.iconst 0), 1, 0, 0, 0, 0) ∧ cd 24 39 = some (.ireturn, 1, 0, 0, 0, 0) ∧ True := conjL_of 24 c24 (by decide +kernel)
theorem Z24 : mZ 24 = 2 ∧ mL 24 = 4 ∧ mK 24 = 2 ∧ hT 24 = [] := ⟨rfl, rfl, rfl, rfl⟩
theorem D25 : cd 25 0 = some ((.iconst 0), 1, 0, 0, 0, 0) ∧ cd 25 1 = some ((.istore_n 1), 1, 0, 0, 0, 0) ∧ cd 25 2 = some ((.iconst 0), 1, 0, 0, 0, 0) ∧ cd 25 3 = some ((.istore_n 2), 1, 0, 0, 0, 0) ∧ cd 25 4 = some ((.iload_n 2), 1, 0, 0, 0, 0) ∧ cd 25 5 = some ((.bipush 27), 2, 0, 0, 0, 0) ∧ cd 25 7 = some ((.if_icmp .ge 46), 3, 53, 0, 0, 0) ∧ cd 25 10 = some ((.aload_n 0), 1, 0, 0, 0, 0) ∧ cd 25 11 = some ((.aload_n 0), 1, 0, 0, 0, 0) ∧ cd 25 12 = some ((.getfield 30), 3, 2, 4, 2, 157) ∧ cd 25 15 = some ((.iload_n 2), 1, 0, 0, 0, 0) ∧ cd 25 16 = some (.iaload, 1, 0, 0, 0, 0) ∧ cd 25 17 = some ((.invokevirtual 158), 3, 26, 1, 1, 349) ∧ cd 25 20 = some ((.ifCond .ne 16), 3, 36, 0, 0, 0) ∧ cd 25 23 = some ((.aload_n 0), 1, 0, 0, 0, 0) ∧ cd 25 24 = some ((.aload_n 0), 1, 0, 0, 0, 0) ∧ cd 25 25 = some ((.getfield 33), 3, 2, 5, 2, 159) ∧ cd 25 28 = some ((.iload_n 2), 1, 0, 0, 0, 0) ∧ cd 25 29 = some (.iaload, 1, 0, 0, 0, 0) ∧ cd 25 30 = some ((.invokevirtual 158), 3, 26, 1, 1, 349) ∧ cd 25 33 = some ((.ifCond .eq 14), 3, 47, 0, 0, 0) ∧ cd 25 36 = some ((.iload_n 1), 1, 0, 0, 0, 0) ∧ cd 25 37 = some ((.iconst 1), 1, 0, 0, 0, 0) ∧ cd 25 38 = some (.iadd, 1, 0, 0, 0, 0) ∧ cd 25 39 = some ((.aload_n 0), 1, 0, 0, 0, 0) ∧ cd 25 40 = some ((.getfield 70), 3, 2, 9, 0, 168) ∧ cd 25 43 = some ((.invokestatic 101), 3, 21, 2, 4, 353) ∧ cd 25 46 = some ((.istore_n 1), 1, 0, 0, 0, 0) ∧ cd 25 47 = some ((.iinc 2 1), 3, 0, 0, 0, 0) ∧ cd 25 50 = some ((.goto (-46)), 3, 4, 0, 0, 0) ∧ cd 25 53 = some ((.iload_n 1), 1, 0, 0, 0, 0) ∧ cd 25 54 = some (.ireturn, 1, 0, 0, 0, 0) ∧ True := conjL_of 25 c25 (by decide +kernel)
theorem Z25 : mZ 25 = 1 ∧ mL 25 = 3 ∧ mK 25 = 2 ∧ hT 25 = [] := ⟨rfl, rfl, rfl, rfl⟩
theorem D26 : cd 26 0 = some ((.iload_n 1), 1, 0, 0, 0, 0) ∧ cd 26 1 = some ((.iconst (-1)), 1, 0, 0, 0, 0) ∧ cd 26 2 = some ((.if_icmp .eq 15), 3, 17, 0, 0, 0) ∧ cd 26 5 = some ((.aload_n 0), 1, 0, 0, 0, 0) ∧ cd 26 6 = some ((.iload_n 1), 1, 0, 0, 0, 0) ∧ cd 26 7 = some ((.invokevirtual 114), 3, 24, 1, 1, 341) ∧ cd 26 10 = some ((.ifCond .eq 7), 3, 17, 0, 0, 0) ∧ cd 26 13 = some ((.iconst 1), 1, 0, 0, 0, 0) ∧ cd 26 14 = some ((.goto 4), 3, 18, 0, 0, 0) ∧ cd 26 17 = some ((.iconst 0), 1, 0, 0, 0, 0) ∧ cd 26 18 = some (.ireturn, 1, 0, 0, 0, 0) ∧ True := conjL_of 26 c26 (by decide +kernel)
theorem Z26 : mZ 26 = 2 ∧ mL 26 = 2 ∧ mK 26 = 2 ∧ hT 26 = [] := ⟨rfl, rfl, rfl, rfl⟩
theorem D27 : cd 27 0 = some ((.aload_n 2), 1, 0, 0, 0, 0) ∧ cd 27 1 = some ((.iconst 0), 1, 0, 0, 0, 0) ∧ cd 27 2 = some ((.aload_n 0), 1, 0, 0, 0, 0) ∧ cd 27 3 = some ((.iload_n 1), 1, 0, 0, 0, 0) ∧ cd 27 4 = some ((.invokevirtual 7), 3, 28, 1, 1, 359) ∧ cd 27 7 = some (.i2l, 1, 0, 0, 0, 0) ∧ cd 27 8 = some (.lastore, 1, 0, 0, 0, 0) ∧ cd 27 9 = some ((.goto 9), 3, 18, 0, 0, 0) ∧ cd 27 12 = some ((.astore_n 3), 1, 0, 0, 0, 0) ∧ cd 27 13 = some ((.iconst 1), 1, 0, 0, 0, 0) ∧ cd 27 14 = some (.ireturn, 1, 0, 0, 0, 0) ∧ cd 27 15 = some ((.astore_n 3), 1, 0, 0, 0, 0) ∧ cd 27 16 = some ((.iconst 2), 1, 0, 0, 0, 0) ∧ cd 27 17 = some (.ireturn, 1, 0, 0, 0, 0) ∧ cd 27 18 = some ((.iconst 0), 1, 0, 0, 0, 0) ∧ cd 27 19 = some (.ireturn, 1, 0, 0, 0, 0) ∧ True := conjL_of 27 c27 (by decide +kernel)
theorem Z27 : mZ 27 = 1 ∧ mL 27 = 4 ∧ mK 27 = 99 ∧ hT 27 = [(0, 9, 12, 0), (0, 9, 15, 1)] := ⟨rfl, rfl, rfl, rfl⟩
theorem D28 : cd 28 0 = some ((.iload_n 1), 1, 0, 0, 0, 0) ∧ cd 28 1 = some ((.bipush 10), 2, 0, 0, 0, 0) ∧ cd 28 3 = some ((.if_icmp .eq 25), 3, 28, 0, 0, 0) ∧ cd 28 6 = some ((.iload_n 1), 1, 0, 0, 0, 0) ∧ cd 28 7 = some ((.bipush 26), 2, 0, 0, 0, 0) ∧ cd 28 9 = some ((.if_icmp .eq 19), 3, 28, 0, 0, 0) ∧ cd 28 12 = some ((.iload_n 1), 1, 0, 0, 0, 0) ∧ cd 28 13 = some ((.bipush 32), 2, 0, 0, 0, 0) ∧ cd 28 15 = some ((.if_icmp .eq 13), 3, 28, 0, 0, 0) ∧ cd 28 18 = some ((.new 41), 3, 900, 404, 405, 363) ∧ cd 28 21 = some (.dup, 1, 0, 0, 0, 0) ∧ cd 28 22 = some ((.ldc 43), 2, 0, 0, 0, 0) ∧ cd 28 24 = some ((.invokespecial 45), 3, 9009, 1, 2, 405) ∧ cd 28 27 = some (.athrow, 1, 0, 0, 0, 0) ∧ cd 28 28 = some ((.aload_n 0), 1, 0, 0, 0, 0) ∧ cd 28 29 = some ((.invokevirtual 48), 3, 29, 0, 1, 431) ∧ cd 28 32 = some ((.aload_n 0), 1, 0, 0, 0, 0) ∧ cd 28 33 = some ((.getfield 10), 3, 0, 0, 2, 297) ∧ cd 28 36 = some ((.getfield 51), 3, 2, 9, 0, 167) ∧ cd 28 39 = some ((.istore_n 2), 1, 0, 0, 0, 0) ∧ cd 28 40 = some ((.aload_n 0), 1, 0, 0, 0, 0) ∧ cd 28 41 = some ((.getfield 10), 3, 0, 0, 2, 297) ∧ cd 28 44 = some ((.iload_n 1), 1, 0, 0, 0, 0) ∧ cd 28 45 = some ((.invokevirtual 37), 3, 10, 1, 1, 273) ∧ cd 28 48 = some ((.aload_n 0), 1, 0, 0, 0, 0) ∧ cd 28 49 = some ((.getfield 19), 3, 0, 1, 2, 298) ∧ cd 28 52 = some ((.invokevirtual 55), 3, 30, 0, 1, 451) ∧ cd 28 55 = some ((.aload_n 0), 1, 0, 0, 0, 0) ∧ cd 28 56 = some ((.getfield 26), 3, 0, 2, 2, 299) ∧ cd 28 59 = some ((.invokevirtual 57), 3, 31, 0, 1, 455) ∧ cd 28 62 = some ((.iload_n 2), 1, 0, 0, 0, 0) ∧ cd 28 63 = some (.ireturn, 1, 0, 0, 0, 0) ∧ True := conjL_of 28 c28 (by decide +kernel)
theorem Z28 : mZ 28 = 1 ∧ mL 28 = 3 ∧ mK 28 = 0 ∧ hT 28 = [] := ⟨rfl, rfl, rfl, rfl⟩
theorem D29 : cd 29 0 = some ((.aload_n 0), 1, 0, 0, 0, 0) ∧ cd 29 1 = some ((.getfield 26), 3, 0, 2, 2, 299) ∧ cd 29 4 = some ((.getfield 214), 3, 1, 2, 1, 263) ∧ cd 29 7 = some ((.ifCond .eq 14), 3, 21, 0, 0, 0) ∧ cd 29 10 = some ((.new 90), 3, 901, 444, 445, 435) ∧ cd 29 13 = some (.dup, 1, 0, 0, 0, 0) ∧ cd 29 14 = some ((.ldc_w 273), 3, 0, 0, 0, 0) ∧ cd 29 17 = some ((.invokespecial 94), 3, 9009, 1, 2, 445) ∧ cd 29 20 = some (.athrow, 1, 0, 0, 0, 0) ∧ cd 29 21 = some (.return_, 1, 0, 0, 0, 0) ∧ True := conjL_of 29 c29 (by decide +kernel)
theorem Z29 : mZ 29 = 0 ∧ mL 29 = 1 ∧ mK 29 = 0 ∧ hT 29 = [] := ⟨rfl, rfl, rfl, rfl⟩
theorem D30 : cd 30 0 = some ((.aload_n 0), 1, 0, 0, 0, 0) ∧ cd 30 1 = some ((.iconst 0), 1, 0, 0, 0, 0) ∧ cd 30 2 = some ((.putfield 15), 3, 7, 2, 0, 214) ∧ cd 30 5 = some (.return_, 1, 0, 0, 0, 0) ∧ True := conjL_of 30 c30 (by decide +kernel)
theorem Z30 : mZ 30 = 0 ∧ mL 30 = 1 ∧ mK 30 = 7 ∧ hT 30 = [] := ⟨rfl, rfl, rfl, rfl⟩
theorem D31 : cd 31 0 = some ((.aload_n 0), 1, 0, 0, 0, 0) ∧ cd 31 1 = some ((.iconst 0), 1, 0, 0, 0, 0) ∧ cd 31 2 = some ((.putfield 18), 3, 1, 1, 0, 260) ∧ cd 31 5 = some (.return_, 1, 0, 0, 0, 0) ∧ True := conjL_of 31 c31 (by decide +kernel)
theorem Z31 : mZ 31 = 0 ∧ mL 31 = 1 ∧ mK 31 = 1 ∧ hT 31 = [] := ⟨rfl, rfl, rfl, rfl⟩
theorem D32 : cd 32 0 = some ((.aload 4), 2, 0, 0, 0, 0) ∧ cd 32 2 = some ((.iconst 0), 1, 0, 0, 0, 0) ∧ cd 32 3 = some ((.aload_n 0), 1, 0, 0, 0, 0) ∧ cd 32 4 = some ((.iload_n 1), 1, 0, 0, 0, 0) ∧ cd 32 5 = some ((.iload_n 2), 1, 0, 0, 0, 0) ∧ cd 32 6 = some ((.iload_n 3), 1, 0, 0, 0, 0) ∧ cd 32 7 = some ((.invokevirtual 17), 3, 33, 3, 1, 463) ∧ cd 32 10 = some (.i2l, 1, 0, 0, 0, 0) ∧ cd 32 11 = some (.lastore, 1, 0, 0, 0, 0) ∧ cd 32 12 = some ((.goto 11), 3, 23, 0, 0, 0) ∧ cd 32 15 = some ((.astore 5), 2, 0, 0, 0, 0) ∧ cd 32 17 = some ((.iconst 1), 1, 0, 0, 0, 0) ∧ cd 32 18 = some (.ireturn, 1, 0, 0, 0, 0) ∧ cd 32 19 = some ((.astore 5), 2, 0, 0, 0, 0) ∧ cd 32 21 = some ((.iconst 2), 1, 0, 0, 0, 0) ∧ cd 32 22 = some (.ireturn, 1, 0, 0, 0, 0) ∧ cd 32 23 = some ((.iconst 0), 1, 0, 0, 0, 0) ∧ cd 32 24 = some (.ireturn, 1, 0, 0, 0, 0) ∧ True := conjL_of 32 c32 (by decide +kernel)
theorem Z32 : mZ 32 = 1 ∧ mL 32 = 6 ∧ mK 32 = 99 ∧ hT 32 = [(0, 12, 15, 2), (0, 12, 19, 1)] := ⟨rfl, rfl, rfl, rfl⟩
theorem D33 : cd 33 0 = some ((.iload_n 1), 1, 0, 0, 0, 0) ∧ cd 33 1 = some ((.bipush 8), 2, 0, 0, 0, 0) ∧ cd 33 3 = some ((.invokestatic 58), 3, 34, 2, 0, 467) ∧ cd 33 6 = some ((.iload_n 2), 1, 0, 0, 0, 0) ∧ cd 33 7 = some ((.aload_n 0), 1, 0, 0, 0, 0) ∧ cd 33 8 = some ((.getfield 10), 3, 0, 0, 2, 297) ∧ cd 33 11 = some ((.getfield 51), 3, 2, 9, 0, 167) ∧ cd 33 14 = some ((.invokestatic 58), 3, 34, 2, 0, 467) ∧ cd 33 17 = some ((.iload_n 3), 1, 0, 0, 0, 0) ∧ cd 33 18 = some ((.aload_n 0), 1, 0, 0, 0, 0) ∧ cd 33 19 = some ((.getfield 10), 3, 0, 0, 2, 297) ∧ cd 33 22 = some ((.getfield 51), 3, 2, 9, 0, 167) ∧ cd 33 25 = some ((.invokestatic 58), 3, 34, 2, 0, 467) ∧ cd 33 28 = some ((.aload_n 0), 1, 0, 0, 0, 0) ∧ cd 33 29 = some ((.invokevirtual 48), 3, 29, 0, 1, 431) ∧ cd 33 32 = some ((.aload_n 0), 1, 0, 0, 0, 0) ∧ cd 33 33 = some ((.getfield 10), 3, 0, 0, 2, 297) ∧ cd 33 36 = some ((.getfield 62), 3, 2, 0, 2, 152) ∧ cd 33 39 = some ((.iload_n 1), 1, 0, 0, 0, 0) ∧ cd 33 40 = some (.aaload, 1, 0, 0, 0, 0) ∧ cd 33 41 = some ((.iload_n 2), 1, 0, 0, 0, 0) ∧ cd 33 42 = some ((.iload_n 3), 1, 0, 0, 0, 0) ∧ cd 33 43 = some ((.invokevirtual 66), 3, 35, 2, 1, 486) ∧ cd 33 46 = some (.ireturn, 1, 0, 0, 0, 0) ∧ True := conjL_of 33 c33 (by decide +kernel)
theorem Z33 : mZ 33 = 1 ∧ mL 33 = 4 ∧ mK 33 = 0 ∧ hT 33 = [] := ⟨rfl, rfl, rfl, rfl⟩
theorem D34 : cd 34 0 = some ((.iload_n 0), 1, 0, 0, 0, 0) ∧ cd 34 1 = some ((.ifCond .lt 8), 3, 9, 0, 0, 0) ∧ cd 34 4 = some ((.iload_n 0), 1, 0, 0, 0, 0) ∧ cd 34 5 = some ((.iload_n 1), 1, 0, 0, 0, 0) ∧ cd 34 6 = some ((.if_icmp .lt 14), 3, 20, 0, 0, 0) ∧ cd 34 9 = some ((.new 268), 3, 902, 479, 480, 470) ∧ cd 34 12 = some (.dup, 1, 0, 0, 0, 0) ∧ cd 34 13 = some ((.ldc_w 270), 3, 0, 0, 0, 0) ∧ cd 34 16 = some ((.invokespecial 272), 3, 9009, 1, 2, 480) ∧ cd 34 19 = some (.athrow, 1, 0, 0, 0, 0) ∧ cd 34 20 = some (.return_, 1, 0, 0, 0, 0) ∧ True := conjL_of 34 c34 (by decide +kernel)
theorem Z34 : mZ 34 = 0 ∧ mL 34 = 2 ∧ mK 34 = 0 ∧ hT 34 = [] := ⟨rfl, rfl, rfl, rfl⟩
theorem D35 : cd 35 0 = some ((.aload_n 0), 1, 0, 0, 0, 0) ∧ cd 35 1 = some ((.getfield 15), 3, 8, 1, 2, 118) ∧ cd 35 4 = some ((.iload_n 2), 1, 0, 0, 0, 0) ∧ cd 35 5 = some (.iaload, 1, 0, 0, 0, 0) ∧ cd 35 6 = some ((.istore_n 3), 1, 0, 0, 0, 0) ∧ cd 35 7 = some ((.aload_n 0), 1, 0, 0, 0, 0) ∧ cd 35 8 = some ((.getfield 9), 3, 8, 0, 2, 116) ∧ cd 35 11 = some ((.iload_n 1), 1, 0, 0, 0, 0) ∧ cd 35 12 = some (.iaload, 1, 0, 0, 0, 0) ∧ cd 35 13 = some ((.istore 4), 2, 0, 0, 0, 0) ∧ cd 35 15 = some ((.aload_n 0), 1, 0, 0, 0, 0) ∧ cd 35 16 = some ((.iload_n 3), 1, 0, 0, 0, 0) ∧ cd 35 17 = some ((.iload 4), 2, 0, 0, 0, 0) ∧ cd 35 19 = some ((.invokevirtual 26), 3, 36, 2, 1, 490) ∧ cd 35 22 = some ((.aload_n 0), 1, 0, 0, 0, 0) ∧ cd 35 23 = some ((.iload_n 1), 1, 0, 0, 0, 0) ∧ cd 35 24 = some ((.iload_n 2), 1, 0, 0, 0, 0) ∧ cd 35 25 = some ((.invokevirtual 26), 3, 36, 2, 1, 490) ∧ cd 35 28 = some ((.iload_n 3), 1, 0, 0, 0, 0) ∧ cd 35 29 = some (.ireturn, 1, 0, 0, 0, 0) ∧ True := conjL_of 35 c35 (by decide +kernel)
theorem Z35 : mZ 35 = 1 ∧ mL 35 = 5 ∧ mK 35 = 8 ∧ hT 35 = [] := ⟨rfl, rfl, rfl, rfl⟩
theorem D36 : cd 36 0 = some ((.aload_n 0), 1, 0, 0, 0, 0) ∧ cd 36 1 = some ((.getfield 9), 3, 8, 0, 2, 116) ∧ cd 36 4 = some ((.iload_n 1), 1, 0, 0, 0, 0) ∧ cd 36 5 = some ((.iload_n 2), 1, 0, 0, 0, 0) ∧ cd 36 6 = some (.iastore, 1, 0, 0, 0, 0) ∧ cd 36 7 = some ((.aload_n 0), 1, 0, 0, 0, 0) ∧ cd 36 8 = some ((.getfield 15), 3, 8, 1, 2, 118) ∧ cd 36 11 = some ((.iload_n 2), 1, 0, 0, 0, 0) ∧ cd 36 12 = some ((.iload_n 1), 1, 0, 0, 0, 0) ∧ cd 36 13 = some (.iastore, 1, 0, 0, 0, 0) ∧ cd 36 14 = some (.return_, 1, 0, 0, 0, 0) ∧ True := conjL_of 36 c36 (by decide +kernel)
theorem Z36 : mZ 36 = 0 ∧ mL 36 = 3 ∧ mK 36 = 8 ∧ hT 36 = [] := ⟨rfl, rfl, rfl, rfl⟩
theorem D37 : cd 37 0 = some ((.aload_n 3), 1, 0, 0, 0, 0) ∧ cd 37 1 = some ((.iconst 0), 1, 0, 0, 0, 0) ∧ cd 37 2 = some ((.aload_n 0), 1, 0, 0, 0, 0) ∧ cd 37 3 = some ((.iload_n 1), 1, 0, 0, 0, 0) ∧ cd 37 4 = some ((.iload_n 2), 1, 0, 0, 0, 0) ∧ cd 37 5 = some ((.invokevirtual 23), 3, 38, 2, 1, 497) ∧ cd 37 8 = some (.i2l, 1, 0, 0, 0, 0) ∧ cd 37 9 = some (.lastore, 1, 0, 0, 0, 0) ∧ cd 37 10 = some ((.goto 11), 3, 21, 0, 0, 0) ∧ cd 37 13 = some ((.astore 4), 2, 0, 0, 0, 0) ∧ cd 37 15 = some ((.iconst 1), 1, 0, 0, 0, 0) ∧ cd 37 16 = some (.ireturn, 1, 0, 0, 0, 0) ∧ cd 37 17 = some ((.astore 4), 2, 0, 0, 0, 0) ∧ cd 37 19 = some ((.iconst 2), 1, 0, 0, 0, 0) ∧ cd 37 20 = some (.ireturn, 1, 0, 0, 0, 0) ∧ cd 37 21 = some ((.iconst 0), 1, 0, 0, 0, 0) ∧ cd 37 22 = some (.ireturn, 1, 0, 0, 0, 0) ∧ True := conjL_of 37 c37 (by decide +kernel)
theorem Z37 : mZ 37 = 1 ∧ mL 37 = 5 ∧ mK 37 = 99 ∧ hT 37 = [(0, 10, 13, 2), (0, 10, 17, 1)] := ⟨rfl, rfl, rfl, rfl⟩
theorem D38 : cd 38 0 = some ((.iload_n 1), 1, 0, 0, 0, 0) ∧ cd 38 1 = some ((.bipush 8), 2, 0, 0, 0, 0) ∧ cd 38 3 = some ((.invokestatic 58), 3, 34, 2, 0, 467) ∧ cd 38 6 = some ((.iload_n 2), 1, 0, 0, 0, 0) ∧ cd 38 7 = some ((.aload_n 0), 1, 0, 0, 0, 0) ∧ cd 38 8 = some ((.getfield 10), 3, 0, 0, 2, 297) ∧ cd 38 11 = some ((.getfield 51), 3, 2, 9, 0, 167) ∧ cd 38 14 = some ((.invokestatic 58), 3, 34, 2, 0, 467) ∧ cd 38 17 = some ((.aload_n 0), 1, 0, 0, 0, 0) ∧ cd 38 18 = some ((.invokevirtual 48), 3, 29, 0, 1, 431) ∧ cd 38 21 = some ((.aload_n 0), 1, 0, 0, 0, 0) ∧ cd 38 22 = some ((.getfield 10), 3, 0, 0, 2, 297) ∧ cd 38 25 = some ((.getfield 62), 3, 2, 0, 2, 152) ∧ cd 38 28 = some ((.iload_n 1), 1, 0, 0, 0, 0) ∧ cd 38 29 = some (.aaload, 1, 0, 0, 0, 0) ∧ cd 38 30 = some ((.getfield 72), 3, 8, 3, 0, 124) ∧ cd 38 33 = some ((.istore_n 3), 1, 0, 0, 0, 0) ∧ cd 38 34 = some ((.aload_n 0), 1, 0, 0, 0, 0) ∧ cd 38 35 = some ((.getfield 10), 3, 0, 0, 2, 297) ∧ cd 38 38 = some ((.getfield 62), 3, 2, 0, 2, 152) ∧ cd 38 41 = some ((.iload_n 1), 1, 0, 0, 0, 0) ∧ cd 38 42 = some (.aaload, 1, 0, 0, 0, 0) ∧ cd 38 43 = some ((.iload_n 2), 1, 0, 0, 0, 0) ∧ cd 38 44 = some ((.putfield 72), 3, 8, 3, 0, 124) ∧ cd 38 47 = some ((.iload_n 3), 1, 0, 0, 0, 0) ∧ cd 38 48 = some (.ireturn, 1, 0, 0, 0, 0) ∧ True := conjL_of 38 c38 (by decide +kernel)
theorem Z38 : mZ 38 = 1 ∧ mL 38 = 4 ∧ mK 38 = 0 ∧ hT 38 = [] := ⟨rfl, rfl, rfl, rfl⟩
theorem D39 : cd 39 0 = some ((.aload 4), 2, 0, 0, 0, 0) ∧ cd 39 2 = some ((.iconst 0), 1, 0, 0, 0, 0) ∧ cd 39 3 = some ((.aload_n 0), 1, 0, 0, 0, 0) ∧ cd 39 4 = some ((.iload_n 1), 1, 0, 0, 0, 0) ∧ cd 39 5 = some ((.iload_n 2), 1, 0, 0, 0, 0) ∧ cd 39 6 = some ((.iload_n 3), 1, 0, 0, 0, 0) ∧ cd 39 7 = some ((.invokevirtual 27), 3, 40, 3, 1, 504) ∧ cd 39 10 = some ((.ifCond .eq 7), 3, 17, 0, 0, 0) ∧ cd 39 13 = some ((.lconst 1), 1, 0, 0, 0, 0) ∧ cd 39 14 = some ((.goto 4), 3, 18, 0, 0, 0) ∧ cd 39 17 = some ((.lconst 0), 1, 0, 0, 0, 0) ∧ cd 39 18 = some (.lastore, 1, 0, 0, 0, 0) ∧ cd 39 19 = some ((.goto 11), 3, 30, 0, 0, 0) ∧ cd 39 22 = some ((.astore 5), 2, 0, 0, 0, 0) ∧ cd 39 24 = some ((.iconst 1), 1, 0, 0, 0, 0) ∧ cd 39 25 = some (.ireturn, 1, 0, 0, 0, 0) ∧ cd 39 26 = some ((.astore 5), 2, 0, 0, 0, 0) ∧ cd 39 28 = some ((.iconst 2), 1, 0, 0, 0, 0) ∧ cd 39 29 = some (.ireturn, 1, 0, 0, 0, 0) ∧ cd 39 30 = some ((.iconst 0), 1, 0, 0, 0, 0) ∧ cd 39 31 = some (.ireturn, 1, 0, 0, 0, 0) ∧ True := conjL_of 39 c39 (by decide +kernel)
theorem Z39 : mZ 39 = 1 ∧ mL 39 = 6 ∧ mK 39 = 99 ∧ hT 39 = [(0, 19, 22, 2), (0, 19, 26, 1)] := ⟨rfl, rfl, rfl, rfl⟩
theorem D40 : cd 40 0 = some ((.iload_n 1), 1, 0, 0, 0, 0) ∧ cd 40 1 = some ((.bipush 8), 2, 0, 0, 0, 0) ∧ cd 40 3 = some ((.invokestatic 58), 3, 34, 2, 0, 467) ∧ cd 40 6 = some ((.iload_n 2), 1, 0, 0, 0, 0) ∧ cd 40 7 = some ((.aload_n 0), 1, 0, 0, 0, 0) ∧ cd 40 8 = some ((.getfield 10), 3, 0, 0, 2, 297) ∧ cd 40 11 = some ((.getfield 51), 3, 2, 9, 0, 167) ∧ cd 40 14 = some ((.invokestatic 58), 3, 34, 2, 0, 467) ∧ cd 40 17 = some ((.aload_n 0), 1, 0, 0, 0, 0) ∧ cd 40 18 = some ((.invokevirtual 48), 3, 29, 0, 1, 431) ∧ cd 40 21 = some ((.aload_n 0), 1, 0, 0, 0, 0) ∧ cd 40 22 = some ((.getfield 10), 3, 0, 0, 2, 297) ∧ cd 40 25 = some ((.getfield 62), 3, 2, 0, 2, 152) ∧ cd 40 28 = some ((.iload_n 1), 1, 0, 0, 0, 0) ∧ cd 40 29 = some (.aaload, 1, 0, 0, 0, 0) ∧ cd 40 30 = some ((.getfield 75), 3, 8, 2, 2, 121) ∧ cd 40 33 = some ((.iload_n 2), 1, 0, 0, 0, 0) ∧ cd 40 34 = some ((.iload_n 3), 1, 0, 0, 0, 0) ∧ cd 40 35 = some ((.invokestatic 79), 3, 41, 3, 0, 508) ∧ cd 40 38 = some (.ireturn, 1, 0, 0, 0, 0) ∧ True := conjL_of 40 c40 (by decide +kernel)
theorem Z40 : mZ 40 = 2 ∧ mL 40 = 4 ∧ mK 40 = 0 ∧ hT 40 = [] := ⟨rfl, rfl, rfl, rfl⟩
theorem D41 : cd 41 0 = some ((.aload_n 0), 1, 0, 0, 0, 0) ∧ cd 41 1 = some ((.iload_n 1), 1, 0, 0, 0, 0) ∧ cd 41 2 = some (.baload, 1, 0, 0, 0, 0) ∧ cd 41 3 = some ((.iload_n 2), 1, 0, 0, 0, 0) ∧ cd 41 4 = some ((.if_icmp .eq 7), 3, 11, 0, 0, 0) ∧ cd 41 7 = some ((.iconst 1), 1, 0, 0, 0, 0) ∧ cd 41 8 = some ((.goto 4), 3, 12, 0, 0, 0) ∧ cd 41 11 = some ((.iconst 0), 1, 0, 0, 0, 0) ∧ cd 41 12 = some ((.istore_n 3), 1, 0, 0, 0, 0) ∧ cd 41 13 = some ((.aload_n 0), 1, 0, 0, 0, 0) ∧ cd 41 14 = some ((.iload_n 1), 1, 0, 0, 0, 0) ∧ cd 41 15 = some ((.iload_n 2), 1, 0, 0, 0, 0) ∧ cd 41 16 = some (.bastore, 1, 0, 0, 0, 0) ∧ cd 41 17 = some ((.iload_n 3), 1, 0, 0, 0, 0) ∧ cd 41 18 = some (.ireturn, 1, 0, 0, 0, 0) ∧ True := conjL_of 41 c41 (by decide +kernel)
theorem Z41 : mZ 41 = 2 ∧ mL 41 = 4 ∧ mK 41 = 0 ∧ hT 41 = [] := ⟨rfl, rfl, rfl, rfl⟩
theorem D42 : cd 42 0 = some ((.aload_n 3), 1, 0, 0, 0, 0) ∧ cd 42 1 = some ((.iconst 0), 1, 0, 0, 0, 0) ∧ cd 42 2 = some ((.aload_n 0), 1, 0, 0, 0, 0) ∧ cd 42 3 = some ((.iload_n 1), 1, 0, 0, 0, 0) ∧ cd 42 4 = some ((.iload_n 2), 1, 0, 0, 0, 0) ∧ cd 42 5 = some ((.invokevirtual 31), 3, 43, 2, 1, 514) ∧ cd 42 8 = some (.i2l, 1, 0, 0, 0, 0) ∧ cd 42 9 = some (.lastore, 1, 0, 0, 0, 0) ∧ cd 42 10 = some ((.goto 11), 3, 21, 0, 0, 0) ∧ cd 42 13 = some ((.astore 4), 2, 0, 0, 0, 0) ∧ cd 42 15 = some ((.iconst 1), 1, 0, 0, 0, 0) ∧ cd 42 16 = some (.ireturn, 1, 0, 0, 0, 0) ∧ cd 42 17 = some ((.astore 4), 2, 0, 0, 0, 0) ∧ cd 42 19 = some ((.iconst 2), 1, 0, 0, 0, 0) ∧ cd 42 20 = some (.ireturn, 1, 0, 0, 0, 0) ∧ cd 42 21 = some ((.iconst 0), 1, 0, 0, 0, 0) ∧ cd 42 22 = some (.ireturn, 1, 0, 0, 0, 0) ∧ True := conjL_of 42 c42 (by decide +kernel)
theorem Z42 : mZ 42 = 1 ∧ mL 42 = 5 ∧ mK 42 = 99 ∧ hT 42 = [(0, 10, 13, 2), (0, 10, 17, 1)] := ⟨rfl, rfl, rfl, rfl⟩
theorem D43 : cd 43 0 = some ((.iload_n 1), 1, 0, 0, 0, 0) ∧ cd 43 1 = some ((.bipush 6), 2, 0, 0, 0, 0) ∧ cd 43 3 = some ((.invokestatic 58), 3, 34, 2, 0, 467) ∧ cd 43 6 = some ((.iload_n 2), 1, 0, 0, 0, 0) ∧ cd 43 7 = some ((.bipush 8), 2, 0, 0, 0, 0) ∧ cd 43 9 = some ((.invokestatic 83), 3, 44, 2, 0, 518) ∧ cd 43 12 = some ((.aload_n 0), 1, 0, 0, 0, 0) ∧ cd 43 13 = some ((.invokevirtual 48), 3, 29, 0, 1, 431) ∧ cd 43 16 = some ((.iload_n 2), 1, 0, 0, 0, 0) ∧ cd 43 17 = some ((.iconst (-1)), 1, 0, 0, 0, 0) ∧ cd 43 18 = some ((.if_icmp .eq 25), 3, 43, 0, 0, 0) ∧ cd 43 21 = some ((.aload_n 0), 1, 0, 0, 0, 0) ∧ cd 43 22 = some ((.getfield 10), 3, 0, 0, 2, 297) ∧ cd 43 25 = some ((.iload_n 2), 1, 0, 0, 0, 0) ∧ cd 43 26 = some ((.iload_n 1), 1, 0, 0, 0, 0) ∧ cd 43 27 = some ((.invokevirtual 86), 3, 45, 2, 1, 521) ∧ cd 43 30 = some ((.ifCond .eq 13), 3, 43, 0, 0, 0) ∧ cd 43 33 = some ((.new 90), 3, 901, 525, 445, 435) ∧ cd 43 36 = some (.dup, 1, 0, 0, 0, 0) ∧ cd 43 37 = some ((.ldc 92), 2, 0, 0, 0, 0) ∧ cd 43 39 = some ((.invokespecial 94), 3, 9009, 1, 2, 445) ∧ cd 43 42 = some (.athrow, 1, 0, 0, 0, 0) ∧ cd 43 43 = some ((.aload_n 0), 1, 0, 0, 0, 0) ∧ cd 43 44 = some ((.getfield 10), 3, 0, 0, 2, 297) ∧ cd 43 47 = some ((.iload_n 1), 1, 0, 0, 0, 0) ∧ cd 43 48 = some ((.iload_n 2), 1, 0, 0, 0, 0) ∧ cd 43 49 = some ((.invokevirtual 95), 3, 46, 2, 1, 526) ∧ cd 43 52 = some (.ireturn, 1, 0, 0, 0, 0) ∧ True := conjL_of 43 c43 (by decide +kernel)
theorem Z43 : mZ 43 = 1 ∧ mL 43 = 3 ∧ mK 43 = 0 ∧ hT 43 = [] := ⟨rfl, rfl, rfl, rfl⟩
theorem D44 : cd 44 0 = some ((.iload_n 0), 1, 0, 0, 0, 0) ∧ cd 44 1 = some ((.iconst (-1)), 1, 0, 0, 0, 0) ∧ cd 44 2 = some ((.if_icmp .eq 8), 3, 10, 0, 0, 0) ∧ cd 44 5 = some ((.iload_n 0), 1, 0, 0, 0, 0) ∧ cd 44 6 = some ((.iload_n 1), 1, 0, 0, 0, 0) ∧ cd 44 7 = some ((.invokestatic 58), 3, 34, 2, 0, 467) ∧ cd 44 10 = some (.return_, 1, 0, 0, 0, 0) ∧ True := conjL_of 44 c44 (by decide +kernel)
theorem Z44 : mZ 44 = 0 ∧ mL 44 = 2 ∧ mK 44 = 0 ∧ hT 44 = [] := ⟨rfl, rfl, rfl, rfl⟩
theorem D45 : cd 45 0 = some ((.iconst 0), 1, 0, 0, 0, 0) ∧ cd 45 1 = some ((.istore_n 3), 1, 0, 0, 0, 0) ∧ cd 45 2 = some ((.iload_n 3), 1, 0, 0, 0, 0) ∧ cd 45 3 = some ((.bipush 6), 2, 0, 0, 0, 0) ∧ cd 45 5 = some ((.if_icmp .ge 26), 3, 31, 0, 0, 0) ∧ cd 45 8 = some ((.iload_n 3), 1, 0, 0, 0, 0) ∧ cd 45 9 = some ((.iload_n 2), 1, 0, 0, 0, 0) ∧ cd 45 10 = some ((.if_icmp .eq 15), 3, 25, 0, 0, 0) ∧ cd 45 13 = some ((.aload_n 0), 1, 0, 0, 0, 0) ∧ cd 45 14 = some ((.getfield 17), 3, 2, 1, 2, 153) ∧ cd 45 17 = some ((.iload_n 3), 1, 0, 0, 0, 0) ∧ cd 45 18 = some (.iaload, 1, 0, 0, 0, 0) ∧ cd 45 19 = some ((.iload_n 1), 1, 0, 0, 0, 0) ∧ cd 45 20 = some ((.if_icmp .ne 5), 3, 25, 0, 0, 0) ∧ cd 45 23 = some ((.iconst 1), 1, 0, 0, 0, 0) ∧ cd 45 24 = some (.ireturn, 1, 0, 0, 0, 0) ∧ cd 45 25 = some ((.iinc 3 1), 3, 0, 0, 0, 0) ∧ cd 45 28 = some ((.goto (-26)), 3, 2, 0, 0, 0) ∧ cd 45 31 = some ((.iconst 0), 1, 0, 0, 0, 0) ∧ cd 45 32 = some (.ireturn, 1, 0, 0, 0, 0) ∧ True := conjL_of 45 c45 (by decide +kernel)
theorem Z45 : mZ 45 = 2 ∧ mL 45 = 4 ∧ mK 45 = 2 ∧ hT 45 = [] := ⟨rfl, rfl, rfl, rfl⟩
theorem D46 : cd 46 0 = some ((.aload_n 0), 1, 0, 0, 0, 0) ∧ cd 46 1 = some ((.getfield 17), 3, 2, 1, 2, 153) ∧ cd 46 4 = some ((.iload_n 1), 1, 0, 0, 0, 0) ∧ cd 46 5 = some (.iaload, 1, 0, 0, 0, 0) ∧ cd 46 6 = some ((.istore_n 3), 1, 0, 0, 0, 0) ∧ cd 46 7 = some ((.aload_n 0), 1, 0, 0, 0, 0) ∧ cd 46 8 = some ((.getfield 17), 3, 2, 1, 2, 153) ∧ cd 46 11 = some ((.iload_n 1), 1, 0, 0, 0, 0) ∧ cd 46 12 = some ((.iload_n 2), 1, 0, 0, 0, 0) ∧ cd 46 13 = some (.iastore, 1, 0, 0, 0, 0) ∧ cd 46 14 = some ((.aload_n 0), 1, 0, 0, 0, 0) ∧ cd 46 15 = some ((.iconst 0), 1, 0, 0, 0, 0) ∧ cd 46 16 = some ((.putfield 74), 3, 2, 10, 0, 169) ∧ cd 46 19 = some ((.iconst 0), 1, 0, 0, 0, 0) ∧ cd 46 20 = some ((.istore 4), 2, 0, 0, 0, 0) ∧ cd 46 22 = some ((.iload 4), 2, 0, 0, 0, 0) ∧ cd 46 24 = some ((.bipush 6), 2, 0, 0, 0, 0) ∧ cd 46 26 = some ((.if_icmp .ge 41), 3, 67, 0, 0, 0) ∧ cd 46 29 = some ((.aload_n 0), 1, 0, 0, 0, 0) ∧ cd 46 30 = some ((.getfield 17), 3, 2, 1, 2, 153) ∧ cd 46 33 = some ((.iload 4), 2, 0, 0, 0, 0) ∧ cd 46 35 = some (.iaload, 1, 0, 0, 0, 0) ∧ cd 46 36 = some ((.iconst (-1)), 1, 0, 0, 0, 0) ∧ cd 46 37 = some ((.if_icmp .eq 24), 3, 61, 0, 0, 0) ∧ cd 46 40 = some ((.aload_n 0), 1, 0, 0, 0, 0) ∧ cd 46 41 = some ((.getfield 21), 3, 2, 2, 2, 154) ∧ cd 46 44 = some ((.aload_n 0), 1, 0, 0, 0, 0) ∧ cd 46 45 = some ((.getfield 74), 3, 2, 10, 0, 169) ∧ cd 46 48 = some ((.iload 4), 2, 0, 0, 0, 0) ∧ cd 46 50 = some (.iastore, 1, 0, 0, 0, 0) ∧ cd 46 51 = some ((.aload_n 0), 1, 0, 0, 0, 0) ∧ cd 46 52 = some (.dup, 1, 0, 0, 0, 0) ∧ cd 46 53 = some ((.getfield 74), 3, 2, 10, 0, 169) ∧ cd 46 56 = some ((.iconst 1), 1, 0, 0, 0, 0) ∧ cd 46 57 = some (.iadd, 1, 0, 0, 0, 0) ∧ cd 46 58 = some ((.putfield 74), 3, 2, 10, 0, 169) ∧ cd 46 61 = some ((.iinc 4 1), 3, 0, 0, 0, 0) ∧ cd 46 64 = some ((.goto (-42)), 3, 22, 0, 0, 0) ∧ cd 46 67 = some ((.iload_n 3), 1, 0, 0, 0, 0) ∧ cd 46 68 = some (.ireturn, 1, 0, 0, 0, 0) ∧ True := conjL_of 46 c46 (by decide +kernel)
theorem Z46 : mZ 46 = 1 ∧ mL 46 = 5 ∧ mK 46 = 2 ∧ hT 46 = [] := ⟨rfl, rfl, rfl, rfl⟩
theorem D47 : cd 47 0 = some ((.aload_n 0), 1, 0, 0, 0, 0) ∧ cd 47 1 = some ((.iload_n 1), 1, 0, 0, 0, 0) ∧ cd 47 2 = some ((.iload_n 2), 1, 0, 0, 0, 0) ∧ cd 47 3 = some ((.iload_n 3), 1, 0, 0, 0, 0) ∧ cd 47 4 = some ((.invokevirtual 34), 3, 48, 3, 1, 533) ∧ cd 47 7 = some ((.goto 15), 3, 22, 0, 0, 0) ∧ cd 47 10 = some ((.astore 4), 2, 0, 0, 0, 0) ∧ cd 47 12 = some ((.iconst 1), 1, 0, 0, 0, 0) ∧ cd 47 13 = some (.ireturn, 1, 0, 0, 0, 0) ∧ cd 47 14 = some ((.astore 4), 2, 0, 0, 0, 0) ∧ cd 47 16 = some ((.iconst 2), 1, 0, 0, 0, 0) ∧ cd 47 17 = some (.ireturn, 1, 0, 0, 0, 0) ∧ cd 47 18 = some ((.astore 4), 2, 0, 0, 0, 0) ∧ cd 47 20 = some ((.iconst 3), 1, 0, 0, 0, 0) ∧ cd 47 21 = some (.ireturn, 1, 0, 0, 0, 0) ∧ cd 47 22 = some ((.iconst 0), 1, 0, 0, 0, 0) ∧ cd 47 23 = some (.ireturn, 1, 0, 0, 0, 0) ∧ True := conjL_of 47 c47 (by decide +kernel)
theorem Z47 : mZ 47 = 1 ∧ mL 47 = 5 ∧ mK 47 = 99 ∧ hT 47 = [(0, 7, 10, 2), (0, 7, 14, 0), (0, 7, 18, 1)] := ⟨rfl, rfl, rfl, rfl⟩
theorem D48 : cd 48 0 = some ((.iload_n 1), 1, 0, 0, 0, 0) ∧ cd 48 1 = some ((.iconst 2), 1, 0, 0, 0, 0) ∧ cd 48 2 = some ((.invokestatic 58), 3, 34, 2, 0, 467) ∧ cd 48 5 = some ((.iload_n 2), 1, 0, 0, 0, 0) ∧ cd 48 6 = some ((.aload_n 0), 1, 0, 0, 0, 0) ∧ cd 48 7 = some ((.getfield 10), 3, 0, 0, 2, 297) ∧ cd 48 10 = some ((.getfield 51), 3, 2, 9, 0, 167) ∧ cd 48 13 = some ((.invokestatic 58), 3, 34, 2, 0, 467) ∧ cd 48 16 = some ((.iload_n 3), 1, 0, 0, 0, 0) ∧ cd 48 17 = some ((.aload_n 0), 1, 0, 0, 0, 0) ∧ cd 48 18 = some ((.getfield 10), 3, 0, 0, 2, 297) ∧ cd 48 21 = some ((.getfield 51), 3, 2, 9, 0, 167) ∧ cd 48 24 = some ((.invokestatic 58), 3, 34, 2, 0, 467) ∧ cd 48 27 = some ((.iload_n 2), 1, 0, 0, 0, 0) ∧ cd 48 28 = some ((.iload_n 3), 1, 0, 0, 0, 0) ∧ cd 48 29 = some ((.if_icmp .ne 13), 3, 42, 0, 0, 0) ∧ cd 48 32 = some ((.new 41), 3, 900, 537, 405, 363) ∧ cd 48 35 = some (.dup, 1, 0, 0, 0, 0) ∧ cd 48 36 = some ((.ldc 98), 2, 0, 0, 0, 0) ∧ cd 48 38 = some ((.invokespecial 45), 3, 9009, 1, 2, 405) ∧ cd 48 41 = some (.athrow, 1, 0, 0, 0, 0) ∧ cd 48 42 = some ((.aload_n 0), 1, 0, 0, 0, 0) ∧ cd 48 43 = some ((.invokevirtual 48), 3, 29, 0, 1, 431) ∧ cd 48 46 = some ((.aload_n 0), 1, 0, 0, 0, 0) ∧ cd 48 47 = some ((.getfield 10), 3, 0, 0, 2, 297) ∧ cd 48 50 = some ((.iload_n 1), 1, 0, 0, 0, 0) ∧ cd 48 51 = some ((.invokevirtual 100), 3, 49, 1, 1, 538) ∧ cd 48 54 = some ((.astore 4), 2, 0, 0, 0, 0) ∧ cd 48 56 = some ((.aload 4), 2, 0, 0, 0, 0) ∧ cd 48 58 = some ((.iload_n 2), 1, 0, 0, 0, 0) ∧ cd 48 59 = some ((.invokevirtual 104), 3, 50, 1, 1, 542) ∧ cd 48 62 = some ((.ifCond .ne 12), 3, 74, 0, 0, 0) ∧ cd 48 65 = some ((.aload 4), 2, 0, 0, 0, 0) ∧ cd 48 67 = some ((.iload_n 3), 1, 0, 0, 0, 0) ∧ cd 48 68 = some ((.invokevirtual 104), 3, 50, 1, 1, 542) ∧ cd 48 71 = some ((.ifCond .eq 13), 3, 84, 0, 0, 0) ∧ cd 48 74 = some ((.new 90), 3, 901, 546, 445, 435) ∧ cd 48 77 = some (.dup, 1, 0, 0, 0, 0) ∧ cd 48 78 = some ((.ldc 110), 2, 0, 0, 0, 0) ∧ cd 48 80 = some ((.invokespecial 94), 3, 9009, 1, 2, 445) ∧ cd 48 83 = some (.athrow, 1, 0, 0, 0, 0) ∧ cd 48 84 = some ((.aload 4), 2, 0, 0, 0, 0) ∧ cd 48 86 = some ((.iload_n 2), 1, 0, 0, 0, 0) ∧ cd 48 87 = some ((.iload_n 3), 1, 0, 0, 0, 0) ∧ cd 48 88 = some ((.invokevirtual 112), 3, 51, 2, 1, 547) ∧ cd 48 91 = some (.return_, 1, 0, 0, 0, 0) ∧ True := conjL_of 48 c48 (by decide +kernel)
theorem Z48 : mZ 48 = 0 ∧ mL 48 = 5 ∧ mK 48 = 0 ∧ hT 48 = [] := ⟨rfl, rfl, rfl, rfl⟩
theorem D49 : cd 49 0 = some ((.iload_n 1), 1, 0, 0, 0, 0) ∧ cd 49 1 = some ((.ifCond .ne 10), 3, 11, 0, 0, 0) ∧ cd 49 4 = some ((.aload_n 0), 1, 0, 0, 0, 0) ∧ cd 49 5 = some ((.getfield 39), 3, 2, 6, 2, 161) ∧ cd 49 8 = some ((.goto 7), 3, 15, 0, 0, 0) ∧ cd 49 11 = some ((.aload_n 0), 1, 0, 0, 0, 0) ∧ cd 49 12 = some ((.getfield 43), 3, 2, 7, 2, 163) ∧ cd 49 15 = some (.areturn, 1, 0, 0, 0, 0) ∧ True := conjL_of 49 c49 (by decide +kernel)
theorem Z49 : mZ 49 = 3 ∧ mL 49 = 2 ∧ mK 49 = 2 ∧ hT 49 = [] := ⟨rfl, rfl, rfl, rfl⟩
theorem D50 : cd 50 0 = some ((.aload_n 0), 1, 0, 0, 0, 0) ∧ cd 50 1 = some ((.getfield 9), 3, 4, 0, 2, 84) ∧ cd 50 4 = some ((.iload_n 1), 1, 0, 0, 0, 0) ∧ cd 50 5 = some (.iaload, 1, 0, 0, 0, 0) ∧ cd 50 6 = some ((.iload_n 1), 1, 0, 0, 0, 0) ∧ cd 50 7 = some ((.if_icmp .eq 7), 3, 14, 0, 0, 0) ∧ cd 50 10 = some ((.iconst 1), 1, 0, 0, 0, 0) ∧ cd 50 11 = some ((.goto 4), 3, 15, 0, 0, 0) ∧ cd 50 14 = some ((.iconst 0), 1, 0, 0, 0, 0) ∧ cd 50 15 = some (.ireturn, 1, 0, 0, 0, 0) ∧ True := conjL_of 50 c50 (by decide +kernel)
theorem Z50 : mZ 50 = 2 ∧ mL 50 = 2 ∧ mK 50 = 4 ∧ hT 50 = [] := ⟨rfl, rfl, rfl, rfl⟩
theorem D51 : cd 51 0 = some ((.aload_n 0), 1, 0, 0, 0, 0) ∧ cd 51 1 = some ((.getfield 9), 3, 4, 0, 2, 84) ∧ cd 51 4 = some ((.iload_n 1), 1, 0, 0, 0, 0) ∧ cd 51 5 = some ((.iload_n 2), 1, 0, 0, 0, 0) ∧ cd 51 6 = some (.iastore, 1, 0, 0, 0, 0) ∧ cd 51 7 = some ((.aload_n 0), 1, 0, 0, 0, 0) ∧ cd 51 8 = some ((.getfield 9), 3, 4, 0, 2, 84) ∧ cd 51 11 = some ((.iload_n 2), 1, 0, 0, 0, 0) ∧ cd 51 12 = some ((.iload_n 1), 1, 0, 0, 0, 0) ∧ cd 51 13 = some (.iastore, 1, 0, 0, 0, 0) ∧ cd 51 14 = some ((.aload_n 0), 1, 0, 0, 0, 0) ∧ cd 51 15 = some (.dup, 1, 0, 0, 0, 0) ∧ cd 51 16 = some ((.getfield 15), 3, 4, 1, 0, 86) ∧ cd 51 19 = some ((.iconst 1), 1, 0, 0, 0, 0) ∧ cd 51 20 = some (.iadd, 1, 0, 0, 0, 0) ∧ cd 51 21 = some ((.putfield 15), 3, 4, 1, 0, 86) ∧ cd 51 24 = some (.return_, 1, 0, 0, 0, 0) ∧ True := conjL_of 51 c51 (by decide +kernel)
theorem Z51 : mZ 51 = 0 ∧ mL 51 = 3 ∧ mK 51 = 4 ∧ hT 51 = [] := ⟨rfl, rfl, rfl, rfl⟩
theorem D52 : cd 52 0 = some ((.aload_n 3), 1, 0, 0, 0, 0) ∧ cd 52 1 = some ((.iconst 0), 1, 0, 0, 0, 0) ∧ cd 52 2 = some ((.aload_n 0), 1, 0, 0, 0, 0) ∧ cd 52 3 = some ((.iload_n 1), 1, 0, 0, 0, 0) ∧ cd 52 4 = some ((.iload_n 2), 1, 0, 0, 0, 0) ∧ cd 52 5 = some ((.invokevirtual 38), 3, 53, 2, 1, 554) ∧ cd 52 8 = some (.i2l, 1, 0, 0, 0, 0) ∧ cd 52 9 = some (.lastore, 1, 0, 0, 0, 0) ∧ cd 52 10 = some ((.goto 11), 3, 21, 0, 0, 0) ∧ cd 52 13 = some ((.astore 4), 2, 0, 0, 0, 0) ∧ cd 52 15 = some ((.iconst 1), 1, 0, 0, 0, 0) ∧ cd 52 16 = some (.ireturn, 1, 0, 0, 0, 0) ∧ cd 52 17 = some ((.astore 4), 2, 0, 0, 0, 0) ∧ cd 52 19 = some ((.iconst 2), 1, 0, 0, 0, 0) ∧ cd 52 20 = some (.ireturn, 1, 0, 0, 0, 0) ∧ cd 52 21 = some ((.iconst 0), 1, 0, 0, 0, 0) ∧ cd 52 22 = some (.ireturn, 1, 0, 0, 0, 0) ∧ True := conjL_of 52 c52 (by decide +kernel)
theorem Z52 : mZ 52 = 1 ∧ mL 52 = 5 ∧ mK 52 = 99 ∧ hT 52 = [(0, 10, 13, 2), (0, 10, 17, 1)] := ⟨rfl, rfl, rfl, rfl⟩
theorem D53 : cd 53 0 = some ((.iload_n 1), 1, 0, 0, 0, 0) ∧ cd 53 1 = some ((.iconst 2), 1, 0, 0, 0, 0) ∧ cd 53 2 = some ((.invokestatic 58), 3, 34, 2, 0, 467) ∧ cd 53 5 = some ((.iload_n 2), 1, 0, 0, 0, 0) ∧ cd 53 6 = some ((.aload_n 0), 1, 0, 0, 0, 0) ∧ cd 53 7 = some ((.getfield 10), 3, 0, 0, 2, 297) ∧ cd 53 10 = some ((.getfield 51), 3, 2, 9, 0, 167) ∧ cd 53 13 = some ((.invokestatic 58), 3, 34, 2, 0, 467) ∧ cd 53 16 = some ((.aload_n 0), 1, 0, 0, 0, 0) ∧ cd 53 17 = some ((.invokevirtual 48), 3, 29, 0, 1, 431) ∧ cd 53 20 = some ((.aload_n 0), 1, 0, 0, 0, 0) ∧ cd 53 21 = some ((.getfield 10), 3, 0, 0, 2, 297) ∧ cd 53 24 = some ((.iload_n 1), 1, 0, 0, 0, 0) ∧ cd 53 25 = some ((.invokevirtual 100), 3, 49, 1, 1, 538) ∧ cd 53 28 = some ((.astore_n 3), 1, 0, 0, 0, 0) ∧ cd 53 29 = some ((.aload_n 3), 1, 0, 0, 0, 0) ∧ cd 53 30 = some ((.iload_n 2), 1, 0, 0, 0, 0) ∧ cd 53 31 = some ((.invokevirtual 104), 3, 50, 1, 1, 542) ∧ cd 53 34 = some ((.ifCond .eq 11), 3, 45, 0, 0, 0) ∧ cd 53 37 = some ((.aload_n 3), 1, 0, 0, 0, 0) ∧ cd 53 38 = some ((.iload_n 2), 1, 0, 0, 0, 0) ∧ cd 53 39 = some ((.invokevirtual 115), 3, 54, 1, 1, 558) ∧ cd 53 42 = some ((.goto 4), 3, 46, 0, 0, 0) ∧ cd 53 45 = some ((.iconst (-1)), 1, 0, 0, 0, 0) ∧ cd 53 46 = some (.ireturn, 1, 0, 0, 0, 0) ∧ True := conjL_of 53 c53 (by decide +kernel)
theorem Z53 : mZ 53 = 1 ∧ mL 53 = 4 ∧ mK 53 = 0 ∧ hT 53 = [] := ⟨rfl, rfl, rfl, rfl⟩
theorem D54 : cd 54 0 = some ((.aload_n 0), 1, 0, 0, 0, 0) ∧ cd 54 1 = some ((.getfield 9), 3, 4, 0, 2, 84) ∧ cd 54 4 = some ((.iload_n 1), 1, 0, 0, 0, 0) ∧ cd 54 5 = some (.iaload, 1, 0, 0, 0, 0) ∧ cd 54 6 = some ((.istore_n 2), 1, 0, 0, 0, 0) ∧ cd 54 7 = some ((.aload_n 0), 1, 0, 0, 0, 0) ∧ cd 54 8 = some ((.getfield 9), 3, 4, 0, 2, 84) ∧ cd 54 11 = some ((.iload_n 1), 1, 0, 0, 0, 0) ∧ cd 54 12 = some ((.iload_n 1), 1, 0, 0, 0, 0) ∧ cd 54 13 = some (.iastore, 1, 0, 0, 0, 0) ∧ cd 54 14 = some ((.aload_n 0), 1, 0, 0, 0, 0) ∧ cd 54 15 = some ((.getfield 9), 3, 4, 0, 2, 84) ∧ cd 54 18 = some ((.iload_n 2), 1, 0, 0, 0, 0) ∧ cd 54 19 = some ((.iload_n 2), 1, 0, 0, 0, 0) ∧ cd 54 20 = some (.iastore, 1, 0, 0, 0, 0) ∧ cd 54 21 = some ((.aload_n 0), 1, 0, 0, 0, 0) ∧ cd 54 22 = some (.dup, 1, 0, 0, 0, 0) ∧ cd 54 23 = some ((.getfield 15), 3, 4, 1, 0, 86) ∧ cd 54 26 = some ((.iconst 1), 1, 0, 0, 0, 0) ∧ cd 54 27 = some (.isub, 1, 0, 0, 0, 0) ∧ cd 54 28 = some ((.putfield 15), 3, 4, 1, 0, 86) ∧ cd 54 31 = some ((.iload_n 2), 1, 0, 0, 0, 0) ∧ cd 54 32 = some (.ireturn, 1, 0, 0, 0, 0) ∧ True := conjL_of 54 c54 (by decide +kernel)
theorem Z54 : mZ 54 = 1 ∧ mL 54 = 3 ∧ mK 54 = 4 ∧ hT 54 = [] := ⟨rfl, rfl, rfl, rfl⟩
theorem D55 : cd 55 0 = some ((.aload_n 2), 1, 0, 0, 0, 0) ∧ cd 55 1 = some ((.iconst 0), 1, 0, 0, 0, 0) ∧ cd 55 2 = some ((.aload_n 0), 1, 0, 0, 0, 0) ∧ cd 55 3 = some ((.iload_n 1), 1, 0, 0, 0, 0) ∧ cd 55 4 = some ((.invokevirtual 41), 3, 56, 1, 1, 565) ∧ cd 55 7 = some ((.ifCond .eq 7), 3, 14, 0, 0, 0) ∧ cd 55 10 = some ((.lconst 1), 1, 0, 0, 0, 0) ∧ cd 55 11 = some ((.goto 4), 3, 15, 0, 0, 0) ∧ cd 55 14 = some ((.lconst 0), 1, 0, 0, 0, 0) ∧ cd 55 15 = some (.lastore, 1, 0, 0, 0, 0) ∧ cd 55 16 = some ((.goto 6), 3, 22, 0, 0, 0) ∧ cd 55 19 = some ((.astore_n 3), 1, 0, 0, 0, 0) ∧ cd 55 20 = some ((.iconst 1), 1, 0, 0, 0, 0) ∧ cd 55 21 = some (.ireturn, 1, 0, 0, 0, 0) ∧ cd 55 22 = some ((.iconst 0), 1, 0, 0, 0, 0) ∧ cd 55 23 = some (.ireturn, 1, 0, 0, 0, 0) ∧ True := conjL_of 55 c55 (by decide +kernel)
theorem Z55 : mZ 55 = 1 ∧ mL 55 = 4 ∧ mK 55 = 99 ∧ hT 55 = [(0, 16, 19, 1)] := ⟨rfl, rfl, rfl, rfl⟩
theorem D56 : cd 56 0 = some ((.aload_n 0), 1, 0, 0, 0, 0) ∧ cd 56 1 = some ((.invokevirtual 48), 3, 29, 0, 1, 431) ∧ cd 56 4 = some ((.aload_n 0), 1, 0, 0, 0, 0) ∧ cd 56 5 = some ((.getfield 10), 3, 0, 0, 2, 297) ∧ cd 56 8 = some ((.getfield 119), 3, 2, 13, 1, 176) ∧ cd 56 11 = some ((.iload_n 1), 1, 0, 0, 0, 0) ∧ cd 56 12 = some ((.if_icmp .eq 7), 3, 19, 0, 0, 0) ∧ cd 56 15 = some ((.iconst 1), 1, 0, 0, 0, 0) ∧ cd 56 16 = some ((.goto 4), 3, 20, 0, 0, 0) ∧ cd 56 19 = some ((.iconst 0), 1, 0, 0, 0, 0) ∧ cd 56 20 = some ((.istore_n 2), 1, 0, 0, 0, 0) ∧ cd 56 21 = some ((.aload_n 0), 1, 0, 0, 0, 0) ∧ cd 56 22 = some ((.getfield 10), 3, 0, 0, 2, 297) ∧ cd 56 25 = some ((.iload_n 1), 1, 0, 0, 0, 0) ∧ cd 56 26 = some ((.putfield 119), 3, 2, 13, 1, 176) ∧ cd 56 29 = some ((.iload_n 2), 1, 0, 0, 0, 0) ∧ cd 56 30 = some (.ireturn, 1, 0, 0, 0, 0) ∧ True := conjL_of 56 c56 (by decide +kernel)
theorem Z56 : mZ 56 = 2 ∧ mL 56 = 3 ∧ mK 56 = 0 ∧ hT 56 = [] := ⟨rfl, rfl, rfl, rfl⟩
theorem D57 : cd 57 0 = some ((.aload_n 3), 1, 0, 0, 0, 0) ∧ cd 57 1 = some ((.iconst 0), 1, 0, 0, 0, 0) ∧ cd 57 2 = some ((.aload_n 0), 1, 0, 0, 0, 0) ∧ cd 57 3 = some ((.iload_n 1), 1, 0, 0, 0, 0) ∧ cd 57 4 = some ((.iload_n 2), 1, 0, 0, 0, 0) ∧ cd 57 5 = some ((.invokevirtual 45), 3, 58, 2, 1, 572) ∧ cd 57 8 = some (.i2l, 1, 0, 0, 0, 0) ∧ cd 57 9 = some (.lastore, 1, 0, 0, 0, 0) ∧ cd 57 10 = some ((.goto 15), 3, 25, 0, 0, 0) ∧ cd 57 13 = some ((.astore 4), 2, 0, 0, 0, 0) ∧ cd 57 15 = some ((.iconst 1), 1, 0, 0, 0, 0) ∧ cd 57 16 = some (.ireturn, 1, 0, 0, 0, 0) ∧ cd 57 17 = some ((.astore 4), 2, 0, 0, 0, 0) ∧ cd 57 19 = some ((.iconst 2), 1, 0, 0, 0, 0) ∧ cd 57 20 = some (.ireturn, 1, 0, 0, 0, 0) ∧ cd 57 21 = some ((.astore 4), 2, 0, 0, 0, 0) ∧ cd 57 23 = some ((.iconst 3), 1, 0, 0, 0, 0) ∧ cd 57 24 = some (.ireturn, 1, 0, 0, 0, 0) ∧ cd 57 25 = some ((.iconst 0), 1, 0, 0, 0, 0) ∧ cd 57 26 = some (.ireturn, 1, 0, 0, 0, 0) ∧ True := conjL_of 57 c57 (by decide +kernel)
theorem Z57 : mZ 57 = 1 ∧ mL 57 = 5 ∧ mK 57 = 99 ∧ hT 57 = [(0, 10, 13, 2), (0, 10, 17, 0), (0, 10, 21, 1)] := ⟨rfl, rfl, rfl, rfl⟩
theorem D58 : cd 58 0 = some ((.iload_n 1), 1, 0, 0, 0, 0) ∧ cd 58 1 = some ((.bipush 12), 2, 0, 0, 0, 0) ∧ cd 58 3 = some ((.invokestatic 58), 3, 34, 2, 0, 467) ∧ cd 58 6 = some ((.iload_n 2), 1, 0, 0, 0, 0) ∧ cd 58 7 = some ((.ifCond .lt 9), 3, 16, 0, 0, 0) ∧ cd 58 10 = some ((.iload_n 2), 1, 0, 0, 0, 0) ∧ cd 58 11 = some ((.bipush 61), 2, 0, 0, 0, 0) ∧ cd 58 13 = some ((.if_icmp .le 13), 3, 26, 0, 0, 0) ∧ cd 58 16 = some ((.new 41), 3, 900, 576, 405, 363) ∧ cd 58 19 = some (.dup, 1, 0, 0, 0, 0) ∧ cd 58 20 = some ((.ldc 123), 2, 0, 0, 0, 0) ∧ cd 58 22 = some ((.invokespecial 45), 3, 9009, 1, 2, 405) ∧ cd 58 25 = some (.athrow, 1, 0, 0, 0, 0) ∧ cd 58 26 = some ((.aload_n 0), 1, 0, 0, 0, 0) ∧ cd 58 27 = some ((.invokevirtual 48), 3, 29, 0, 1, 431) ∧ cd 58 30 = some ((.aload_n 0), 1, 0, 0, 0, 0) ∧ cd 58 31 = some ((.getfield 10), 3, 0, 0, 2, 297) ∧ cd 58 34 = some ((.getfield 125), 3, 2, 3, 2, 156) ∧ cd 58 37 = some ((.iload_n 1), 1, 0, 0, 0, 0) ∧ cd 58 38 = some (.aaload, 1, 0, 0, 0, 0) ∧ cd 58 39 = some ((.getfield 129), 3, 5, 1, 0, 145) ∧ cd 58 42 = some ((.istore_n 3), 1, 0, 0, 0, 0) ∧ cd 58 43 = some ((.aload_n 0), 1, 0, 0, 0, 0) ∧ cd 58 44 = some ((.getfield 10), 3, 0, 0, 2, 297) ∧ cd 58 47 = some ((.getfield 125), 3, 2, 3, 2, 156) ∧ cd 58 50 = some ((.iload_n 1), 1, 0, 0, 0, 0) ∧ cd 58 51 = some (.aaload, 1, 0, 0, 0, 0) ∧ cd 58 52 = some ((.iload_n 2), 1, 0, 0, 0, 0) ∧ cd 58 53 = some ((.invokevirtual 134), 3, 12, 1, 1, 577) ∧ cd 58 56 = some ((.aload_n 0), 1, 0, 0, 0, 0) ∧ cd 58 57 = some ((.getfield 10), 3, 0, 0, 2, 297) ∧ cd 58 60 = some ((.getfield 137), 3, 2, 8, 2, 166) ∧ cd 58 63 = some ((.getfield 140), 3, 6, 1, 2, 105) ∧ cd 58 66 = some ((.iload_n 1), 1, 0, 0, 0, 0) ∧ cd 58 67 = some ((.iconst 0), 1, 0, 0, 0, 0) ∧ cd 58 68 = some (.iastore, 1, 0, 0, 0, 0) ∧ cd 58 69 = some ((.aload_n 0), 1, 0, 0, 0, 0) ∧ cd 58 70 = some ((.getfield 19), 3, 0, 1, 2, 298) ∧ cd 58 73 = some ((.invokevirtual 55), 3, 30, 0, 1, 451) ∧ cd 58 76 = some ((.iload_n 3), 1, 0, 0, 0, 0) ∧ cd 58 77 = some (.ireturn, 1, 0, 0, 0, 0) ∧ True := conjL_of 58 c58 (by decide +kernel)
theorem Z58 : mZ 58 = 1 ∧ mL 58 = 4 ∧ mK 58 = 0 ∧ hT 58 = [] := ⟨rfl, rfl, rfl, rfl⟩
theorem D59 : cd 59 0 = some ((.aload 4), 2, 0, 0, 0, 0) ∧ cd 59 2 = some ((.iconst 0), 1, 0, 0, 0, 0) ∧ cd 59 3 = some ((.aload_n 0), 1, 0, 0, 0, 0) ∧ cd 59 4 = some ((.iload_n 1), 1, 0, 0, 0, 0) ∧ cd 59 5 = some ((.iload_n 2), 1, 0, 0, 0, 0) ∧ cd 59 6 = some ((.iload_n 3), 1, 0, 0, 0, 0) ∧ cd 59 7 = some ((.invokevirtual 48), 3, 60, 3, 1, 581) ∧ cd 59 10 = some ((.ifCond .eq 7), 3, 17, 0, 0, 0) ∧ cd 59 13 = some ((.lconst 1), 1, 0, 0, 0, 0) ∧ cd 59 14 = some ((.goto 4), 3, 18, 0, 0, 0) ∧ cd 59 17 = some ((.lconst 0), 1, 0, 0, 0, 0) ∧ cd 59 18 = some (.lastore, 1, 0, 0, 0, 0) ∧ cd 59 19 = some ((.goto 11), 3, 30, 0, 0, 0) ∧ cd 59 22 = some ((.astore 5), 2, 0, 0, 0, 0) ∧ cd 59 24 = some ((.iconst 1), 1, 0, 0, 0, 0) ∧ cd 59 25 = some (.ireturn, 1, 0, 0, 0, 0) ∧ cd 59 26 = some ((.astore 5), 2, 0, 0, 0, 0) ∧ cd 59 28 = some ((.iconst 2), 1, 0, 0, 0, 0) ∧ cd 59 29 = some (.ireturn, 1, 0, 0, 0, 0) ∧ cd 59 30 = some ((.iconst 0), 1, 0, 0, 0, 0) ∧ cd 59 31 = some (.ireturn, 1, 0, 0, 0, 0) ∧ True := conjL_of 59 c59 (by decide +kernel)
theorem Z59 : mZ 59 = 1 ∧ mL 59 = 6 ∧ mK 59 = 99 ∧ hT 59 = [(0, 19, 22, 2), (0, 19, 26, 1)] := ⟨rfl, rfl, rfl, rfl⟩
theorem D60 : cd 60 0 = some ((.iload_n 1), 1, 0, 0, 0, 0) ∧ cd 60 1 = some ((.bipush 12), 2, 0, 0, 0, 0) ∧ cd 60 3 = some ((.invokestatic 58), 3, 34, 2, 0, 467) ∧ cd 60 6 = some ((.iload_n 2), 1, 0, 0, 0, 0) ∧ cd 60 7 = some ((.aload_n 0), 1, 0, 0, 0, 0) ∧ cd 60 8 = some ((.getfield 10), 3, 0, 0, 2, 297) ∧ cd 60 11 = some ((.getfield 125), 3, 2, 3, 2, 156) ∧ cd 60 14 = some ((.iload_n 1), 1, 0, 0, 0, 0) ∧ cd 60 15 = some (.aaload, 1, 0, 0, 0, 0) ∧ cd 60 16 = some ((.getfield 129), 3, 5, 1, 0, 145) ∧ cd 60 19 = some ((.invokestatic 58), 3, 34, 2, 0, 467) ∧ cd 60 22 = some ((.aload_n 0), 1, 0, 0, 0, 0) ∧ cd 60 23 = some ((.invokevirtual 48), 3, 29, 0, 1, 431) ∧ cd 60 26 = some ((.aload_n 0), 1, 0, 0, 0, 0) ∧ cd 60 27 = some ((.getfield 10), 3, 0, 0, 2, 297) ∧ cd 60 30 = some ((.getfield 125), 3, 2, 3, 2, 156) ∧ cd 60 33 = some ((.iload_n 1), 1, 0, 0, 0, 0) ∧ cd 60 34 = some (.aaload, 1, 0, 0, 0, 0) ∧ cd 60 35 = some ((.getfield 144), 3, 5, 0, 2, 141) ∧ cd 60 38 = some ((.iload_n 2), 1, 0, 0, 0, 0) ∧ cd 60 39 = some ((.iload_n 3), 1, 0, 0, 0, 0) ∧ cd 60 40 = some ((.invokestatic 79), 3, 41, 3, 0, 508) ∧ cd 60 43 = some (.ireturn, 1, 0, 0, 0, 0) ∧ True := conjL_of 60 c60 (by decide +kernel)
theorem Z60 : mZ 60 = 2 ∧ mL 60 = 4 ∧ mK 60 = 0 ∧ hT 60 = [] := ⟨rfl, rfl, rfl, rfl⟩
theorem D61 : cd 61 0 = some ((.aload_n 0), 1, 0, 0, 0, 0) ∧ cd 61 1 = some ((.iload_n 1), 1, 0, 0, 0, 0) ∧ cd 61 2 = some ((.iload_n 2), 1, 0, 0, 0, 0) ∧ cd 61 3 = some ((.iload_n 3), 1, 0, 0, 0, 0) ∧ cd 61 4 = some ((.invokevirtual 51), 3, 62, 3, 1, 588) ∧ cd 61 7 = some ((.goto 11), 3, 18, 0, 0, 0) ∧ cd 61 10 = some ((.astore 4), 2, 0, 0, 0, 0) ∧ cd 61 12 = some ((.iconst 1), 1, 0, 0, 0, 0) ∧ cd 61 13 = some (.ireturn, 1, 0, 0, 0, 0) ∧ cd 61 14 = some ((.astore 4), 2, 0, 0, 0, 0) ∧ cd 61 16 = some ((.iconst 2), 1, 0, 0, 0, 0) ∧ cd 61 17 = some (.ireturn, 1, 0, 0, 0, 0) ∧ cd 61 18 = some ((.iconst 0), 1, 0, 0, 0, 0) ∧ cd 61 19 = some (.ireturn, 1, 0, 0, 0, 0) ∧ True := conjL_of 61 c61 (by decide +kernel)
theorem Z61 : mZ 61 = 1 ∧ mL 61 = 5 ∧ mK 61 = 99 ∧ hT 61 = [(0, 7, 10, 2), (0, 7, 14, 1)] := ⟨rfl, rfl, rfl, rfl⟩
theorem D62 : cd 62 0 = some ((.iload_n 1), 1, 0, 0, 0, 0) ∧ cd 62 1 = some ((.bipush 27), 2, 0, 0, 0, 0) ∧ cd 62 3 = some ((.invokestatic 58), 3, 34, 2, 0, 467) ∧ cd 62 6 = some ((.iload_n 2), 1, 0, 0, 0, 0) ∧ cd 62 7 = some ((.bipush 12), 2, 0, 0, 0, 0) ∧ cd 62 9 = some ((.invokestatic 83), 3, 44, 2, 0, 518) ∧ cd 62 12 = some ((.iload_n 3), 1, 0, 0, 0, 0) ∧ cd 62 13 = some ((.bipush 12), 2, 0, 0, 0, 0) ∧ cd 62 15 = some ((.invokestatic 83), 3, 44, 2, 0, 518) ∧ cd 62 18 = some ((.aload_n 0), 1, 0, 0, 0, 0) ∧ cd 62 19 = some ((.invokevirtual 48), 3, 29, 0, 1, 431) ∧ cd 62 22 = some ((.aload_n 0), 1, 0, 0, 0, 0) ∧ cd 62 23 = some ((.getfield 10), 3, 0, 0, 2, 297) ∧ cd 62 26 = some ((.getfield 147), 3, 2, 4, 2, 158) ∧ cd 62 29 = some ((.iload_n 1), 1, 0, 0, 0, 0) ∧ cd 62 30 = some ((.iload_n 2), 1, 0, 0, 0, 0) ∧ cd 62 31 = some (.iastore, 1, 0, 0, 0, 0) ∧ cd 62 32 = some ((.aload_n 0), 1, 0, 0, 0, 0) ∧ cd 62 33 = some ((.getfield 10), 3, 0, 0, 2, 297) ∧ cd 62 36 = some ((.getfield 150), 3, 2, 5, 2, 160) ∧ cd 62 39 = some ((.iload_n 1), 1, 0, 0, 0, 0) ∧ cd 62 40 = some ((.iload_n 3), 1, 0, 0, 0, 0) ∧ cd 62 41 = some (.iastore, 1, 0, 0, 0, 0) ∧ cd 62 42 = some (.return_, 1, 0, 0, 0, 0) ∧ True := conjL_of 62 c62 (by decide +kernel)
theorem Z62 : mZ 62 = 0 ∧ mL 62 = 4 ∧ mK 62 = 0 ∧ hT 62 = [] := ⟨rfl, rfl, rfl, rfl⟩
theorem D63 : cd 63 0 = some ((.aload_n 2), 1, 0, 0, 0, 0) ∧ cd 63 1 = some ((.iconst 0), 1, 0, 0, 0, 0) ∧ cd 63 2 = some ((.aload_n 0), 1, 0, 0, 0, 0) ∧ cd 63 3 = some ((.iload_n 1), 1, 0, 0, 0, 0) ∧ cd 63 4 = some ((.invokevirtual 54), 3, 64, 1, 1, 595) ∧ cd 63 7 = some (.i2l, 1, 0, 0, 0, 0) ∧ cd 63 8 = some (.lastore, 1, 0, 0, 0, 0) ∧ cd 63 9 = some ((.goto 9), 3, 18, 0, 0, 0) ∧ cd 63 12 = some ((.astore_n 3), 1, 0, 0, 0, 0) ∧ cd 63 13 = some ((.iconst 1), 1, 0, 0, 0, 0) ∧ cd 63 14 = some (.ireturn, 1, 0, 0, 0, 0) ∧ cd 63 15 = some ((.astore_n 3), 1, 0, 0, 0, 0) ∧ cd 63 16 = some ((.iconst 2), 1, 0, 0, 0, 0) ∧ cd 63 17 = some (.ireturn, 1, 0, 0, 0, 0) ∧ cd 63 18 = some ((.iconst 0), 1, 0, 0, 0, 0) ∧ cd 63 19 = some (.ireturn, 1, 0, 0, 0, 0) ∧ True := conjL_of 63 c63 (by decide +kernel)
theorem Z63 : mZ 63 = 1 ∧ mL 63 = 4 ∧ mK 63 = 99 ∧ hT 63 = [(0, 9, 12, 2), (0, 9, 15, 1)] := ⟨rfl, rfl, rfl, rfl⟩
theorem D64 : cd 64 0 = some ((.iload_n 1), 1, 0, 0, 0, 0) ∧ cd 64 1 = some ((.iconst 5), 1, 0, 0, 0, 0) ∧ cd 64 2 = some ((.invokestatic 58), 3, 34, 2, 0, 467) ∧ cd 64 5 = some ((.aload_n 0), 1, 0, 0, 0, 0) ∧ cd 64 6 = some ((.invokevirtual 48), 3, 29, 0, 1, 431) ∧ cd 64 9 = some ((.aload_n 0), 1, 0, 0, 0, 0) ∧ cd 64 10 = some ((.getfield 10), 3, 0, 0, 2, 297) ∧ cd 64 13 = some ((.getfield 153), 3, 2, 11, 0, 172) ∧ cd 64 16 = some ((.istore_n 2), 1, 0, 0, 0, 0) ∧ cd 64 17 = some ((.aload_n 0), 1, 0, 0, 0, 0) ∧ cd 64 18 = some ((.getfield 10), 3, 0, 0, 2, 297) ∧ cd 64 21 = some ((.iload_n 1), 1, 0, 0, 0, 0) ∧ cd 64 22 = some ((.putfield 153), 3, 2, 11, 0, 172) ∧ cd 64 25 = some ((.iload_n 2), 1, 0, 0, 0, 0) ∧ cd 64 26 = some (.ireturn, 1, 0, 0, 0, 0) ∧ True := conjL_of 64 c64 (by decide +kernel)
theorem Z64 : mZ 64 = 1 ∧ mL 64 = 3 ∧ mK 64 = 0 ∧ hT 64 = [] := ⟨rfl, rfl, rfl, rfl⟩
theorem D65 : cd 65 0 = some ((.aload_n 2), 1, 0, 0, 0, 0) ∧ cd 65 1 = some ((.iconst 0), 1, 0, 0, 0, 0) ∧ cd 65 2 = some ((.aload_n 0), 1, 0, 0, 0, 0) ∧ cd 65 3 = some ((.iload_n 1), 1, 0, 0, 0, 0) ∧ cd 65 4 = some ((.invokevirtual 57), 3, 66, 1, 1, 602) ∧ cd 65 7 = some (.i2l, 1, 0, 0, 0, 0) ∧ cd 65 8 = some (.lastore, 1, 0, 0, 0, 0) ∧ cd 65 9 = some ((.goto 9), 3, 18, 0, 0, 0) ∧ cd 65 12 = some ((.astore_n 3), 1, 0, 0, 0, 0) ∧ cd 65 13 = some ((.iconst 1), 1, 0, 0, 0, 0) ∧ cd 65 14 = some (.ireturn, 1, 0, 0, 0, 0) ∧ cd 65 15 = some ((.astore_n 3), 1, 0, 0, 0, 0) ∧ cd 65 16 = some ((.iconst 2), 1, 0, 0, 0, 0) ∧ cd 65 17 = some (.ireturn, 1, 0, 0, 0, 0) ∧ cd 65 18 = some ((.iconst 0), 1, 0, 0, 0, 0) ∧ cd 65 19 = some (.ireturn, 1, 0, 0, 0, 0) ∧ True := conjL_of 65 c65 (by decide +kernel)
theorem Z65 : mZ 65 = 1 ∧ mL 65 = 4 ∧ mK 65 = 99 ∧ hT 65 = [(0, 9, 12, 2), (0, 9, 15, 1)] := ⟨rfl, rfl, rfl, rfl⟩
theorem D66 : cd 66 0 = some ((.iload_n 1), 1, 0, 0, 0, 0) ∧ cd 66 1 = some ((.iconst 3), 1, 0, 0, 0, 0) ∧ cd 66 2 = some ((.invokestatic 58), 3, 34, 2, 0, 467) ∧ cd 66 5 = some ((.aload_n 0), 1, 0, 0, 0, 0) ∧ cd 66 6 = some ((.invokevirtual 48), 3, 29, 0, 1, 431) ∧ cd 66 9 = some ((.aload_n 0), 1, 0, 0, 0, 0) ∧ cd 66 10 = some ((.getfield 10), 3, 0, 0, 2, 297) ∧ cd 66 13 = some ((.getfield 156), 3, 2, 12, 0, 174) ∧ cd 66 16 = some ((.istore_n 2), 1, 0, 0, 0, 0) ∧ cd 66 17 = some ((.aload_n 0), 1, 0, 0, 0, 0) ∧ cd 66 18 = some ((.getfield 10), 3, 0, 0, 2, 297) ∧ cd 66 21 = some ((.iload_n 1), 1, 0, 0, 0, 0) ∧ cd 66 22 = some ((.putfield 156), 3, 2, 12, 0, 174) ∧ cd 66 25 = some ((.iload_n 2), 1, 0, 0, 0, 0) ∧ cd 66 26 = some (.ireturn, 1, 0, 0, 0, 0) ∧ True := conjL_of 66 c66 (by decide +kernel)
theorem Z66 : mZ 66 = 1 ∧ mL 66 = 3 ∧ mK 66 = 0 ∧ hT 66 = [] := ⟨rfl, rfl, rfl, rfl⟩
theorem D67 : cd 67 0 = some ((.aload 4), 2, 0, 0, 0, 0) ∧ cd 67 2 = some ((.iconst 0), 1, 0, 0, 0, 0) ∧ cd 67 3 = some ((.aload_n 0), 1, 0, 0, 0, 0) ∧ cd 67 4 = some ((.iload_n 1), 1, 0, 0, 0, 0) ∧ cd 67 5 = some ((.iload_n 2), 1, 0, 0, 0, 0) ∧ cd 67 6 = some ((.iload_n 3), 1, 0, 0, 0, 0) ∧ cd 67 7 = some ((.invokevirtual 60), 3, 68, 3, 1, 609) ∧ cd 67 10 = some (.i2l, 1, 0, 0, 0, 0) ∧ cd 67 11 = some (.lastore, 1, 0, 0, 0, 0) ∧ cd 67 12 = some ((.goto 11), 3, 23, 0, 0, 0) ∧ cd 67 15 = some ((.astore 5), 2, 0, 0, 0, 0) ∧ cd 67 17 = some ((.iconst 1), 1, 0, 0, 0, 0) ∧ cd 67 18 = some (.ireturn, 1, 0, 0, 0, 0) ∧ cd 67 19 = some ((.astore 5), 2, 0, 0, 0, 0) ∧ cd 67 21 = some ((.iconst 2), 1, 0, 0, 0, 0) ∧ cd 67 22 = some (.ireturn, 1, 0, 0, 0, 0) ∧ cd 67 23 = some ((.iconst 0), 1, 0, 0, 0, 0) ∧ cd 67 24 = some (.ireturn, 1, 0, 0, 0, 0) ∧ True := conjL_of 67 c67 (by decide +kernel)
theorem Z67 : mZ 67 = 1 ∧ mL 67 = 6 ∧ mK 67 = 99 ∧ hT 67 = [(0, 12, 15, 2), (0, 12, 19, 1)] := ⟨rfl, rfl, rfl, rfl⟩
theorem D68 : cd 68 0 = some ((.iload_n 1), 1, 0, 0, 0, 0) ∧ cd 68 1 = some ((.iload_n 2), 1, 0, 0, 0, 0) ∧ cd 68 2 = some ((.invokestatic 159), 3, 69, 2, 0, 613) ∧ cd 68 5 = some ((.iload_n 3), 1, 0, 0, 0, 0) ∧ cd 68 6 = some ((.iload_n 1), 1, 0, 0, 0, 0) ∧ cd 68 7 = some ((.ifCond .ne 13), 3, 20, 0, 0, 0) ∧ cd 68 10 = some ((.aload_n 0), 1, 0, 0, 0, 0) ∧ cd 68 11 = some ((.getfield 10), 3, 0, 0, 2, 297) ∧ cd 68 14 = some ((.getfield 51), 3, 2, 9, 0, 167) ∧ cd 68 17 = some ((.goto 15), 3, 32, 0, 0, 0) ∧ cd 68 20 = some ((.aload_n 0), 1, 0, 0, 0, 0) ∧ cd 68 21 = some ((.getfield 10), 3, 0, 0, 2, 297) ∧ cd 68 24 = some ((.getfield 125), 3, 2, 3, 2, 156) ∧ cd 68 27 = some ((.iload_n 2), 1, 0, 0, 0, 0) ∧ cd 68 28 = some (.aaload, 1, 0, 0, 0, 0) ∧ cd 68 29 = some ((.getfield 129), 3, 5, 1, 0, 145) ∧ cd 68 32 = some ((.invokestatic 58), 3, 34, 2, 0, 467) ∧ cd 68 35 = some ((.aload_n 0), 1, 0, 0, 0, 0) ∧ cd 68 36 = some ((.invokevirtual 48), 3, 29, 0, 1, 431) ∧ cd 68 39 = some ((.aload_n 0), 1, 0, 0, 0, 0) ∧ cd 68 40 = some ((.iload_n 1), 1, 0, 0, 0, 0) ∧ cd 68 41 = some ((.invokevirtual 162), 3, 70, 1, 1, 616) ∧ cd 68 44 = some ((.astore 4), 2, 0, 0, 0, 0) ∧ cd 68 46 = some ((.aload 4), 2, 0, 0, 0, 0) ∧ cd 68 48 = some ((.iload_n 2), 1, 0, 0, 0, 0) ∧ cd 68 49 = some (.iaload, 1, 0, 0, 0, 0) ∧ cd 68 50 = some ((.istore 5), 2, 0, 0, 0, 0) ∧ cd 68 52 = some ((.aload 4), 2, 0, 0, 0, 0) ∧ cd 68 54 = some ((.iload_n 2), 1, 0, 0, 0, 0) ∧ cd 68 55 = some ((.iload_n 3), 1, 0, 0, 0, 0) ∧ cd 68 56 = some (.iastore, 1, 0, 0, 0, 0) ∧ cd 68 57 = some ((.aload_n 0), 1, 0, 0, 0, 0) ∧ cd 68 58 = some ((.getfield 19), 3, 0, 1, 2, 298) ∧ cd 68 61 = some ((.invokevirtual 55), 3, 30, 0, 1, 451) ∧ cd 68 64 = some ((.iload 5), 2, 0, 0, 0, 0) ∧ cd 68 66 = some (.ireturn, 1, 0, 0, 0, 0) ∧ True := conjL_of 68 c68 (by decide +kernel)
theorem Z68 : mZ 68 = 1 ∧ mL 68 = 6 ∧ mK 68 = 0 ∧ hT 68 = [] := ⟨rfl, rfl, rfl, rfl⟩
theorem D69 : cd 69 0 = some ((.iload_n 0), 1, 0, 0, 0, 0) ∧ cd 69 1 = some ((.iconst 2), 1, 0, 0, 0, 0) ∧ cd 69 2 = some ((.invokestatic 58), 3, 34, 2, 0, 467) ∧ cd 69 5 = some ((.iload_n 1), 1, 0, 0, 0, 0) ∧ cd 69 6 = some ((.iload_n 0), 1, 0, 0, 0, 0) ∧ cd 69 7 = some ((.ifCond .ne 8), 3, 15, 0, 0, 0) ∧ cd 69 10 = some ((.bipush 6), 2, 0, 0, 0, 0) ∧ cd 69 12 = some ((.goto 5), 3, 17, 0, 0, 0) ∧ cd 69 15 = some ((.bipush 12), 2, 0, 0, 0, 0) ∧ cd 69 17 = some ((.invokestatic 58), 3, 34, 2, 0, 467) ∧ cd 69 20 = some (.return_, 1, 0, 0, 0, 0) ∧ True := conjL_of 69 c69 (by decide +kernel)
theorem Z69 : mZ 69 = 0 ∧ mL 69 = 2 ∧ mK 69 = 0 ∧ hT 69 = [] := ⟨rfl, rfl, rfl, rfl⟩
theorem D70 : cd 70 0 = some ((.iload_n 1), 1, 0, 0, 0, 0) ∧ cd 70 1 = some ((.ifCond .ne 16), 3, 17, 0, 0, 0) ∧ cd 70 4 = some ((.aload_n 0), 1, 0, 0, 0, 0) ∧ cd 70 5 = some ((.getfield 10), 3, 0, 0, 2, 297) ∧ cd 70 8 = some ((.getfield 137), 3, 2, 8, 2, 166) ∧ cd 70 11 = some ((.getfield 275), 3, 6, 0, 2, 102) ∧ cd 70 14 = some ((.goto 13), 3, 27, 0, 0, 0) ∧ cd 70 17 = some ((.aload_n 0), 1, 0, 0, 0, 0) ∧ cd 70 18 = some ((.getfield 10), 3, 0, 0, 2, 297) ∧ cd 70 21 = some ((.getfield 137), 3, 2, 8, 2, 166) ∧ cd 70 24 = some ((.getfield 140), 3, 6, 1, 2, 105) ∧ cd 70 27 = some (.areturn, 1, 0, 0, 0, 0) ∧ True := conjL_of 70 c70 (by decide +kernel)
theorem Z70 : mZ 70 = 3 ∧ mL 70 = 2 ∧ mK 70 = 0 ∧ hT 70 = [] := ⟨rfl, rfl, rfl, rfl⟩
theorem D71 : cd 71 0 = some ((.aload_n 2), 1, 0, 0, 0, 0) ∧ cd 71 1 = some ((.iconst 0), 1, 0, 0, 0, 0) ∧ cd 71 2 = some ((.aload_n 0), 1, 0, 0, 0, 0) ∧ cd 71 3 = some ((.iload_n 1), 1, 0, 0, 0, 0) ∧ cd 71 4 = some ((.invokevirtual 63), 3, 72, 1, 1, 623) ∧ cd 71 7 = some (.i2l, 1, 0, 0, 0, 0) ∧ cd 71 8 = some (.lastore, 1, 0, 0, 0, 0) ∧ cd 71 9 = some ((.goto 9), 3, 18, 0, 0, 0) ∧ cd 71 12 = some ((.astore_n 3), 1, 0, 0, 0, 0) ∧ cd 71 13 = some ((.iconst 1), 1, 0, 0, 0, 0) ∧ cd 71 14 = some (.ireturn, 1, 0, 0, 0, 0) ∧ cd 71 15 = some ((.astore_n 3), 1, 0, 0, 0, 0) ∧ cd 71 16 = some ((.iconst 2), 1, 0, 0, 0, 0) ∧ cd 71 17 = some (.ireturn, 1, 0, 0, 0, 0) ∧ cd 71 18 = some ((.iconst 0), 1, 0, 0, 0, 0) ∧ cd 71 19 = some (.ireturn, 1, 0, 0, 0, 0) ∧ True := conjL_of 71 c71 (by decide +kernel)
theorem Z71 : mZ 71 = 1 ∧ mL 71 = 4 ∧ mK 71 = 99 ∧ hT 71 = [(0, 9, 12, 2), (0, 9, 15, 1)] := ⟨rfl, rfl, rfl, rfl⟩
theorem D72 : cd 72 0 = some ((.iload_n 1), 1, 0, 0, 0, 0) ∧ cd 72 1 = some ((.aload_n 0), 1, 0, 0, 0, 0) ∧ cd 72 2 = some ((.getfield 10), 3, 0, 0, 2, 297) ∧ cd 72 5 = some ((.getfield 51), 3, 2, 9, 0, 167) ∧ cd 72 8 = some ((.invokestatic 58), 3, 34, 2, 0, 467) ∧ cd 72 11 = some ((.aload_n 0), 1, 0, 0, 0, 0) ∧ cd 72 12 = some ((.getfield 26), 3, 0, 2, 2, 299) ∧ cd 72 15 = some ((.invokevirtual 166), 3, 73, 0, 1, 627) ∧ cd 72 18 = some ((.ifCond .eq 13), 3, 31, 0, 0, 0) ∧ cd 72 21 = some ((.new 90), 3, 901, 631, 445, 435) ∧ cd 72 24 = some (.dup, 1, 0, 0, 0, 0) ∧ cd 72 25 = some ((.ldc 170), 2, 0, 0, 0, 0) ∧ cd 72 27 = some ((.invokespecial 94), 3, 9009, 1, 2, 445) ∧ cd 72 30 = some (.athrow, 1, 0, 0, 0, 0) ∧ cd 72 31 = some ((.aload_n 0), 1, 0, 0, 0, 0) ∧ cd 72 32 = some ((.getfield 19), 3, 0, 1, 2, 298) ∧ cd 72 35 = some ((.aload_n 0), 1, 0, 0, 0, 0) ∧ cd 72 36 = some ((.getfield 10), 3, 0, 0, 2, 297) ∧ cd 72 39 = some ((.invokevirtual 172), 3, 74, 0, 1, 632) ∧ cd 72 42 = some ((.invokevirtual 176), 3, 79, 1, 1, 652) ∧ cd 72 45 = some ((.aload_n 0), 1, 0, 0, 0, 0) ∧ cd 72 46 = some ((.getfield 10), 3, 0, 0, 2, 297) ∧ cd 72 49 = some ((.iload_n 1), 1, 0, 0, 0, 0) ∧ cd 72 50 = some ((.invokevirtual 179), 3, 17, 1, 1, 314) ∧ cd 72 53 = some ((.istore_n 2), 1, 0, 0, 0, 0) ∧ cd 72 54 = some ((.aload_n 0), 1, 0, 0, 0, 0) ∧ cd 72 55 = some ((.getfield 26), 3, 0, 2, 2, 299) ∧ cd 72 58 = some ((.iload_n 1), 1, 0, 0, 0, 0) ∧ cd 72 59 = some ((.iload_n 2), 1, 0, 0, 0, 0) ∧ cd 72 60 = some ((.invokevirtual 182), 3, 80, 2, 1, 660) ∧ cd 72 63 = some ((.iload_n 2), 1, 0, 0, 0, 0) ∧ cd 72 64 = some (.ireturn, 1, 0, 0, 0, 0) ∧ True := conjL_of 72 c72 (by decide +kernel)
theorem Z72 : mZ 72 = 1 ∧ mL 72 = 3 ∧ mK 72 = 0 ∧ hT 72 = [] := ⟨rfl, rfl, rfl, rfl⟩
theorem D73 : cd 73 0 = some ((.aload_n 0), 1, 0, 0, 0, 0) ∧ cd 73 1 = some ((.getfield 22), 3, 1, 2, 1, 262) ∧ cd 73 4 = some ((.ifCond .eq 26), 3, 30, 0, 0, 0) ∧ cd 73 7 = some ((.aload_n 0), 1, 0, 0, 0, 0) ∧ cd 73 8 = some ((.getfield 11), 3, 1, 0, 2, 258) ∧ cd 73 11 = some ((.aload_n 0), 1, 0, 0, 0, 0) ∧ cd 73 12 = some ((.getfield 18), 3, 1, 1, 0, 260) ∧ cd 73 15 = some ((.iconst 1), 1, 0, 0, 0, 0) ∧ cd 73 16 = some (.isub, 1, 0, 0, 0, 0) ∧ cd 73 17 = some (.aaload, 1, 0, 0, 0, 0) ∧ cd 73 18 = some ((.getfield 26), 3, 3, 3, 0, 247) ∧ cd 73 21 = some ((.bipush 60), 2, 0, 0, 0, 0) ∧ cd 73 23 = some ((.if_icmp .ne 7), 3, 30, 0, 0, 0) ∧ cd 73 26 = some ((.iconst 1), 1, 0, 0, 0, 0) ∧ cd 73 27 = some ((.goto 4), 3, 31, 0, 0, 0) ∧ cd 73 30 = some ((.iconst 0), 1, 0, 0, 0, 0) ∧ cd 73 31 = some (.ireturn, 1, 0, 0, 0, 0) ∧ True := conjL_of 73 c73 (by decide +kernel)
theorem Z73 : mZ 73 = 2 ∧ mL 73 = 1 ∧ mK 73 = 1 ∧ hT 73 = [] := ⟨rfl, rfl, rfl, rfl⟩
theorem D74 : cd 74 0 = some ((.iconst 0), 1, 0, 0, 0, 0) ∧ cd 74 1 = some ((.istore_n 1), 1, 0, 0, 0, 0) ∧ cd 74 2 = some ((.iconst 0), 1, 0, 0, 0, 0) ∧ cd 74 3 = some ((.istore_n 2), 1, 0, 0, 0, 0) ∧ cd 74 4 = some ((.iload_n 2), 1, 0, 0, 0, 0) ∧ cd 74 5 = some ((.aload_n 0), 1, 0, 0, 0, 0) ∧ cd 74 6 = some ((.getfield 74), 3, 2, 10, 0, 169) ∧ cd 74 9 = some ((.if_icmp .ge 28), 3, 37, 0, 0, 0) ∧ cd 74 12 = some ((.aload_n 0), 1, 0, 0, 0, 0) ∧ cd 74 13 = some ((.iload_n 2), 1, 0, 0, 0, 0) ∧ cd 74 14 = some ((.invokevirtual 90), 3, 75, 1, 1, 636) ∧ cd 74 17 = some ((.ifCond .eq 14), 3, 31, 0, 0, 0) ∧ cd 74 20 = some ((.iload_n 1), 1, 0, 0, 0, 0) ∧ cd 74 21 = some ((.iconst 1), 1, 0, 0, 0, 0) ∧ cd 74 22 = some ((.aload_n 0), 1, 0, 0, 0, 0) ∧ cd 74 23 = some ((.getfield 21), 3, 2, 2, 2, 154) ∧ cd 74 26 = some ((.iload_n 2), 1, 0, 0, 0, 0) ∧ cd 74 27 = some (.iaload, 1, 0, 0, 0, 0) ∧ cd 74 28 = some (.ishl, 1, 0, 0, 0, 0) ∧ cd 74 29 = some (.ior, 1, 0, 0, 0, 0) ∧ cd 74 30 = some ((.istore_n 1), 1, 0, 0, 0, 0) ∧ cd 74 31 = some ((.iinc 2 1), 3, 0, 0, 0, 0) ∧ cd 74 34 = some ((.goto (-30)), 3, 4, 0, 0, 0) ∧ cd 74 37 = some ((.aload_n 0), 1, 0, 0, 0, 0) ∧ cd 74 38 = some ((.iload_n 1), 1, 0, 0, 0, 0) ∧ cd 74 39 = some ((.iconst 1), 1, 0, 0, 0, 0) ∧ cd 74 40 = some ((.invokevirtual 94), 3, 78, 2, 1, 648) ∧ cd 74 43 = some ((.iload_n 1), 1, 0, 0, 0, 0) ∧ cd 74 44 = some (.ireturn, 1, 0, 0, 0, 0) ∧ True := conjL_of 74 c74 (by decide +kernel)
theorem Z74 : mZ 74 = 1 ∧ mL 74 = 3 ∧ mK 74 = 2 ∧ hT 74 = [] := ⟨rfl, rfl, rfl, rfl⟩
theorem D75_0 : cd 75 0 = some ((.aload_n 0), 1, 0, 0, 0, 0) ∧ cd 75 1 = some ((.getfield 74), 3, 2, 10, 0, 169) ∧ cd 75 4 = some ((.iconst 1), 1, 0, 0, 0, 0) ∧ cd 75 5 = some (.isub, 1, 0, 0, 0, 0) ∧ cd 75 6 = some ((.istore_n 2), 1, 0, 0, 0, 0) ∧ cd 75 7 = some ((.aload_n 0), 1, 0, 0, 0, 0) ∧ cd 75 8 = some ((.getfield 77), 3, 2, 11, 0, 171) ∧ cd 75 11 = some ((.tableswitch 129 0 3 #[29, 35, 68, 93]), 29, 0, 0, 0, 0) ∧ cd 75 40 = some ((.aload_n 0), 1, 0, 0, 0, 0) ∧ cd 75 41 = some ((.iload_n 1), 1, 0, 0, 0, 0) ∧ cd 75 42 = some ((.invokevirtual 108), 3, 76, 1, 1, 640) ∧ cd 75 45 = some (.ireturn, 1, 0, 0, 0, 0) ∧ cd 75 46 = some ((.iload_n 1), 1, 0, 0, 0, 0) ∧ cd 75 47 = some ((.ifCond .eq 26), 3, 73, 0, 0, 0) ∧ cd 75 50 = some ((.aload_n 0), 1, 0, 0, 0, 0) ∧ cd 75 51 = some ((.iload_n 1), 1, 0, 0, 0, 0) ∧ cd 75 52 = some ((.iconst 1), 1, 0, 0, 0, 0) ∧ cd 75 53 = some (.isub, 1, 0, 0, 0, 0) ∧ cd 75 54 = some ((.invokevirtual 111), 3, 77, 1, 1, 644) ∧ cd 75 57 = some ((.ifCond .ne 16), 3, 73, 0, 0, 0) ∧ cd 75 60 = some ((.iload_n 1), 1, 0, 0, 0, 0) ∧ cd 75 61 = some ((.iload_n 2), 1, 0, 0, 0, 0) ∧ cd 75 62 = some ((.if_icmp .eq 15), 3, 77, 0, 0, 0) ∧ cd 75 65 = some ((.aload_n 0), 1, 0, 0, 0, 0) ∧ cd 75 66 = some ((.iload_n 1), 1, 0, 0, 0, 0) ∧ cd 75 67 = some ((.invokevirtual 111), 3, 77, 1, 1, 644) ∧ cd 75 70 = some ((.ifCond .eq 7), 3, 77, 0, 0, 0) ∧ cd 75 73 = some ((.iconst 1), 1, 0, 0, 0, 0) ∧ cd 75 74 = some ((.goto 4), 3, 78, 0, 0, 0) ∧ cd 75 77 = some ((.iconst 0), 1, 0, 0, 0, 0) ∧ cd 75 78 = some (.ireturn, 1, 0, 0, 0, 0) ∧ cd 75 79 = some ((.aload_n 0), 1, 0, 0, 0, 0) ∧ cd 75 80 = some ((.iload_n 1), 1, 0, 0, 0, 0) ∧ cd 75 81 = some ((.iload_n 2), 1, 0, 0, 0, 0) ∧ cd 75 82 = some ((.if_icmp .ne 7), 3, 89, 0, 0, 0) ∧ cd 75 85 = some ((.iconst 0), 1, 0, 0, 0, 0) ∧ cd 75 86 = some ((.goto 6), 3, 92, 0, 0, 0) ∧ cd 75 89 = some ((.iload_n 1), 1, 0, 0, 0, 0) ∧ cd 75 90 = some ((.iconst 1), 1, 0, 0, 0, 0) ∧ cd 75 91 = some (.iadd, 1, 0, 0, 0, 0) ∧ True := conjL_of 75 c75_0 (by decide +kernel)
theorem D75_1 : cd 75 92 = some ((.invokevirtual 111), 3, 77, 1, 1, 644) ∧ cd 75 95 = some ((.ifCond .ne 7), 3, 102, 0, 0, 0) ∧ cd 75 98 = some ((.iconst 1), 1, 0, 0, 0, 0) ∧ cd 75 99 = some ((.goto 4), 3, 103, 0, 0, 0) ∧ cd 75 102 = some ((.iconst 0), 1, 0, 0, 0, 0) ∧ cd 75 103 = some (.ireturn, 1, 0, 0, 0, 0) ∧ cd 75 104 = some ((.aload_n 0), 1, 0, 0, 0, 0) ∧ cd 75 105 = some ((.getfield 26), 3, 2, 3, 2, 155) ∧ cd 75 108 = some ((.aload_n 0), 1, 0, 0, 0, 0) ∧ cd 75 109 = some ((.getfield 21), 3, 2, 2, 2, 154) ∧ cd 75 112 = some ((.iload_n 1), 1, 0, 0, 0, 0) ∧ cd 75 113 = some (.iaload, 1, 0, 0, 0, 0) ∧ cd 75 114 = some (.aaload, 1, 0, 0, 0, 0) ∧ cd 75 115 = some ((.getfield 87), 3, 5, 1, 0, 144) ∧ cd 75 118 = some ((.ifCond .eq 16), 3, 134, 0, 0, 0) ∧ cd 75 121 = some ((.aload_n 0), 1, 0, 0, 0, 0) ∧ cd 75 122 = some ((.aload_n 0), 1, 0, 0, 0, 0) ∧ cd 75 123 = some ((.getfield 21), 3, 2, 2, 2, 154) ∧ cd 75 126 = some ((.iload_n 1), 1, 0, 0, 0, 0) ∧ cd 75 127 = some (.iaload, 1, 0, 0, 0, 0) ∧ cd 75 128 = some ((.invokevirtual 114), 3, 24, 1, 1, 341) ∧ cd 75 131 = some ((.ifCond .eq 7), 3, 138, 0, 0, 0) ∧ cd 75 134 = some ((.iconst 1), 1, 0, 0, 0, 0) ∧ cd 75 135 = some ((.goto 4), 3, 139, 0, 0, 0) ∧ cd 75 138 = some ((.iconst 0), 1, 0, 0, 0, 0) ∧ cd 75 139 = some (.ireturn, 1, 0, 0, 0, 0) ∧ cd 75 140 = some ((.iload_n 1), 1, 0, 0, 0, 0) ∧ cd 75 141 = some ((.iload_n 2), 1, 0, 0, 0, 0) ∧ cd 75 142 = some ((.if_icmp .eq 11), 3, 153, 0, 0, 0) ∧ cd 75 145 = some ((.aload_n 0), 1, 0, 0, 0, 0) ∧ cd 75 146 = some ((.iload_n 2), 1, 0, 0, 0, 0) ∧ cd 75 147 = some ((.invokevirtual 111), 3, 77, 1, 1, 644) ∧ cd 75 150 = some ((.ifCond .ne 7), 3, 157, 0, 0, 0) ∧ cd 75 153 = some ((.iconst 1), 1, 0, 0, 0, 0) ∧ cd 75 154 = some ((.goto 4), 3, 158, 0, 0, 0) ∧ cd 75 157 = some ((.iconst 0), 1, 0, 0, 0, 0) ∧ cd 75 158 = some (.ireturn, 1, 0, 0, 0, 0) ∧ True := conjL_of 75 c75_1 (by decide +kernel)
theorem Z75 : mZ 75 = 2 ∧ mL 75 = 3 ∧ mK 75 = 2 ∧ hT 75 = [] := ⟨rfl, rfl, rfl, rfl⟩
theorem D76 : cd 76 0 = some ((.iconst 0), 1, 0, 0, 0, 0) ∧ cd 76 1 = some ((.istore_n 2), 1, 0, 0, 0, 0) ∧ cd 76 2 = some ((.iload_n 2), 1, 0, 0, 0, 0) ∧ cd 76 3 = some ((.iload_n 1), 1, 0, 0, 0, 0) ∧ cd 76 4 = some ((.if_icmp .ge 19), 3, 23, 0, 0, 0) ∧ cd 76 7 = some ((.aload_n 0), 1, 0, 0, 0, 0) ∧ cd 76 8 = some ((.iload_n 2), 1, 0, 0, 0, 0) ∧ cd 76 9 = some ((.invokevirtual 111), 3, 77, 1, 1, 644) ∧ cd 76 12 = some ((.ifCond .ne 5), 3, 17, 0, 0, 0) ∧ cd 76 15 = some ((.iconst 0), 1, 0, 0, 0, 0) ∧ cd 76 16 = some (.ireturn, 1, 0, 0, 0, 0) ∧ cd 76 17 = some ((.iinc 2 1), 3, 0, 0, 0, 0) ∧ cd 76 20 = some ((.goto (-18)), 3, 2, 0, 0, 0) ∧ cd 76 23 = some ((.iconst 1), 1, 0, 0, 0, 0) ∧ cd 76 24 = some (.ireturn, 1, 0, 0, 0, 0) ∧ True := conjL_of 76 c76 (by decide +kernel)
theorem Z76 : mZ 76 = 2 ∧ mL 76 = 3 ∧ mK 76 = 2 ∧ hT 76 = [] := ⟨rfl, rfl, rfl, rfl⟩
theorem D77 : cd 77 0 = some ((.aload_n 0), 1, 0, 0, 0, 0) ∧ cd 77 1 = some ((.getfield 21), 3, 2, 2, 2, 154) ∧ cd 77 4 = some ((.iload_n 1), 1, 0, 0, 0, 0) ∧ cd 77 5 = some (.iaload, 1, 0, 0, 0, 0) ∧ cd 77 6 = some ((.istore_n 2), 1, 0, 0, 0, 0) ∧ cd 77 7 = some ((.aload_n 0), 1, 0, 0, 0, 0) ∧ cd 77 8 = some ((.getfield 11), 3, 2, 0, 2, 151) ∧ cd 77 11 = some ((.aload_n 0), 1, 0, 0, 0, 0) ∧ cd 77 12 = some ((.getfield 17), 3, 2, 1, 2, 153) ∧ cd 77 15 = some ((.iload_n 2), 1, 0, 0, 0, 0) ∧ cd 77 16 = some (.iaload, 1, 0, 0, 0, 0) ∧ cd 77 17 = some (.aaload, 1, 0, 0, 0, 0) ∧ cd 77 18 = some ((.getfield 117), 3, 8, 2, 2, 122) ∧ cd 77 21 = some ((.aload_n 0), 1, 0, 0, 0, 0) ∧ cd 77 22 = some ((.getfield 49), 3, 2, 8, 2, 165) ∧ cd 77 25 = some ((.getfield 98), 3, 6, 0, 2, 101) ∧ cd 77 28 = some ((.iload_n 2), 1, 0, 0, 0, 0) ∧ cd 77 29 = some (.iaload, 1, 0, 0, 0, 0) ∧ cd 77 30 = some (.baload, 1, 0, 0, 0, 0) ∧ cd 77 31 = some (.ireturn, 1, 0, 0, 0, 0) ∧ True := conjL_of 77 c77 (by decide +kernel)
theorem Z77 : mZ 77 = 2 ∧ mL 77 = 3 ∧ mK 77 = 2 ∧ hT 77 = [] := ⟨rfl, rfl, rfl, rfl⟩
theorem D78_0 : cd 78 0 = some ((.iconst 0), 1, 0, 0, 0, 0) ∧ cd 78 1 = some ((.istore_n 3), 1, 0, 0, 0, 0) ∧ cd 78 2 = some ((.iload_n 3), 1, 0, 0, 0, 0) ∧ cd 78 3 = some ((.bipush 6), 2, 0, 0, 0, 0) ∧ cd 78 5 = some ((.if_icmp .ge 45), 3, 50, 0, 0, 0) ∧ cd 78 8 = some ((.iload_n 1), 1, 0, 0, 0, 0) ∧ cd 78 9 = some ((.iload_n 3), 1, 0, 0, 0, 0) ∧ cd 78 10 = some (.ishr, 1, 0, 0, 0, 0) ∧ cd 78 11 = some ((.iconst 1), 1, 0, 0, 0, 0) ∧ cd 78 12 = some (.iand, 1, 0, 0, 0, 0) ∧ cd 78 13 = some ((.iconst 1), 1, 0, 0, 0, 0) ∧ cd 78 14 = some ((.if_icmp .ne 30), 3, 44, 0, 0, 0) ∧ cd 78 17 = some ((.aload_n 0), 1, 0, 0, 0, 0) ∧ cd 78 18 = some ((.getfield 49), 3, 2, 8, 2, 165) ∧ cd 78 21 = some ((.getfield 98), 3, 6, 0, 2, 101) ∧ cd 78 24 = some ((.iload_n 3), 1, 0, 0, 0, 0) ∧ cd 78 25 = some ((.aload_n 0), 1, 0, 0, 0, 0) ∧ cd 78 26 = some ((.getfield 49), 3, 2, 8, 2, 165) ∧ cd 78 29 = some ((.getfield 98), 3, 6, 0, 2, 101) ∧ cd 78 32 = some ((.iload_n 3), 1, 0, 0, 0, 0) ∧ cd 78 33 = some (.iaload, 1, 0, 0, 0, 0) ∧ cd 78 34 = some ((.iload_n 2), 1, 0, 0, 0, 0) ∧ cd 78 35 = some (.iadd, 1, 0, 0, 0, 0) ∧ cd 78 36 = some ((.aload_n 0), 1, 0, 0, 0, 0) ∧ cd 78 37 = some ((.getfield 70), 3, 2, 9, 0, 168) ∧ cd 78 40 = some ((.invokestatic 101), 3, 21, 2, 4, 353) ∧ cd 78 43 = some (.iastore, 1, 0, 0, 0, 0) ∧ cd 78 44 = some ((.iinc 3 1), 3, 0, 0, 0, 0) ∧ cd 78 47 = some ((.goto (-45)), 3, 2, 0, 0, 0) ∧ cd 78 50 = some ((.iconst 0), 1, 0, 0, 0, 0) ∧ cd 78 51 = some ((.istore_n 3), 1, 0, 0, 0, 0) ∧ cd 78 52 = some ((.iload_n 3), 1, 0, 0, 0, 0) ∧ cd 78 53 = some ((.bipush 12), 2, 0, 0, 0, 0) ∧ cd 78 55 = some ((.if_icmp .ge 53), 3, 108, 0, 0, 0) ∧ cd 78 58 = some ((.aload_n 0), 1, 0, 0, 0, 0) ∧ cd 78 59 = some ((.getfield 26), 3, 2, 3, 2, 155) ∧ cd 78 62 = some ((.iload_n 3), 1, 0, 0, 0, 0) ∧ cd 78 63 = some (.aaload, 1, 0, 0, 0, 0) ∧ cd 78 64 = some ((.getfield 87), 3, 5, 1, 0, 144) ∧ cd 78 67 = some ((.ifCond .le 35), 3, 102, 0, 0, 0) ∧ True := conjL_of 78 c78_0 (by decide +kernel)
theorem D78_1 : cd 78 70 = some ((.aload_n 0), 1, 0, 0, 0, 0) ∧ cd 78 71 = some ((.getfield 49), 3, 2, 8, 2, 165) ∧ cd 78 74 = some ((.getfield 105), 3, 6, 1, 2, 104) ∧ cd 78 77 = some ((.iload_n 3), 1, 0, 0, 0, 0) ∧ cd 78 78 = some ((.aload_n 0), 1, 0, 0, 0, 0) ∧ cd 78 79 = some ((.getfield 49), 3, 2, 8, 2, 165) ∧ cd 78 82 = some ((.getfield 105), 3, 6, 1, 2, 104) ∧ cd 78 85 = some ((.iload_n 3), 1, 0, 0, 0, 0) ∧ cd 78 86 = some (.iaload, 1, 0, 0, 0, 0) ∧ cd 78 87 = some ((.iload_n 2), 1, 0, 0, 0, 0) ∧ cd 78 88 = some (.iadd, 1, 0, 0, 0, 0) ∧ cd 78 89 = some ((.aload_n 0), 1, 0, 0, 0, 0) ∧ cd 78 90 = some ((.getfield 26), 3, 2, 3, 2, 155) ∧ cd 78 93 = some ((.iload_n 3), 1, 0, 0, 0, 0) ∧ cd 78 94 = some (.aaload, 1, 0, 0, 0, 0) ∧ cd 78 95 = some ((.getfield 87), 3, 5, 1, 0, 144) ∧ cd 78 98 = some ((.invokestatic 101), 3, 21, 2, 4, 353) ∧ cd 78 101 = some (.iastore, 1, 0, 0, 0, 0) ∧ cd 78 102 = some ((.iinc 3 1), 3, 0, 0, 0, 0) ∧ cd 78 105 = some ((.goto (-53)), 3, 52, 0, 0, 0) ∧ cd 78 108 = some (.return_, 1, 0, 0, 0, 0) ∧ True := conjL_of 78 c78_1 (by decide +kernel)
theorem Z78 : mZ 78 = 0 ∧ mL 78 = 4 ∧ mK 78 = 2 ∧ hT 78 = [] := ⟨rfl, rfl, rfl, rfl⟩
theorem D79 : cd 79 0 = some ((.aload_n 0), 1, 0, 0, 0, 0) ∧ cd 79 1 = some ((.getfield 9), 3, 7, 0, 2, 212) ∧ cd 79 4 = some ((.aload_n 0), 1, 0, 0, 0, 0) ∧ cd 79 5 = some ((.getfield 19), 3, 7, 1, 0, 213) ∧ cd 79 8 = some ((.iload_n 1), 1, 0, 0, 0, 0) ∧ cd 79 9 = some (.iastore, 1, 0, 0, 0, 0) ∧ cd 79 10 = some ((.aload_n 0), 1, 0, 0, 0, 0) ∧ cd 79 11 = some ((.aload_n 0), 1, 0, 0, 0, 0) ∧ cd 79 12 = some ((.getfield 19), 3, 7, 1, 0, 213) ∧ cd 79 15 = some ((.iconst 1), 1, 0, 0, 0, 0) ∧ cd 79 16 = some (.iadd, 1, 0, 0, 0, 0) ∧ cd 79 17 = some ((.bipush 40), 2, 0, 0, 0, 0) ∧ cd 79 19 = some ((.invokestatic 22), 3, 21, 2, 4, 656) ∧ cd 79 22 = some ((.putfield 19), 3, 7, 1, 0, 213) ∧ cd 79 25 = some ((.aload_n 0), 1, 0, 0, 0, 0) ∧ cd 79 26 = some ((.aload_n 0), 1, 0, 0, 0, 0) ∧ cd 79 27 = some ((.getfield 15), 3, 7, 2, 0, 214) ∧ cd 79 30 = some ((.iconst 1), 1, 0, 0, 0, 0) ∧ cd 79 31 = some (.iadd, 1, 0, 0, 0, 0) ∧ cd 79 32 = some ((.bipush 40), 2, 0, 0, 0, 0) ∧ cd 79 34 = some ((.invokestatic 26), 3, 9002, 2, 0, 657) ∧ cd 79 37 = some ((.putfield 15), 3, 7, 2, 0, 214) ∧ cd 79 40 = some (.return_, 1, 0, 0, 0, 0) ∧ True := conjL_of 79 c79 (by decide +kernel)
theorem Z79 : mZ 79 = 0 ∧ mL 79 = 2 ∧ mK 79 = 7 ∧ hT 79 = [] := ⟨rfl, rfl, rfl, rfl⟩
theorem D80 : cd 80 0 = some ((.aload_n 0), 1, 0, 0, 0, 0) ∧ cd 80 1 = some ((.getfield 22), 3, 1, 2, 1, 262) ∧ cd 80 4 = some ((.ifCond .eq 45), 3, 49, 0, 0, 0) ∧ cd 80 7 = some ((.aload_n 0), 1, 0, 0, 0, 0) ∧ cd 80 8 = some ((.getfield 11), 3, 1, 0, 2, 258) ∧ cd 80 11 = some ((.aload_n 0), 1, 0, 0, 0, 0) ∧ cd 80 12 = some ((.getfield 18), 3, 1, 1, 0, 260) ∧ cd 80 15 = some ((.iconst 1), 1, 0, 0, 0, 0) ∧ cd 80 16 = some (.isub, 1, 0, 0, 0, 0) ∧ cd 80 17 = some (.aaload, 1, 0, 0, 0, 0) ∧ cd 80 18 = some ((.astore_n 3), 1, 0, 0, 0, 0) ∧ cd 80 19 = some ((.aload_n 3), 1, 0, 0, 0, 0) ∧ cd 80 20 = some ((.getfield 37), 3, 3, 1, 2, 242) ∧ cd 80 23 = some ((.aload_n 3), 1, 0, 0, 0, 0) ∧ cd 80 24 = some ((.getfield 26), 3, 3, 3, 0, 247) ∧ cd 80 27 = some ((.iload_n 1), 1, 0, 0, 0, 0) ∧ cd 80 28 = some (.iastore, 1, 0, 0, 0, 0) ∧ cd 80 29 = some ((.aload_n 3), 1, 0, 0, 0, 0) ∧ cd 80 30 = some ((.getfield 41), 3, 3, 2, 2, 245) ∧ cd 80 33 = some ((.aload_n 3), 1, 0, 0, 0, 0) ∧ cd 80 34 = some ((.getfield 26), 3, 3, 3, 0, 247) ∧ cd 80 37 = some ((.iload_n 2), 1, 0, 0, 0, 0) ∧ cd 80 38 = some (.iastore, 1, 0, 0, 0, 0) ∧ cd 80 39 = some ((.aload_n 3), 1, 0, 0, 0, 0) ∧ cd 80 40 = some (.dup, 1, 0, 0, 0, 0) ∧ cd 80 41 = some ((.getfield 26), 3, 3, 3, 0, 247) ∧ cd 80 44 = some ((.iconst 1), 1, 0, 0, 0, 0) ∧ cd 80 45 = some (.iadd, 1, 0, 0, 0, 0) ∧ cd 80 46 = some ((.putfield 26), 3, 3, 3, 0, 247) ∧ cd 80 49 = some (.return_, 1, 0, 0, 0, 0) ∧ True := conjL_of 80 c80 (by decide +kernel)
theorem Z80 : mZ 80 = 0 ∧ mL 80 = 4 ∧ mK 80 = 1 ∧ hT 80 = [] := ⟨rfl, rfl, rfl, rfl⟩
theorem D81 : cd 81 0 = some ((.aload_n 2), 1, 0, 0, 0, 0) ∧ cd 81 1 = some ((.iconst 0), 1, 0, 0, 0, 0) ∧ cd 81 2 = some ((.aload_n 0), 1, 0, 0, 0, 0) ∧ cd 81 3 = some ((.iload_n 1), 1, 0, 0, 0, 0) ∧ cd 81 4 = some ((.invokevirtual 66), 3, 82, 1, 1, 667) ∧ cd 81 7 = some (.i2l, 1, 0, 0, 0, 0) ∧ cd 81 8 = some (.lastore, 1, 0, 0, 0, 0) ∧ cd 81 9 = some ((.goto 9), 3, 18, 0, 0, 0) ∧ cd 81 12 = some ((.astore_n 3), 1, 0, 0, 0, 0) ∧ cd 81 13 = some ((.iconst 1), 1, 0, 0, 0, 0) ∧ cd 81 14 = some (.ireturn, 1, 0, 0, 0, 0) ∧ cd 81 15 = some ((.astore_n 3), 1, 0, 0, 0, 0) ∧ cd 81 16 = some ((.iconst 2), 1, 0, 0, 0, 0) ∧ cd 81 17 = some (.ireturn, 1, 0, 0, 0, 0) ∧ cd 81 18 = some ((.iconst 0), 1, 0, 0, 0, 0) ∧ cd 81 19 = some (.ireturn, 1, 0, 0, 0, 0) ∧ True := conjL_of 81 c81 (by decide +kernel)
theorem Z81 : mZ 81 = 1 ∧ mL 81 = 4 ∧ mK 81 = 99 ∧ hT 81 = [(0, 9, 12, 2), (0, 9, 15, 1)] := ⟨rfl, rfl, rfl, rfl⟩
theorem D82 : cd 82 0 = some ((.iload_n 1), 1, 0, 0, 0, 0) ∧ cd 82 1 = some ((.aload_n 0), 1, 0, 0, 0, 0) ∧ cd 82 2 = some ((.getfield 10), 3, 0, 0, 2, 297) ∧ cd 82 5 = some ((.getfield 51), 3, 2, 9, 0, 167) ∧ cd 82 8 = some ((.invokestatic 58), 3, 34, 2, 0, 467) ∧ cd 82 11 = some ((.aload_n 0), 1, 0, 0, 0, 0) ∧ cd 82 12 = some ((.invokevirtual 48), 3, 29, 0, 1, 431) ∧ cd 82 15 = some ((.aload_n 0), 1, 0, 0, 0, 0) ∧ cd 82 16 = some ((.getfield 19), 3, 0, 1, 2, 298) ∧ cd 82 19 = some ((.aload_n 0), 1, 0, 0, 0, 0) ∧ cd 82 20 = some ((.getfield 10), 3, 0, 0, 2, 297) ∧ cd 82 23 = some ((.invokevirtual 172), 3, 74, 0, 1, 632) ∧ cd 82 26 = some ((.invokevirtual 176), 3, 79, 1, 1, 652) ∧ cd 82 29 = some ((.aload_n 0), 1, 0, 0, 0, 0) ∧ cd 82 30 = some ((.getfield 10), 3, 0, 0, 2, 297) ∧ cd 82 33 = some ((.iload_n 1), 1, 0, 0, 0, 0) ∧ cd 82 34 = some ((.invokevirtual 184), 3, 83, 1, 1, 671) ∧ cd 82 37 = some (.ireturn, 1, 0, 0, 0, 0) ∧ True := conjL_of 82 c82 (by decide +kernel)
theorem Z82 : mZ 82 = 1 ∧ mL 82 = 2 ∧ mK 82 = 0 ∧ hT 82 = [] := ⟨rfl, rfl, rfl, rfl⟩
theorem D83 : cd 83 0 = some ((.aload_n 0), 1, 0, 0, 0, 0) ∧ cd 83 1 = some ((.getfield 39), 3, 2, 6, 2, 161) ∧ cd 83 4 = some ((.getfield 128), 3, 4, 0, 2, 85) ∧ cd 83 7 = some ((.iload_n 1), 1, 0, 0, 0, 0) ∧ cd 83 8 = some (.iaload, 1, 0, 0, 0, 0) ∧ cd 83 9 = some ((.istore_n 2), 1, 0, 0, 0, 0) ∧ cd 83 10 = some ((.aload_n 0), 1, 0, 0, 0, 0) ∧ cd 83 11 = some ((.getfield 80), 3, 2, 12, 0, 173) ∧ cd 83 14 = some ((.ifCond .ne 14), 3, 28, 0, 0, 0) ∧ cd 83 17 = some ((.aload_n 0), 1, 0, 0, 0, 0) ∧ cd 83 18 = some ((.getfield 83), 3, 2, 13, 1, 175) ∧ cd 83 21 = some ((.ifCond .ne 7), 3, 28, 0, 0, 0) ∧ cd 83 24 = some ((.iconst 1), 1, 0, 0, 0, 0) ∧ cd 83 25 = some ((.goto 4), 3, 29, 0, 0, 0) ∧ cd 83 28 = some ((.iconst 0), 1, 0, 0, 0, 0) ∧ cd 83 29 = some ((.istore_n 3), 1, 0, 0, 0, 0) ∧ cd 83 30 = some ((.aload_n 0), 1, 0, 0, 0, 0) ∧ cd 83 31 = some ((.getfield 39), 3, 2, 6, 2, 161) ∧ cd 83 34 = some ((.getfield 128), 3, 4, 0, 2, 85) ∧ cd 83 37 = some ((.iload_n 3), 1, 0, 0, 0, 0) ∧ cd 83 38 = some ((.ifCond .eq 11), 3, 49, 0, 0, 0) ∧ cd 83 41 = some ((.aload_n 0), 1, 0, 0, 0, 0) ∧ cd 83 42 = some ((.iload_n 2), 1, 0, 0, 0, 0) ∧ cd 83 43 = some ((.invokevirtual 135), 3, 22, 1, 1, 333) ∧ cd 83 46 = some ((.goto 8), 3, 54, 0, 0, 0) ∧ cd 83 49 = some ((.aload_n 0), 1, 0, 0, 0, 0) ∧ cd 83 50 = some ((.iload_n 2), 1, 0, 0, 0, 0) ∧ cd 83 51 = some ((.invokevirtual 131), 3, 18, 1, 1, 318) ∧ cd 83 54 = some (.iaload, 1, 0, 0, 0, 0) ∧ cd 83 55 = some (.ireturn, 1, 0, 0, 0, 0) ∧ True := conjL_of 83 c83 (by decide +kernel)
theorem Z83 : mZ 83 = 1 ∧ mL 83 = 4 ∧ mK 83 = 2 ∧ hT 83 = [] := ⟨rfl, rfl, rfl, rfl⟩
theorem D84 : cd 84 0 = some ((.aload_n 2), 1, 0, 0, 0, 0) ∧ cd 84 1 = some ((.iconst 0), 1, 0, 0, 0, 0) ∧ cd 84 2 = some ((.aload_n 0), 1, 0, 0, 0, 0) ∧ cd 84 3 = some ((.iload_n 1), 1, 0, 0, 0, 0) ∧ cd 84 4 = some ((.invokevirtual 69), 3, 85, 1, 1, 678) ∧ cd 84 7 = some (.i2l, 1, 0, 0, 0, 0) ∧ cd 84 8 = some (.lastore, 1, 0, 0, 0, 0) ∧ cd 84 9 = some ((.goto 6), 3, 15, 0, 0, 0) ∧ cd 84 12 = some ((.astore_n 3), 1, 0, 0, 0, 0) ∧ cd 84 13 = some ((.iconst 1), 1, 0, 0, 0, 0) ∧ cd 84 14 = some (.ireturn, 1, 0, 0, 0, 0) ∧ cd 84 15 = some ((.iconst 0), 1, 0, 0, 0, 0) ∧ cd 84 16 = some (.ireturn, 1, 0, 0, 0, 0) ∧ True := conjL_of 84 c84 (by decide +kernel)
theorem Z84 : mZ 84 = 1 ∧ mL 84 = 4 ∧ mK 84 = 99 ∧ hT 84 = [(0, 9, 12, 2)] := ⟨rfl, rfl, rfl, rfl⟩
theorem D85 : cd 85 0 = some ((.iload_n 1), 1, 0, 0, 0, 0) ∧ cd 85 1 = some ((.aload_n 0), 1, 0, 0, 0, 0) ∧ cd 85 2 = some ((.getfield 10), 3, 0, 0, 2, 297) ∧ cd 85 5 = some ((.getfield 51), 3, 2, 9, 0, 167) ∧ cd 85 8 = some ((.invokestatic 58), 3, 34, 2, 0, 467) ∧ cd 85 11 = some ((.aload_n 0), 1, 0, 0, 0, 0) ∧ cd 85 12 = some ((.getfield 10), 3, 0, 0, 2, 297) ∧ cd 85 15 = some ((.iload_n 1), 1, 0, 0, 0, 0) ∧ cd 85 16 = some ((.invokevirtual 179), 3, 17, 1, 1, 314) ∧ cd 85 19 = some (.ireturn, 1, 0, 0, 0, 0) ∧ True := conjL_of 85 c85 (by decide +kernel)
theorem Z85 : mZ 85 = 1 ∧ mL 85 = 2 ∧ mK 85 = 0 ∧ hT 85 = [] := ⟨rfl, rfl, rfl, rfl⟩
theorem D86 : cd 86 0 = some ((.aload_n 3), 1, 0, 0, 0, 0) ∧ cd 86 1 = some ((.iconst 0), 1, 0, 0, 0, 0) ∧ cd 86 2 = some ((.aload_n 0), 1, 0, 0, 0, 0) ∧ cd 86 3 = some ((.iload_n 1), 1, 0, 0, 0, 0) ∧ cd 86 4 = some ((.iload_n 2), 1, 0, 0, 0, 0) ∧ cd 86 5 = some ((.invokevirtual 72), 3, 87, 2, 1, 685) ∧ cd 86 8 = some (.i2l, 1, 0, 0, 0, 0) ∧ cd 86 9 = some (.lastore, 1, 0, 0, 0, 0) ∧ cd 86 10 = some ((.goto 7), 3, 17, 0, 0, 0) ∧ cd 86 13 = some ((.astore 4), 2, 0, 0, 0, 0) ∧ cd 86 15 = some ((.iconst 1), 1, 0, 0, 0, 0) ∧ cd 86 16 = some (.ireturn, 1, 0, 0, 0, 0) ∧ cd 86 17 = some ((.iconst 0), 1, 0, 0, 0, 0) ∧ cd 86 18 = some (.ireturn, 1, 0, 0, 0, 0) ∧ True := conjL_of 86 c86 (by decide +kernel)
theorem Z86 : mZ 86 = 1 ∧ mL 86 = 5 ∧ mK 86 = 99 ∧ hT 86 = [(0, 10, 13, 2)] := ⟨rfl, rfl, rfl, rfl⟩
theorem D87 : cd 87 0 = some ((.iload_n 1), 1, 0, 0, 0, 0) ∧ cd 87 1 = some ((.iload_n 2), 1, 0, 0, 0, 0) ∧ cd 87 2 = some ((.invokestatic 159), 3, 69, 2, 0, 613) ∧ cd 87 5 = some ((.aload_n 0), 1, 0, 0, 0, 0) ∧ cd 87 6 = some ((.iload_n 1), 1, 0, 0, 0, 0) ∧ cd 87 7 = some ((.invokevirtual 162), 3, 70, 1, 1, 616) ∧ cd 87 10 = some ((.iload_n 2), 1, 0, 0, 0, 0) ∧ cd 87 11 = some (.iaload, 1, 0, 0, 0, 0) ∧ cd 87 12 = some (.ireturn, 1, 0, 0, 0, 0) ∧ True := conjL_of 87 c87 (by decide +kernel)
theorem Z87 : mZ 87 = 1 ∧ mL 87 = 3 ∧ mK 87 = 0 ∧ hT 87 = [] := ⟨rfl, rfl, rfl, rfl⟩
theorem D88 : cd 88 0 = some ((.aload_n 1), 1, 0, 0, 0, 0) ∧ cd 88 1 = some ((.iconst 0), 1, 0, 0, 0, 0) ∧ cd 88 2 = some ((.aload_n 0), 1, 0, 0, 0, 0) ∧ cd 88 3 = some ((.invokevirtual 75), 3, 89, 0, 1, 692) ∧ cd 88 6 = some (.i2l, 1, 0, 0, 0, 0) ∧ cd 88 7 = some (.lastore, 1, 0, 0, 0, 0) ∧ cd 88 8 = some ((.goto 6), 3, 14, 0, 0, 0) ∧ cd 88 11 = some ((.astore_n 2), 1, 0, 0, 0, 0) ∧ cd 88 12 = some ((.iconst 1), 1, 0, 0, 0, 0) ∧ cd 88 13 = some (.ireturn, 1, 0, 0, 0, 0) ∧ cd 88 14 = some ((.iconst 0), 1, 0, 0, 0, 0) ∧ cd 88 15 = some (.ireturn, 1, 0, 0, 0, 0) ∧ True := conjL_of 88 c88 (by decide +kernel)
theorem Z88 : mZ 88 = 1 ∧ mL 88 = 3 ∧ mK 88 = 99 ∧ hT 88 = [(0, 8, 11, 1)] := ⟨rfl, rfl, rfl, rfl⟩
theorem D89 : cd 89 0 = some ((.aload_n 0), 1, 0, 0, 0, 0) ∧ cd 89 1 = some ((.invokevirtual 48), 3, 29, 0, 1, 431) ∧ cd 89 4 = some ((.aload_n 0), 1, 0, 0, 0, 0) ∧ cd 89 5 = some ((.getfield 19), 3, 0, 1, 2, 298) ∧ cd 89 8 = some ((.getfield 187), 3, 7, 2, 0, 215) ∧ cd 89 11 = some ((.ifCond .ne 13), 3, 24, 0, 0, 0) ∧ cd 89 14 = some ((.new 90), 3, 901, 696, 445, 435) ∧ cd 89 17 = some (.dup, 1, 0, 0, 0, 0) ∧ cd 89 18 = some ((.ldc 190), 2, 0, 0, 0, 0) ∧ cd 89 20 = some ((.invokespecial 94), 3, 9009, 1, 2, 445) ∧ cd 89 23 = some (.athrow, 1, 0, 0, 0, 0) ∧ cd 89 24 = some ((.aload_n 0), 1, 0, 0, 0, 0) ∧ cd 89 25 = some ((.getfield 10), 3, 0, 0, 2, 297) ∧ cd 89 28 = some ((.aload_n 0), 1, 0, 0, 0, 0) ∧ cd 89 29 = some ((.getfield 19), 3, 0, 1, 2, 298) ∧ cd 89 32 = some ((.invokevirtual 192), 3, 90, 0, 1, 697) ∧ cd 89 35 = some ((.invokevirtual 195), 3, 91, 1, 1, 701) ∧ cd 89 38 = some ((.aload_n 0), 1, 0, 0, 0, 0) ∧ cd 89 39 = some ((.getfield 19), 3, 0, 1, 2, 298) ∧ cd 89 42 = some ((.getfield 187), 3, 7, 2, 0, 215) ∧ cd 89 45 = some (.ireturn, 1, 0, 0, 0, 0) ∧ True := conjL_of 89 c89 (by decide +kernel)
theorem Z89 : mZ 89 = 1 ∧ mL 89 = 1 ∧ mK 89 = 0 ∧ hT 89 = [] := ⟨rfl, rfl, rfl, rfl⟩
theorem D90 : cd 90 0 = some ((.aload_n 0), 1, 0, 0, 0, 0) ∧ cd 90 1 = some ((.aload_n 0), 1, 0, 0, 0, 0) ∧ cd 90 2 = some ((.getfield 19), 3, 7, 1, 0, 213) ∧ cd 90 5 = some ((.iconst 1), 1, 0, 0, 0, 0) ∧ cd 90 6 = some (.isub, 1, 0, 0, 0, 0) ∧ cd 90 7 = some ((.bipush 40), 2, 0, 0, 0, 0) ∧ cd 90 9 = some ((.invokestatic 22), 3, 21, 2, 4, 656) ∧ cd 90 12 = some ((.putfield 19), 3, 7, 1, 0, 213) ∧ cd 90 15 = some ((.aload_n 0), 1, 0, 0, 0, 0) ∧ cd 90 16 = some (.dup, 1, 0, 0, 0, 0) ∧ cd 90 17 = some ((.getfield 15), 3, 7, 2, 0, 214) ∧ cd 90 20 = some ((.iconst 1), 1, 0, 0, 0, 0) ∧ cd 90 21 = some (.isub, 1, 0, 0, 0, 0) ∧ cd 90 22 = some ((.putfield 15), 3, 7, 2, 0, 214) ∧ cd 90 25 = some ((.aload_n 0), 1, 0, 0, 0, 0) ∧ cd 90 26 = some ((.getfield 9), 3, 7, 0, 2, 212) ∧ cd 90 29 = some ((.aload_n 0), 1, 0, 0, 0, 0) ∧ cd 90 30 = some ((.getfield 19), 3, 7, 1, 0, 213) ∧ cd 90 33 = some (.iaload, 1, 0, 0, 0, 0) ∧ cd 90 34 = some (.ireturn, 1, 0, 0, 0, 0) ∧ True := conjL_of 90 c90 (by decide +kernel)
theorem Z90 : mZ 90 = 1 ∧ mL 90 = 1 ∧ mK 90 = 7 ∧ hT 90 = [] := ⟨rfl, rfl, rfl, rfl⟩
theorem D91 : cd 91 0 = some ((.aload_n 0), 1, 0, 0, 0, 0) ∧ cd 91 1 = some ((.iload_n 1), 1, 0, 0, 0, 0) ∧ cd 91 2 = some ((.iconst (-1)), 1, 0, 0, 0, 0) ∧ cd 91 3 = some ((.invokevirtual 94), 3, 78, 2, 1, 648) ∧ cd 91 6 = some (.return_, 1, 0, 0, 0, 0) ∧ True := conjL_of 91 c91 (by decide +kernel)
theorem Z91 : mZ 91 = 0 ∧ mL 91 = 2 ∧ mK 91 = 2 ∧ hT 91 = [] := ⟨rfl, rfl, rfl, rfl⟩
theorem D92 : cd 92 0 = some ((.aload_n 2), 1, 0, 0, 0, 0) ∧ cd 92 1 = some ((.iconst 0), 1, 0, 0, 0, 0) ∧ cd 92 2 = some ((.aload_n 0), 1, 0, 0, 0, 0) ∧ cd 92 3 = some ((.iload_n 1), 1, 0, 0, 0, 0) ∧ cd 92 4 = some ((.invokevirtual 79), 3, 93, 1, 1, 708) ∧ cd 92 7 = some (.i2l, 1, 0, 0, 0, 0) ∧ cd 92 8 = some (.lastore, 1, 0, 0, 0, 0) ∧ cd 92 9 = some ((.goto 9), 3, 18, 0, 0, 0) ∧ cd 92 12 = some ((.astore_n 3), 1, 0, 0, 0, 0) ∧ cd 92 13 = some ((.iconst 1), 1, 0, 0, 0, 0) ∧ cd 92 14 = some (.ireturn, 1, 0, 0, 0, 0) ∧ cd 92 15 = some ((.astore_n 3), 1, 0, 0, 0, 0) ∧ cd 92 16 = some ((.iconst 2), 1, 0, 0, 0, 0) ∧ cd 92 17 = some (.ireturn, 1, 0, 0, 0, 0) ∧ cd 92 18 = some ((.iconst 0), 1, 0, 0, 0, 0) ∧ cd 92 19 = some (.ireturn, 1, 0, 0, 0, 0) ∧ True := conjL_of 92 c92 (by decide +kernel)
theorem Z92 : mZ 92 = 1 ∧ mL 92 = 4 ∧ mK 92 = 99 ∧ hT 92 = [(0, 9, 12, 0), (0, 9, 15, 1)] := ⟨rfl, rfl, rfl, rfl⟩
theorem D93 : cd 93 0 = some ((.iload_n 1), 1, 0, 0, 0, 0) ∧ cd 93 1 = some ((.iconst 1), 1, 0, 0, 0, 0) ∧ cd 93 2 = some ((.if_icmp .lt 10), 3, 12, 0, 0, 0) ∧ cd 93 5 = some ((.iload_n 1), 1, 0, 0, 0, 0) ∧ cd 93 6 = some ((.sipush 5000), 3, 0, 0, 0, 0) ∧ cd 93 9 = some ((.if_icmp .le 13), 3, 22, 0, 0, 0) ∧ cd 93 12 = some ((.new 41), 3, 900, 712, 405, 363) ∧ cd 93 15 = some (.dup, 1, 0, 0, 0, 0) ∧ cd 93 16 = some ((.ldc 198), 2, 0, 0, 0, 0) ∧ cd 93 18 = some ((.invokespecial 45), 3, 9009, 1, 2, 405) ∧ cd 93 21 = some (.athrow, 1, 0, 0, 0, 0) ∧ cd 93 22 = some ((.aload_n 0), 1, 0, 0, 0, 0) ∧ cd 93 23 = some ((.invokevirtual 48), 3, 29, 0, 1, 431) ∧ cd 93 26 = some ((.aload_n 0), 1, 0, 0, 0, 0) ∧ cd 93 27 = some ((.getfield 33), 3, 0, 3, 2, 300) ∧ cd 93 30 = some ((.aload_n 0), 1, 0, 0, 0, 0) ∧ cd 93 31 = some ((.getfield 10), 3, 0, 0, 2, 297) ∧ cd 93 34 = some ((.getfield 137), 3, 2, 8, 2, 166) ∧ cd 93 37 = some ((.invokevirtual 200), 3, 94, 1, 1, 713) ∧ cd 93 40 = some ((.aload_n 0), 1, 0, 0, 0, 0) ∧ cd 93 41 = some ((.iload_n 1), 1, 0, 0, 0, 0) ∧ cd 93 42 = some ((.invokevirtual 204), 3, 95, 1, 1, 720) ∧ cd 93 45 = some ((.istore_n 2), 1, 0, 0, 0, 0) ∧ cd 93 46 = some ((.aload_n 0), 1, 0, 0, 0, 0) ∧ cd 93 47 = some ((.getfield 10), 3, 0, 0, 2, 297) ∧ cd 93 50 = some ((.getfield 137), 3, 2, 8, 2, 166) ∧ cd 93 53 = some ((.aload_n 0), 1, 0, 0, 0, 0) ∧ cd 93 54 = some ((.getfield 33), 3, 0, 3, 2, 300) ∧ cd 93 57 = some ((.invokevirtual 200), 3, 94, 1, 1, 713) ∧ cd 93 60 = some ((.iload_n 2), 1, 0, 0, 0, 0) ∧ cd 93 61 = some (.ireturn, 1, 0, 0, 0, 0) ∧ True := conjL_of 93 c93 (by decide +kernel)
theorem Z93 : mZ 93 = 1 ∧ mL 93 = 3 ∧ mK 93 = 0 ∧ hT 93 = [] := ⟨rfl, rfl, rfl, rfl⟩
theorem D94 : cd 94 0 = some ((.aload_n 1), 1, 0, 0, 0, 0) ∧ cd 94 1 = some ((.getfield 9), 3, 6, 0, 2, 100) ∧ cd 94 4 = some ((.iconst 0), 1, 0, 0, 0, 0) ∧ cd 94 5 = some ((.aload_n 0), 1, 0, 0, 0, 0) ∧ cd 94 6 = some ((.getfield 9), 3, 6, 0, 2, 100) ∧ cd 94 9 = some ((.iconst 0), 1, 0, 0, 0, 0) ∧ cd 94 10 = some ((.bipush 6), 2, 0, 0, 0, 0) ∧ cd 94 12 = some ((.invokestatic 24), 3, 9003, 5, 0, 717) ∧ cd 94 15 = some ((.aload_n 1), 1, 0, 0, 0, 0) ∧ cd 94 16 = some ((.getfield 15), 3, 6, 1, 2, 103) ∧ cd 94 19 = some ((.iconst 0), 1, 0, 0, 0, 0) ∧ cd 94 20 = some ((.aload_n 0), 1, 0, 0, 0, 0) ∧ cd 94 21 = some ((.getfield 15), 3, 6, 1, 2, 103) ∧ cd 94 24 = some ((.iconst 0), 1, 0, 0, 0, 0) ∧ cd 94 25 = some ((.bipush 12), 2, 0, 0, 0, 0) ∧ cd 94 27 = some ((.invokestatic 24), 3, 9003, 5, 0, 717) ∧ cd 94 30 = some (.return_, 1, 0, 0, 0, 0) ∧ True := conjL_of 94 c94 (by decide +kernel)
theorem Z94 : mZ 94 = 0 ∧ mL 94 = 2 ∧ mK 94 = 6 ∧ hT 94 = [] := ⟨rfl, rfl, rfl, rfl⟩
theorem D95 : cd 95 0 = some ((.iconst 1), 1, 0, 0, 0, 0) ∧ cd 95 1 = some ((.istore_n 2), 1, 0, 0, 0, 0) ∧ cd 95 2 = some ((.iload_n 2), 1, 0, 0, 0, 0) ∧ cd 95 3 = some ((.iload_n 1), 1, 0, 0, 0, 0) ∧ cd 95 4 = some ((.if_icmp .gt 36), 3, 40, 0, 0, 0) ∧ cd 95 7 = some ((.aload_n 0), 1, 0, 0, 0, 0) ∧ cd 95 8 = some ((.getfield 10), 3, 0, 0, 2, 297) ∧ cd 95 11 = some ((.invokevirtual 172), 3, 74, 0, 1, 632) ∧ cd 95 14 = some (.pop, 1, 0, 0, 0, 0) ∧ cd 95 15 = some ((.aload_n 0), 1, 0, 0, 0, 0) ∧ cd 95 16 = some ((.getfield 10), 3, 0, 0, 2, 297) ∧ cd 95 19 = some ((.getfield 137), 3, 2, 8, 2, 166) ∧ cd 95 22 = some ((.aload_n 0), 1, 0, 0, 0, 0) ∧ cd 95 23 = some ((.getfield 33), 3, 0, 3, 2, 300) ∧ cd 95 26 = some ((.invokevirtual 278), 3, 96, 1, 1, 724) ∧ cd 95 29 = some ((.ifCond .eq 5), 3, 34, 0, 0, 0) ∧ cd 95 32 = some ((.iload_n 2), 1, 0, 0, 0, 0) ∧ cd 95 33 = some (.ireturn, 1, 0, 0, 0, 0) ∧ cd 95 34 = some ((.iinc 2 1), 3, 0, 0, 0, 0) ∧ cd 95 37 = some ((.goto (-35)), 3, 2, 0, 0, 0) ∧ cd 95 40 = some ((.iconst 0), 1, 0, 0, 0, 0) ∧ cd 95 41 = some (.ireturn, 1, 0, 0, 0, 0) ∧ True := conjL_of 95 c95 (by decide +kernel)
theorem Z95 : mZ 95 = 1 ∧ mL 95 = 3 ∧ mK 95 = 0 ∧ hT 95 = [] := ⟨rfl, rfl, rfl, rfl⟩
theorem D96 : cd 96 0 = some ((.iconst 0), 1, 0, 0, 0, 0) ∧ cd 96 1 = some ((.istore_n 2), 1, 0, 0, 0, 0) ∧ cd 96 2 = some ((.iload_n 2), 1, 0, 0, 0, 0) ∧ cd 96 3 = some ((.bipush 6), 2, 0, 0, 0, 0) ∧ cd 96 5 = some ((.if_icmp .ge 26), 3, 31, 0, 0, 0) ∧ cd 96 8 = some ((.aload_n 0), 1, 0, 0, 0, 0) ∧ cd 96 9 = some ((.getfield 9), 3, 6, 0, 2, 100) ∧ cd 96 12 = some ((.iload_n 2), 1, 0, 0, 0, 0) ∧ cd 96 13 = some (.iaload, 1, 0, 0, 0, 0) ∧ cd 96 14 = some ((.aload_n 1), 1, 0, 0, 0, 0) ∧ cd 96 15 = some ((.getfield 9), 3, 6, 0, 2, 100) ∧ cd 96 18 = some ((.iload_n 2), 1, 0, 0, 0, 0) ∧ cd 96 19 = some (.iaload, 1, 0, 0, 0, 0) ∧ cd 96 20 = some ((.if_icmp .eq 5), 3, 25, 0, 0, 0) ∧ cd 96 23 = some ((.iconst 0), 1, 0, 0, 0, 0) ∧ cd 96 24 = some (.ireturn, 1, 0, 0, 0, 0) ∧ cd 96 25 = some ((.iinc 2 1), 3, 0, 0, 0, 0) ∧ cd 96 28 = some ((.goto (-26)), 3, 2, 0, 0, 0) ∧ cd 96 31 = some ((.iconst 0), 1, 0, 0, 0, 0) ∧ cd 96 32 = some ((.istore_n 2), 1, 0, 0, 0, 0) ∧ cd 96 33 = some ((.iload_n 2), 1, 0, 0, 0, 0) ∧ cd 96 34 = some ((.bipush 12), 2, 0, 0, 0, 0) ∧ cd 96 36 = some ((.if_icmp .ge 26), 3, 62, 0, 0, 0) ∧ cd 96 39 = some ((.aload_n 0), 1, 0, 0, 0, 0) ∧ cd 96 40 = some ((.getfield 15), 3, 6, 1, 2, 103) ∧ cd 96 43 = some ((.iload_n 2), 1, 0, 0, 0, 0) ∧ cd 96 44 = some (.iaload, 1, 0, 0, 0, 0) ∧ cd 96 45 = some ((.aload_n 1), 1, 0, 0, 0, 0) ∧ cd 96 46 = some ((.getfield 15), 3, 6, 1, 2, 103) ∧ cd 96 49 = some ((.iload_n 2), 1, 0, 0, 0, 0) ∧ cd 96 50 = some (.iaload, 1, 0, 0, 0, 0) ∧ cd 96 51 = some ((.if_icmp .eq 5), 3, 56, 0, 0, 0) ∧ cd 96 54 = some ((.iconst 0), 1, 0, 0, 0, 0) ∧ cd 96 55 = some (.ireturn, 1, 0, 0, 0, 0) ∧ cd 96 56 = some ((.iinc 2 1), 3, 0, 0, 0, 0) ∧ cd 96 59 = some ((.goto (-26)), 3, 33, 0, 0, 0) ∧ cd 96 62 = some ((.iconst 1), 1, 0, 0, 0, 0) ∧ cd 96 63 = some (.ireturn, 1, 0, 0, 0, 0) ∧ True := conjL_of 96 c96 (by decide +kernel)
theorem Z96 : mZ 96 = 2 ∧ mL 96 = 3 ∧ mK 96 = 6 ∧ hT 96 = [] := ⟨rfl, rfl, rfl, rfl⟩
theorem D97 : cd 97 0 = some ((.aload_n 1), 1, 0, 0, 0, 0) ∧ cd 97 1 = some ((.iconst 0), 1, 0, 0, 0, 0) ∧ cd 97 2 = some ((.aload_n 0), 1, 0, 0, 0, 0) ∧ cd 97 3 = some ((.invokevirtual 82), 3, 98, 0, 1, 731) ∧ cd 97 6 = some (.i2l, 1, 0, 0, 0, 0) ∧ cd 97 7 = some (.lastore, 1, 0, 0, 0, 0) ∧ cd 97 8 = some ((.goto 6), 3, 14, 0, 0, 0) ∧ cd 97 11 = some ((.astore_n 2), 1, 0, 0, 0, 0) ∧ cd 97 12 = some ((.iconst 1), 1, 0, 0, 0, 0) ∧ cd 97 13 = some (.ireturn, 1, 0, 0, 0, 0) ∧ cd 97 14 = some ((.iconst 0), 1, 0, 0, 0, 0) ∧ cd 97 15 = some (.ireturn, 1, 0, 0, 0, 0) ∧ True := conjL_of 97 c97 (by decide +kernel)
theorem Z97 : mZ 97 = 1 ∧ mL 97 = 3 ∧ mK 97 = 99 ∧ hT 97 = [(0, 8, 11, 1)] := ⟨rfl, rfl, rfl, rfl⟩
theorem D98 : cd 98 0 = some ((.aload_n 0), 1, 0, 0, 0, 0) ∧ cd 98 1 = some ((.invokevirtual 48), 3, 29, 0, 1, 431) ∧ cd 98 4 = some ((.aload_n 0), 1, 0, 0, 0, 0) ∧ cd 98 5 = some ((.getfield 26), 3, 0, 2, 2, 299) ∧ cd 98 8 = some ((.getfield 207), 3, 1, 1, 0, 261) ∧ cd 98 11 = some ((.bipush 20), 2, 0, 0, 0, 0) ∧ cd 98 13 = some ((.if_icmp .ne 13), 3, 26, 0, 0, 0) ∧ cd 98 16 = some ((.new 90), 3, 901, 735, 445, 435) ∧ cd 98 19 = some (.dup, 1, 0, 0, 0, 0) ∧ cd 98 20 = some ((.ldc 208), 2, 0, 0, 0, 0) ∧ cd 98 22 = some ((.invokespecial 94), 3, 9009, 1, 2, 445) ∧ cd 98 25 = some (.athrow, 1, 0, 0, 0, 0) ∧ cd 98 26 = some ((.aload_n 0), 1, 0, 0, 0, 0) ∧ cd 98 27 = some ((.getfield 26), 3, 0, 2, 2, 299) ∧ cd 98 30 = some ((.aload_n 0), 1, 0, 0, 0, 0) ∧ cd 98 31 = some ((.getfield 10), 3, 0, 0, 2, 297) ∧ cd 98 34 = some ((.getfield 137), 3, 2, 8, 2, 166) ∧ cd 98 37 = some ((.invokevirtual 210), 3, 99, 1, 1, 736) ∧ cd 98 40 = some (.ireturn, 1, 0, 0, 0, 0) ∧ True := conjL_of 98 c98 (by decide +kernel)
theorem Z98 : mZ 98 = 1 ∧ mL 98 = 1 ∧ mK 98 = 0 ∧ hT 98 = [] := ⟨rfl, rfl, rfl, rfl⟩
theorem D99 : cd 99 0 = some ((.aload_n 0), 1, 0, 0, 0, 0) ∧ cd 99 1 = some ((.getfield 11), 3, 1, 0, 2, 258) ∧ cd 99 4 = some ((.aload_n 0), 1, 0, 0, 0, 0) ∧ cd 99 5 = some ((.getfield 18), 3, 1, 1, 0, 260) ∧ cd 99 8 = some (.aaload, 1, 0, 0, 0, 0) ∧ cd 99 9 = some ((.getfield 27), 3, 3, 0, 2, 239) ∧ cd 99 12 = some ((.aload_n 1), 1, 0, 0, 0, 0) ∧ cd 99 13 = some ((.invokevirtual 31), 3, 94, 1, 1, 740) ∧ cd 99 16 = some ((.aload_n 0), 1, 0, 0, 0, 0) ∧ cd 99 17 = some ((.getfield 11), 3, 1, 0, 2, 258) ∧ cd 99 20 = some ((.aload_n 0), 1, 0, 0, 0, 0) ∧ cd 99 21 = some ((.getfield 18), 3, 1, 1, 0, 260) ∧ cd 99 24 = some (.aaload, 1, 0, 0, 0, 0) ∧ cd 99 25 = some ((.iconst 0), 1, 0, 0, 0, 0) ∧ cd 99 26 = some ((.putfield 26), 3, 3, 3, 0, 247) ∧ cd 99 29 = some ((.aload_n 0), 1, 0, 0, 0, 0) ∧ cd 99 30 = some ((.iconst 1), 1, 0, 0, 0, 0) ∧ cd 99 31 = some ((.putfield 22), 3, 1, 2, 1, 262) ∧ cd 99 34 = some ((.aload_n 0), 1, 0, 0, 0, 0) ∧ cd 99 35 = some (.dup, 1, 0, 0, 0, 0) ∧ cd 99 36 = some ((.getfield 18), 3, 1, 1, 0, 260) ∧ cd 99 39 = some ((.iconst 1), 1, 0, 0, 0, 0) ∧ cd 99 40 = some (.iadd, 1, 0, 0, 0, 0) ∧ cd 99 41 = some ((.putfield 18), 3, 1, 1, 0, 260) ∧ cd 99 44 = some ((.aload_n 0), 1, 0, 0, 0, 0) ∧ cd 99 45 = some ((.getfield 18), 3, 1, 1, 0, 260) ∧ cd 99 48 = some ((.iconst 1), 1, 0, 0, 0, 0) ∧ cd 99 49 = some (.isub, 1, 0, 0, 0, 0) ∧ cd 99 50 = some (.ireturn, 1, 0, 0, 0, 0) ∧ True := conjL_of 99 c99 (by decide +kernel)
theorem Z99 : mZ 99 = 1 ∧ mL 99 = 2 ∧ mK 99 = 1 ∧ hT 99 = [] := ⟨rfl, rfl, rfl, rfl⟩
theorem D100 : cd 100 0 = some ((.aload_n 1), 1, 0, 0, 0, 0) ∧ cd 100 1 = some ((.iconst 0), 1, 0, 0, 0, 0) ∧ cd 100 2 = some ((.aload_n 0), 1, 0, 0, 0, 0) ∧ cd 100 3 = some ((.invokevirtual 85), 3, 101, 0, 1, 744) ∧ cd 100 6 = some (.i2l, 1, 0, 0, 0, 0) ∧ cd 100 7 = some (.lastore, 1, 0, 0, 0, 0) ∧ cd 100 8 = some ((.goto 6), 3, 14, 0, 0, 0) ∧ cd 100 11 = some ((.astore_n 2), 1, 0, 0, 0, 0) ∧ cd 100 12 = some ((.iconst 1), 1, 0, 0, 0, 0) ∧ cd 100 13 = some (.ireturn, 1, 0, 0, 0, 0) ∧ cd 100 14 = some ((.iconst 0), 1, 0, 0, 0, 0) ∧ cd 100 15 = some (.ireturn, 1, 0, 0, 0, 0) ∧ True := conjL_of 100 c100 (by decide +kernel)
theorem Z100 : mZ 100 = 1 ∧ mL 100 = 3 ∧ mK 100 = 99 ∧ hT 100 = [(0, 8, 11, 1)] := ⟨rfl, rfl, rfl, rfl⟩
theorem D101 : cd 101 0 = some ((.aload_n 0), 1, 0, 0, 0, 0) ∧ cd 101 1 = some ((.getfield 26), 3, 0, 2, 2, 299) ∧ cd 101 4 = some ((.getfield 214), 3, 1, 2, 1, 263) ∧ cd 101 7 = some ((.ifCond .ne 13), 3, 20, 0, 0, 0) ∧ cd 101 10 = some ((.new 90), 3, 901, 748, 445, 435) ∧ cd 101 13 = some (.dup, 1, 0, 0, 0, 0) ∧ cd 101 14 = some ((.ldc 217), 2, 0, 0, 0, 0) ∧ cd 101 16 = some ((.invokespecial 94), 3, 9009, 1, 2, 445) ∧ cd 101 19 = some (.athrow, 1, 0, 0, 0, 0) ∧ cd 101 20 = some ((.aload_n 0), 1, 0, 0, 0, 0) ∧ cd 101 21 = some ((.getfield 26), 3, 0, 2, 2, 299) ∧ cd 101 24 = some ((.invokevirtual 219), 3, 102, 0, 1, 749) ∧ cd 101 27 = some (.ireturn, 1, 0, 0, 0, 0) ∧ True := conjL_of 101 c101 (by decide +kernel)
theorem Z101 : mZ 101 = 1 ∧ mL 101 = 1 ∧ mK 101 = 0 ∧ hT 101 = [] := ⟨rfl, rfl, rfl, rfl⟩
theorem D102 : cd 102 0 = some ((.aload_n 0), 1, 0, 0, 0, 0) ∧ cd 102 1 = some ((.iconst 0), 1, 0, 0, 0, 0) ∧ cd 102 2 = some ((.putfield 22), 3, 1, 2, 1, 262) ∧ cd 102 5 = some ((.aload_n 0), 1, 0, 0, 0, 0) ∧ cd 102 6 = some ((.getfield 11), 3, 1, 0, 2, 258) ∧ cd 102 9 = some ((.aload_n 0), 1, 0, 0, 0, 0) ∧ cd 102 10 = some ((.getfield 18), 3, 1, 1, 0, 260) ∧ cd 102 13 = some ((.iconst 1), 1, 0, 0, 0, 0) ∧ cd 102 14 = some (.isub, 1, 0, 0, 0, 0) ∧ cd 102 15 = some (.aaload, 1, 0, 0, 0, 0) ∧ cd 102 16 = some ((.getfield 26), 3, 3, 3, 0, 247) ∧ cd 102 19 = some (.ireturn, 1, 0, 0, 0, 0) ∧ True := conjL_of 102 c102 (by decide +kernel)
theorem Z102 : mZ 102 = 1 ∧ mL 102 = 1 ∧ mK 102 = 1 ∧ hT 102 = [] := ⟨rfl, rfl, rfl, rfl⟩
theorem D103 : cd 103 0 = some ((.aload 4), 2, 0, 0, 0, 0) ∧ cd 103 2 = some ((.iconst 0), 1, 0, 0, 0, 0) ∧ cd 103 3 = some ((.aload_n 0), 1, 0, 0, 0, 0) ∧ cd 103 4 = some ((.iload_n 1), 1, 0, 0, 0, 0) ∧ cd 103 5 = some ((.iload_n 2), 1, 0, 0, 0, 0) ∧ cd 103 6 = some ((.iload_n 3), 1, 0, 0, 0, 0) ∧ cd 103 7 = some ((.invokevirtual 88), 3, 104, 3, 1, 756) ∧ cd 103 10 = some (.i2l, 1, 0, 0, 0, 0) ∧ cd 103 11 = some (.lastore, 1, 0, 0, 0, 0) ∧ cd 103 12 = some ((.goto 11), 3, 23, 0, 0, 0) ∧ cd 103 15 = some ((.astore 5), 2, 0, 0, 0, 0) ∧ cd 103 17 = some ((.iconst 1), 1, 0, 0, 0, 0) ∧ cd 103 18 = some (.ireturn, 1, 0, 0, 0, 0) ∧ cd 103 19 = some ((.astore 5), 2, 0, 0, 0, 0) ∧ cd 103 21 = some ((.iconst 2), 1, 0, 0, 0, 0) ∧ cd 103 22 = some (.ireturn, 1, 0, 0, 0, 0) ∧ cd 103 23 = some ((.iconst 0), 1, 0, 0, 0, 0) ∧ cd 103 24 = some (.ireturn, 1, 0, 0, 0, 0) ∧ True := conjL_of 103 c103 (by decide +kernel)
theorem Z103 : mZ 103 = 1 ∧ mL 103 = 6 ∧ mK 103 = 99 ∧ hT 103 = [(0, 12, 15, 2), (0, 12, 19, 0)] := ⟨rfl, rfl, rfl, rfl⟩
theorem D104 : cd 104 0 = some ((.iload_n 1), 1, 0, 0, 0, 0) ∧ cd 104 1 = some ((.aload_n 0), 1, 0, 0, 0, 0) ∧ cd 104 2 = some ((.getfield 26), 3, 0, 2, 2, 299) ∧ cd 104 5 = some ((.getfield 207), 3, 1, 1, 0, 261) ∧ cd 104 8 = some ((.invokestatic 58), 3, 34, 2, 0, 467) ∧ cd 104 11 = some ((.iload_n 2), 1, 0, 0, 0, 0) ∧ cd 104 12 = some ((.aload_n 0), 1, 0, 0, 0, 0) ∧ cd 104 13 = some ((.getfield 26), 3, 0, 2, 2, 299) ∧ cd 104 16 = some ((.getfield 222), 3, 1, 0, 2, 259) ∧ cd 104 19 = some ((.iload_n 1), 1, 0, 0, 0, 0) ∧ cd 104 20 = some (.aaload, 1, 0, 0, 0, 0) ∧ cd 104 21 = some ((.getfield 226), 3, 3, 3, 0, 248) ∧ cd 104 24 = some ((.invokestatic 58), 3, 34, 2, 0, 467) ∧ cd 104 27 = some ((.iload_n 3), 1, 0, 0, 0, 0) ∧ cd 104 28 = some ((.ifCond .eq 18), 3, 46, 0, 0, 0) ∧ cd 104 31 = some ((.iload_n 3), 1, 0, 0, 0, 0) ∧ cd 104 32 = some ((.iconst 1), 1, 0, 0, 0, 0) ∧ cd 104 33 = some ((.if_icmp .eq 13), 3, 46, 0, 0, 0) ∧ cd 104 36 = some ((.new 41), 3, 900, 760, 405, 363) ∧ cd 104 39 = some (.dup, 1, 0, 0, 0, 0) ∧ cd 104 40 = some ((.ldc 229), 2, 0, 0, 0, 0) ∧ cd 104 42 = some ((.invokespecial 45), 3, 9009, 1, 2, 405) ∧ cd 104 45 = some (.athrow, 1, 0, 0, 0, 0) ∧ cd 104 46 = some ((.iload_n 3), 1, 0, 0, 0, 0) ∧ cd 104 47 = some ((.ifCond .ne 20), 3, 67, 0, 0, 0) ∧ cd 104 50 = some ((.aload_n 0), 1, 0, 0, 0, 0) ∧ cd 104 51 = some ((.getfield 26), 3, 0, 2, 2, 299) ∧ cd 104 54 = some ((.getfield 222), 3, 1, 0, 2, 259) ∧ cd 104 57 = some ((.iload_n 1), 1, 0, 0, 0, 0) ∧ cd 104 58 = some (.aaload, 1, 0, 0, 0, 0) ∧ cd 104 59 = some ((.getfield 231), 3, 3, 1, 2, 243) ∧ cd 104 62 = some ((.iload_n 2), 1, 0, 0, 0, 0) ∧ cd 104 63 = some (.iaload, 1, 0, 0, 0, 0) ∧ cd 104 64 = some ((.goto 17), 3, 81, 0, 0, 0) ∧ cd 104 67 = some ((.aload_n 0), 1, 0, 0, 0, 0) ∧ cd 104 68 = some ((.getfield 26), 3, 0, 2, 2, 299) ∧ cd 104 71 = some ((.getfield 222), 3, 1, 0, 2, 259) ∧ cd 104 74 = some ((.iload_n 1), 1, 0, 0, 0, 0) ∧ cd 104 75 = some (.aaload, 1, 0, 0, 0, 0) ∧ cd 104 76 = some ((.getfield 234), 3, 3, 2, 2, 246) ∧ cd 104 79 = some ((.iload_n 2), 1, 0, 0, 0, 0) ∧ cd 104 80 = some (.iaload, 1, 0, 0, 0, 0) ∧ cd 104 81 = some (.ireturn, 1, 0, 0, 0, 0) ∧ True := conjL_of 104 c104 (by decide +kernel)
theorem Z104 : mZ 104 = 1 ∧ mL 104 = 4 ∧ mK 104 = 0 ∧ hT 104 = [] := ⟨rfl, rfl, rfl, rfl⟩
theorem D105 : cd 105 0 = some ((.aload_n 2), 1, 0, 0, 0, 0) ∧ cd 105 1 = some ((.iconst 0), 1, 0, 0, 0, 0) ∧ cd 105 2 = some ((.aload_n 0), 1, 0, 0, 0, 0) ∧ cd 105 3 = some ((.iload_n 1), 1, 0, 0, 0, 0) ∧ cd 105 4 = some ((.invokevirtual 91), 3, 106, 1, 1, 764) ∧ cd 105 7 = some (.i2l, 1, 0, 0, 0, 0) ∧ cd 105 8 = some (.lastore, 1, 0, 0, 0, 0) ∧ cd 105 9 = some ((.goto 9), 3, 18, 0, 0, 0) ∧ cd 105 12 = some ((.astore_n 3), 1, 0, 0, 0, 0) ∧ cd 105 13 = some ((.iconst 1), 1, 0, 0, 0, 0) ∧ cd 105 14 = some (.ireturn, 1, 0, 0, 0, 0) ∧ cd 105 15 = some ((.astore_n 3), 1, 0, 0, 0, 0) ∧ cd 105 16 = some ((.iconst 2), 1, 0, 0, 0, 0) ∧ cd 105 17 = some (.ireturn, 1, 0, 0, 0, 0) ∧ cd 105 18 = some ((.iconst 0), 1, 0, 0, 0, 0) ∧ cd 105 19 = some (.ireturn, 1, 0, 0, 0, 0) ∧ True := conjL_of 105 c105 (by decide +kernel)
theorem Z105 : mZ 105 = 1 ∧ mL 105 = 4 ∧ mK 105 = 99 ∧ hT 105 = [(0, 9, 12, 2), (0, 9, 15, 1)] := ⟨rfl, rfl, rfl, rfl⟩
theorem D106 : cd 106 0 = some ((.iload_n 1), 1, 0, 0, 0, 0) ∧ cd 106 1 = some ((.aload_n 0), 1, 0, 0, 0, 0) ∧ cd 106 2 = some ((.getfield 26), 3, 0, 2, 2, 299) ∧ cd 106 5 = some ((.getfield 207), 3, 1, 1, 0, 261) ∧ cd 106 8 = some ((.invokestatic 58), 3, 34, 2, 0, 467) ∧ cd 106 11 = some ((.aload_n 0), 1, 0, 0, 0, 0) ∧ cd 106 12 = some ((.getfield 26), 3, 0, 2, 2, 299) ∧ cd 106 15 = some ((.iload_n 1), 1, 0, 0, 0, 0) ∧ cd 106 16 = some ((.invokevirtual 237), 3, 107, 1, 1, 768) ∧ cd 106 19 = some ((.ifCond .eq 13), 3, 32, 0, 0, 0) ∧ cd 106 22 = some ((.new 90), 3, 901, 772, 445, 435) ∧ cd 106 25 = some (.dup, 1, 0, 0, 0, 0) ∧ cd 106 26 = some ((.ldc 240), 2, 0, 0, 0, 0) ∧ cd 106 28 = some ((.invokespecial 94), 3, 9009, 1, 2, 445) ∧ cd 106 31 = some (.athrow, 1, 0, 0, 0, 0) ∧ cd 106 32 = some ((.aload_n 0), 1, 0, 0, 0, 0) ∧ cd 106 33 = some ((.getfield 33), 3, 0, 3, 2, 300) ∧ cd 106 36 = some ((.aload_n 0), 1, 0, 0, 0, 0) ∧ cd 106 37 = some ((.getfield 10), 3, 0, 0, 2, 297) ∧ cd 106 40 = some ((.getfield 137), 3, 2, 8, 2, 166) ∧ cd 106 43 = some ((.invokevirtual 200), 3, 94, 1, 1, 713) ∧ cd 106 46 = some ((.aload_n 0), 1, 0, 0, 0, 0) ∧ cd 106 47 = some ((.getfield 10), 3, 0, 0, 2, 297) ∧ cd 106 50 = some ((.aload_n 0), 1, 0, 0, 0, 0) ∧ cd 106 51 = some ((.getfield 26), 3, 0, 2, 2, 299) ∧ cd 106 54 = some ((.getfield 222), 3, 1, 0, 2, 259) ∧ cd 106 57 = some ((.iload_n 1), 1, 0, 0, 0, 0) ∧ cd 106 58 = some (.aaload, 1, 0, 0, 0, 0) ∧ cd 106 59 = some ((.getfield 242), 3, 3, 0, 2, 240) ∧ cd 106 62 = some ((.invokevirtual 245), 3, 108, 1, 1, 773) ∧ cd 106 65 = some ((.aload_n 0), 1, 0, 0, 0, 0) ∧ cd 106 66 = some ((.aload_n 0), 1, 0, 0, 0, 0) ∧ cd 106 67 = some ((.getfield 26), 3, 0, 2, 2, 299) ∧ cd 106 70 = some ((.getfield 222), 3, 1, 0, 2, 259) ∧ cd 106 73 = some ((.iload_n 1), 1, 0, 0, 0, 0) ∧ cd 106 74 = some (.aaload, 1, 0, 0, 0, 0) ∧ cd 106 75 = some ((.invokevirtual 248), 3, 109, 1, 1, 778) ∧ cd 106 78 = some ((.istore_n 2), 1, 0, 0, 0, 0) ∧ cd 106 79 = some ((.aload_n 0), 1, 0, 0, 0, 0) ∧ cd 106 80 = some ((.getfield 10), 3, 0, 0, 2, 297) ∧ cd 106 83 = some ((.getfield 137), 3, 2, 8, 2, 166) ∧ cd 106 86 = some ((.aload_n 0), 1, 0, 0, 0, 0) ∧ cd 106 87 = some ((.getfield 33), 3, 0, 3, 2, 300) ∧ cd 106 90 = some ((.invokevirtual 200), 3, 94, 1, 1, 713) ∧ cd 106 93 = some ((.iload_n 2), 1, 0, 0, 0, 0) ∧ cd 106 94 = some (.ireturn, 1, 0, 0, 0, 0) ∧ True := conjL_of 106 c106 (by decide +kernel)
theorem Z106 : mZ 106 = 1 ∧ mL 106 = 3 ∧ mK 106 = 0 ∧ hT 106 = [] := ⟨rfl, rfl, rfl, rfl⟩
theorem D107 : cd 107 0 = some ((.aload_n 0), 1, 0, 0, 0, 0) ∧ cd 107 1 = some ((.getfield 22), 3, 1, 2, 1, 262) ∧ cd 107 4 = some ((.ifCond .eq 17), 3, 21, 0, 0, 0) ∧ cd 107 7 = some ((.iload_n 1), 1, 0, 0, 0, 0) ∧ cd 107 8 = some ((.aload_n 0), 1, 0, 0, 0, 0) ∧ cd 107 9 = some ((.getfield 18), 3, 1, 1, 0, 260) ∧ cd 107 12 = some ((.iconst 1), 1, 0, 0, 0, 0) ∧ cd 107 13 = some (.isub, 1, 0, 0, 0, 0) ∧ cd 107 14 = some ((.if_icmp .ne 7), 3, 21, 0, 0, 0) ∧ cd 107 17 = some ((.iconst 1), 1, 0, 0, 0, 0) ∧ cd 107 18 = some ((.goto 4), 3, 22, 0, 0, 0) ∧ cd 107 21 = some ((.iconst 0), 1, 0, 0, 0, 0) ∧ cd 107 22 = some (.ireturn, 1, 0, 0, 0, 0) ∧ True := conjL_of 107 c107 (by decide +kernel)
theorem Z107 : mZ 107 = 2 ∧ mL 107 = 2 ∧ mK 107 = 1 ∧ hT 107 = [] := ⟨rfl, rfl, rfl, rfl⟩
theorem D108 : cd 108 0 = some ((.aload_n 0), 1, 0, 0, 0, 0) ∧ cd 108 1 = some ((.getfield 49), 3, 2, 8, 2, 165) ∧ cd 108 4 = some ((.aload_n 1), 1, 0, 0, 0, 0) ∧ cd 108 5 = some ((.invokevirtual 124), 3, 94, 1, 1, 777) ∧ cd 108 8 = some ((.iconst 0), 1, 0, 0, 0, 0) ∧ cd 108 9 = some ((.istore_n 2), 1, 0, 0, 0, 0) ∧ cd 108 10 = some ((.iload_n 2), 1, 0, 0, 0, 0) ∧ cd 108 11 = some ((.bipush 12), 2, 0, 0, 0, 0) ∧ cd 108 13 = some ((.if_icmp .ge 44), 3, 57, 0, 0, 0) ∧ cd 108 16 = some ((.aload_n 0), 1, 0, 0, 0, 0) ∧ cd 108 17 = some ((.getfield 26), 3, 2, 3, 2, 155) ∧ cd 108 20 = some ((.iload_n 2), 1, 0, 0, 0, 0) ∧ cd 108 21 = some (.aaload, 1, 0, 0, 0, 0) ∧ cd 108 22 = some ((.getfield 87), 3, 5, 1, 0, 144) ∧ cd 108 25 = some ((.istore_n 3), 1, 0, 0, 0, 0) ∧ cd 108 26 = some ((.aload_n 0), 1, 0, 0, 0, 0) ∧ cd 108 27 = some ((.getfield 49), 3, 2, 8, 2, 165) ∧ cd 108 30 = some ((.getfield 105), 3, 6, 1, 2, 104) ∧ cd 108 33 = some ((.iload_n 2), 1, 0, 0, 0, 0) ∧ cd 108 34 = some ((.iload_n 3), 1, 0, 0, 0, 0) ∧ cd 108 35 = some ((.ifCond .le 14), 3, 49, 0, 0, 0) ∧ cd 108 38 = some ((.aload_n 1), 1, 0, 0, 0, 0) ∧ cd 108 39 = some ((.getfield 105), 3, 6, 1, 2, 104) ∧ cd 108 42 = some ((.iload_n 2), 1, 0, 0, 0, 0) ∧ cd 108 43 = some (.iaload, 1, 0, 0, 0, 0) ∧ cd 108 44 = some ((.iload_n 3), 1, 0, 0, 0, 0) ∧ cd 108 45 = some (.irem, 1, 0, 0, 0, 0) ∧ cd 108 46 = some ((.goto 4), 3, 50, 0, 0, 0) ∧ cd 108 49 = some ((.iconst 0), 1, 0, 0, 0, 0) ∧ cd 108 50 = some (.iastore, 1, 0, 0, 0, 0) ∧ cd 108 51 = some ((.iinc 2 1), 3, 0, 0, 0, 0) ∧ cd 108 54 = some ((.goto (-44)), 3, 10, 0, 0, 0) ∧ cd 108 57 = some (.return_, 1, 0, 0, 0, 0) ∧ True := conjL_of 108 c108 (by decide +kernel)
theorem Z108 : mZ 108 = 0 ∧ mL 108 = 4 ∧ mK 108 = 2 ∧ hT 108 = [] := ⟨rfl, rfl, rfl, rfl⟩
theorem D109 : cd 109 0 = some ((.iconst 0), 1, 0, 0, 0, 0) ∧ cd 109 1 = some ((.istore_n 2), 1, 0, 0, 0, 0) ∧ cd 109 2 = some ((.iload_n 2), 1, 0, 0, 0, 0) ∧ cd 109 3 = some ((.aload_n 1), 1, 0, 0, 0, 0) ∧ cd 109 4 = some ((.getfield 226), 3, 3, 3, 0, 248) ∧ cd 109 7 = some ((.if_icmp .ge 41), 3, 48, 0, 0, 0) ∧ cd 109 10 = some ((.aload_n 0), 1, 0, 0, 0, 0) ∧ cd 109 11 = some ((.getfield 10), 3, 0, 0, 2, 297) ∧ cd 109 14 = some ((.invokevirtual 172), 3, 74, 0, 1, 632) ∧ cd 109 17 = some (.pop, 1, 0, 0, 0, 0) ∧ cd 109 18 = some ((.aload_n 0), 1, 0, 0, 0, 0) ∧ cd 109 19 = some ((.getfield 10), 3, 0, 0, 2, 297) ∧ cd 109 22 = some ((.aload_n 1), 1, 0, 0, 0, 0) ∧ cd 109 23 = some ((.getfield 231), 3, 3, 1, 2, 243) ∧ cd 109 26 = some ((.iload_n 2), 1, 0, 0, 0, 0) ∧ cd 109 27 = some (.iaload, 1, 0, 0, 0, 0) ∧ cd 109 28 = some ((.invokevirtual 179), 3, 17, 1, 1, 314) ∧ cd 109 31 = some ((.aload_n 1), 1, 0, 0, 0, 0) ∧ cd 109 32 = some ((.getfield 234), 3, 3, 2, 2, 246) ∧ cd 109 35 = some ((.iload_n 2), 1, 0, 0, 0, 0) ∧ cd 109 36 = some (.iaload, 1, 0, 0, 0, 0) ∧ cd 109 37 = some ((.if_icmp .eq 5), 3, 42, 0, 0, 0) ∧ cd 109 40 = some ((.iload_n 2), 1, 0, 0, 0, 0) ∧ cd 109 41 = some (.ireturn, 1, 0, 0, 0, 0) ∧ cd 109 42 = some ((.iinc 2 1), 3, 0, 0, 0, 0) ∧ cd 109 45 = some ((.goto (-43)), 3, 2, 0, 0, 0) ∧ cd 109 48 = some ((.iconst (-1)), 1, 0, 0, 0, 0) ∧ cd 109 49 = some (.ireturn, 1, 0, 0, 0, 0) ∧ True := conjL_of 109 c109 (by decide +kernel)
theorem Z109 : mZ 109 = 1 ∧ mL 109 = 3 ∧ mK 109 = 0 ∧ hT 109 = [] := ⟨rfl, rfl, rfl, rfl⟩
theorem D110 : cd 110 0 = some ((.aload_n 2), 1, 0, 0, 0, 0) ∧ cd 110 1 = some ((.iconst 0), 1, 0, 0, 0, 0) ∧ cd 110 2 = some ((.aload_n 0), 1, 0, 0, 0, 0) ∧ cd 110 3 = some ((.iload_n 1), 1, 0, 0, 0, 0) ∧ cd 110 4 = some ((.invokevirtual 94), 3, 111, 1, 1, 785) ∧ cd 110 7 = some (.i2l, 1, 0, 0, 0, 0) ∧ cd 110 8 = some (.lastore, 1, 0, 0, 0, 0) ∧ cd 110 9 = some ((.goto 6), 3, 15, 0, 0, 0) ∧ cd 110 12 = some ((.astore_n 3), 1, 0, 0, 0, 0) ∧ cd 110 13 = some ((.iconst 1), 1, 0, 0, 0, 0) ∧ cd 110 14 = some (.ireturn, 1, 0, 0, 0, 0) ∧ cd 110 15 = some ((.iconst 0), 1, 0, 0, 0, 0) ∧ cd 110 16 = some (.ireturn, 1, 0, 0, 0, 0) ∧ True := conjL_of 110 c110 (by decide +kernel)
theorem Z110 : mZ 110 = 1 ∧ mL 110 = 4 ∧ mK 110 = 99 ∧ hT 110 = [(0, 9, 12, 0)] := ⟨rfl, rfl, rfl, rfl⟩
theorem D111 : cd 111 0 = some ((.iload_n 1), 1, 0, 0, 0, 0) ∧ cd 111 1 = some ((.tableswitch 125 0 7 #[47, 55, 63, 74, 85, 93, 101, 117]), 47, 0, 0, 0, 0) ∧ cd 111 48 = some ((.aload_n 0), 1, 0, 0, 0, 0) ∧ cd 111 49 = some ((.getfield 10), 3, 0, 0, 2, 297) ∧ cd 111 52 = some ((.getfield 51), 3, 2, 9, 0, 167) ∧ cd 111 55 = some (.ireturn, 1, 0, 0, 0, 0) ∧ cd 111 56 = some ((.aload_n 0), 1, 0, 0, 0, 0) ∧ cd 111 57 = some ((.getfield 10), 3, 0, 0, 2, 297) ∧ cd 111 60 = some ((.getfield 252), 3, 2, 10, 0, 170) ∧ cd 111 63 = some (.ireturn, 1, 0, 0, 0, 0) ∧ cd 111 64 = some ((.aload_n 0), 1, 0, 0, 0, 0) ∧ cd 111 65 = some ((.getfield 10), 3, 0, 0, 2, 297) ∧ cd 111 68 = some ((.getfield 255), 3, 2, 6, 2, 162) ∧ cd 111 71 = some ((.getfield 259), 3, 4, 1, 0, 87) ∧ cd 111 74 = some (.ireturn, 1, 0, 0, 0, 0) ∧ cd 111 75 = some ((.aload_n 0), 1, 0, 0, 0, 0) ∧ cd 111 76 = some ((.getfield 10), 3, 0, 0, 2, 297) ∧ cd 111 79 = some ((.getfield 260), 3, 2, 7, 2, 164) ∧ cd 111 82 = some ((.getfield 259), 3, 4, 1, 0, 87) ∧ cd 111 85 = some (.ireturn, 1, 0, 0, 0, 0) ∧ cd 111 86 = some ((.aload_n 0), 1, 0, 0, 0, 0) ∧ cd 111 87 = some ((.getfield 10), 3, 0, 0, 2, 297) ∧ cd 111 90 = some ((.invokevirtual 263), 3, 112, 0, 1, 789) ∧ cd 111 93 = some (.ireturn, 1, 0, 0, 0, 0) ∧ cd 111 94 = some ((.aload_n 0), 1, 0, 0, 0, 0) ∧ cd 111 95 = some ((.getfield 26), 3, 0, 2, 2, 299) ∧ cd 111 98 = some ((.getfield 207), 3, 1, 1, 0, 261) ∧ cd 111 101 = some (.ireturn, 1, 0, 0, 0, 0) ∧ cd 111 102 = some ((.aload_n 0), 1, 0, 0, 0, 0) ∧ cd 111 103 = some ((.getfield 26), 3, 0, 2, 2, 299) ∧ cd 111 106 = some ((.getfield 214), 3, 1, 2, 1, 263) ∧ cd 111 109 = some ((.ifCond .eq 7), 3, 116, 0, 0, 0) ∧ cd 111 112 = some ((.iconst 1), 1, 0, 0, 0, 0) ∧ cd 111 113 = some ((.goto 4), 3, 117, 0, 0, 0) ∧ cd 111 116 = some ((.iconst 0), 1, 0, 0, 0, 0) ∧ cd 111 117 = some (.ireturn, 1, 0, 0, 0, 0) ∧ cd 111 118 = some ((.aload_n 0), 1, 0, 0, 0, 0) ∧ cd 111 119 = some ((.getfield 19), 3, 0, 1, 2, 298) ∧ cd 111 122 = some ((.getfield 187), 3, 7, 2, 0, 215) ∧ cd 111 125 = some (.ireturn, 1, 0, 0, 0, 0) ∧ cd 111 126 = some ((.new 41), 3, 900, 793, 405, 363) ∧ cd 111 129 = some (.dup, 1, 0, 0, 0, 0) ∧ cd 111 130 = some ((.ldc_w 266), 3, 0, 0, 0, 0) ∧ cd 111 133 = some ((.invokespecial 45), 3, 9009, 1, 2, 405) ∧ cd 111 136 = some (.athrow, 1, 0, 0, 0, 0) ∧ True := conjL_of 111 c111 (by decide +kernel)
theorem Z111 : mZ 111 = 1 ∧ mL 111 = 2 ∧ mK 111 = 0 ∧ hT 111 = [] := ⟨rfl, rfl, rfl, rfl⟩
theorem D112 : cd 112 0 = some ((.iconst 0), 1, 0, 0, 0, 0) ∧ cd 112 1 = some ((.istore_n 1), 1, 0, 0, 0, 0) ∧ cd 112 2 = some ((.iconst 0), 1, 0, 0, 0, 0) ∧ cd 112 3 = some ((.istore_n 2), 1, 0, 0, 0, 0) ∧ cd 112 4 = some ((.iload_n 2), 1, 0, 0, 0, 0) ∧ cd 112 5 = some ((.bipush 12), 2, 0, 0, 0, 0) ∧ cd 112 7 = some ((.if_icmp .ge 24), 3, 31, 0, 0, 0) ∧ cd 112 10 = some ((.aload_n 0), 1, 0, 0, 0, 0) ∧ cd 112 11 = some ((.getfield 26), 3, 2, 3, 2, 155) ∧ cd 112 14 = some ((.iload_n 2), 1, 0, 0, 0, 0) ∧ cd 112 15 = some (.aaload, 1, 0, 0, 0, 0) ∧ cd 112 16 = some ((.getfield 87), 3, 5, 1, 0, 144) ∧ cd 112 19 = some ((.ifCond .le 6), 3, 25, 0, 0, 0) ∧ cd 112 22 = some ((.iinc 1 1), 3, 0, 0, 0, 0) ∧ cd 112 25 = some ((.iinc 2 1), 3, 0, 0, 0, 0) ∧ cd 112 28 = some ((.goto (-24)), 3, 4, 0, 0, 0) ∧ cd 112 31 = some ((.iload_n 1), 1, 0, 0, 0, 0) ∧ cd 112 32 = some (.ireturn, 1, 0, 0, 0, 0) ∧ True := conjL_of 112 c112 (by decide +kernel)
theorem Z112 : mZ 112 = 1 ∧ mL 112 = 3 ∧ mK 112 = 2 ∧ hT 112 = [] := ⟨rfl, rfl, rfl, rfl⟩
theorem D113_0 : cd 113 0 = some ((.aload_n 0), 1, 0, 0, 0, 0) ∧ cd 113 1 = some ((.invokespecial 1), 3, 9001, 0, 2, 799) ∧ cd 113 4 = some ((.aload_n 0), 1, 0, 0, 0, 0) ∧ cd 113 5 = some ((.bipush 26), 2, 0, 0, 0, 0) ∧ cd 113 7 = some ((.putfield 7), 3, 9, 1, 0, 805) ∧ cd 113 10 = some ((.aload_n 0), 1, 0, 0, 0, 0) ∧ cd 113 11 = some ((.sipush 256), 3, 0, 0, 0, 0) ∧ cd 113 14 = some ((.newarray .int), 2, 0, 0, 0, 0) ∧ cd 113 16 = some ((.putfield 13), 3, 9, 2, 2, 806) ∧ cd 113 19 = some ((.aload_n 0), 1, 0, 0, 0, 0) ∧ cd 113 20 = some ((.bipush 8), 2, 0, 0, 0, 0) ∧ cd 113 22 = some ((.newarray .int), 2, 0, 0, 0, 0) ∧ cd 113 24 = some ((.putfield 17), 3, 9, 3, 2, 807) ∧ cd 113 27 = some ((.aload_n 0), 1, 0, 0, 0, 0) ∧ cd 113 28 = some ((.sipush 256), 3, 0, 0, 0, 0) ∧ cd 113 31 = some ((.newarray .boolean), 2, 1, 0, 0, 0) ∧ cd 113 33 = some ((.putfield 20), 3, 9, 4, 2, 808) ∧ cd 113 36 = some ((.aload_n 0), 1, 0, 0, 0, 0) ∧ cd 113 37 = some ((.bipush 6), 2, 0, 0, 0, 0) ∧ cd 113 39 = some ((.newarray .int), 2, 0, 0, 0, 0) ∧ cd 113 41 = some ((.putfield 24), 3, 9, 5, 2, 809) ∧ cd 113 44 = some ((.aload_n 0), 1, 0, 0, 0, 0) ∧ cd 113 45 = some ((.bipush 64), 2, 0, 0, 0, 0) ∧ cd 113 47 = some ((.newarray .int), 2, 0, 0, 0, 0) ∧ cd 113 49 = some ((.putfield 27), 3, 9, 6, 2, 810) ∧ cd 113 52 = some ((.aload_n 0), 1, 0, 0, 0, 0) ∧ cd 113 53 = some ((.bipush 12), 2, 0, 0, 0, 0) ∧ cd 113 55 = some ((.newarray .int), 2, 0, 0, 0, 0) ∧ cd 113 57 = some ((.putfield 30), 3, 9, 8, 2, 812) ∧ cd 113 60 = some ((.aload_n 0), 1, 0, 0, 0, 0) ∧ cd 113 61 = some ((.sipush 768), 3, 0, 0, 0, 0) ∧ cd 113 64 = some ((.newarray .boolean), 2, 1, 0, 0, 0) ∧ cd 113 66 = some ((.putfield 33), 3, 9, 9, 2, 813) ∧ cd 113 69 = some ((.aload_n 0), 1, 0, 0, 0, 0) ∧ cd 113 70 = some ((.bipush 54), 2, 0, 0, 0, 0) ∧ cd 113 72 = some ((.newarray .int), 2, 0, 0, 0, 0) ∧ cd 113 74 = some ((.putfield 36), 3, 9, 10, 2, 814) ∧ cd 113 77 = some ((.aload_n 0), 1, 0, 0, 0, 0) ∧ cd 113 78 = some ((.bipush 18), 2, 0, 0, 0, 0) ∧ cd 113 80 = some ((.newarray .int), 2, 0, 0, 0, 0) ∧ True := conjL_of 113 c113_0 (by decide +kernel)
theorem D113_1 : cd 113 82 = some ((.putfield 39), 3, 9, 13, 2, 817) ∧ cd 113 85 = some ((.aload_n 0), 1, 0, 0, 0, 0) ∧ cd 113 86 = some ((.bipush 18), 2, 0, 0, 0, 0) ∧ cd 113 88 = some ((.newarray .int), 2, 0, 0, 0, 0) ∧ cd 113 90 = some ((.putfield 42), 3, 9, 14, 2, 818) ∧ cd 113 93 = some ((.aload_n 0), 1, 0, 0, 0, 0) ∧ cd 113 94 = some ((.bipush 6), 2, 0, 0, 0, 0) ∧ cd 113 96 = some ((.newarray .boolean), 2, 1, 0, 0, 0) ∧ cd 113 98 = some ((.putfield 45), 3, 9, 15, 2, 819) ∧ cd 113 101 = some ((.aload_n 0), 1, 0, 0, 0, 0) ∧ cd 113 102 = some ((.sipush 720), 3, 0, 0, 0, 0) ∧ cd 113 105 = some ((.newarray .int), 2, 0, 0, 0, 0) ∧ cd 113 107 = some ((.putfield 48), 3, 9, 17, 2, 821) ∧ cd 113 110 = some ((.aload_n 0), 1, 0, 0, 0, 0) ∧ cd 113 111 = some ((.bipush 20), 2, 0, 0, 0, 0) ∧ cd 113 113 = some ((.newarray .int), 2, 0, 0, 0, 0) ∧ cd 113 115 = some ((.putfield 51), 3, 9, 20, 2, 824) ∧ cd 113 118 = some ((.aload_n 0), 1, 0, 0, 0, 0) ∧ cd 113 119 = some ((.sipush 360), 3, 0, 0, 0, 0) ∧ cd 113 122 = some ((.newarray .int), 2, 0, 0, 0, 0) ∧ cd 113 124 = some ((.putfield 54), 3, 9, 21, 2, 825) ∧ cd 113 127 = some ((.aload_n 0), 1, 0, 0, 0, 0) ∧ cd 113 128 = some ((.sipush 1200), 3, 0, 0, 0, 0) ∧ cd 113 131 = some ((.newarray .int), 2, 0, 0, 0, 0) ∧ cd 113 133 = some ((.putfield 57), 3, 9, 22, 2, 826) ∧ cd 113 136 = some ((.aload_n 0), 1, 0, 0, 0, 0) ∧ cd 113 137 = some ((.sipush 1200), 3, 0, 0, 0, 0) ∧ cd 113 140 = some ((.newarray .int), 2, 0, 0, 0, 0) ∧ cd 113 142 = some ((.putfield 60), 3, 9, 23, 2, 827) ∧ cd 113 145 = some ((.aload_n 0), 1, 0, 0, 0, 0) ∧ cd 113 146 = some ((.invokevirtual 63), 3, 114, 0, 1, 800) ∧ cd 113 149 = some (.return_, 1, 0, 0, 0, 0) ∧ True := conjL_of 113 c113_1 (by decide +kernel)
theorem Z113 : mZ 113 = 0 ∧ mL 113 = 1 ∧ mK 113 = 9 ∧ hT 113 = [] := ⟨rfl, rfl, rfl, rfl⟩
theorem D114_0 : cd 114 0 = some ((.iconst 0), 1, 0, 0, 0, 0) ∧ cd 114 1 = some ((.istore_n 1), 1, 0, 0, 0, 0) ∧ cd 114 2 = some ((.iload_n 1), 1, 0, 0, 0, 0) ∧ cd 114 3 = some ((.sipush 256), 3, 0, 0, 0, 0) ∧ cd 114 6 = some ((.if_icmp .ge 26), 3, 32, 0, 0, 0) ∧ cd 114 9 = some ((.aload_n 0), 1, 0, 0, 0, 0) ∧ cd 114 10 = some ((.getfield 13), 3, 9, 2, 2, 806) ∧ cd 114 13 = some ((.iload_n 1), 1, 0, 0, 0, 0) ∧ cd 114 14 = some ((.iload_n 1), 1, 0, 0, 0, 0) ∧ cd 114 15 = some ((.bipush 32), 2, 0, 0, 0, 0) ∧ cd 114 17 = some (.irem, 1, 0, 0, 0, 0) ∧ cd 114 18 = some (.iastore, 1, 0, 0, 0, 0) ∧ cd 114 19 = some ((.aload_n 0), 1, 0, 0, 0, 0) ∧ cd 114 20 = some ((.getfield 20), 3, 9, 4, 2, 808) ∧ cd 114 23 = some ((.iload_n 1), 1, 0, 0, 0, 0) ∧ cd 114 24 = some ((.iconst 0), 1, 0, 0, 0, 0) ∧ cd 114 25 = some (.bastore, 1, 0, 0, 0, 0) ∧ cd 114 26 = some ((.iinc 1 1), 3, 0, 0, 0, 0) ∧ cd 114 29 = some ((.goto (-27)), 3, 2, 0, 0, 0) ∧ cd 114 32 = some ((.iconst 0), 1, 0, 0, 0, 0) ∧ cd 114 33 = some ((.istore_n 1), 1, 0, 0, 0, 0) ∧ cd 114 34 = some ((.iload_n 1), 1, 0, 0, 0, 0) ∧ cd 114 35 = some ((.bipush 64), 2, 0, 0, 0, 0) ∧ cd 114 37 = some ((.if_icmp .ge 19), 3, 56, 0, 0, 0) ∧ cd 114 40 = some ((.aload_n 0), 1, 0, 0, 0, 0) ∧ cd 114 41 = some ((.getfield 27), 3, 9, 6, 2, 810) ∧ cd 114 44 = some ((.iload_n 1), 1, 0, 0, 0, 0) ∧ cd 114 45 = some ((.iload_n 1), 1, 0, 0, 0, 0) ∧ cd 114 46 = some ((.bipush 32), 2, 0, 0, 0, 0) ∧ cd 114 48 = some (.irem, 1, 0, 0, 0, 0) ∧ cd 114 49 = some (.iastore, 1, 0, 0, 0, 0) ∧ cd 114 50 = some ((.iinc 1 1), 3, 0, 0, 0, 0) ∧ cd 114 53 = some ((.goto (-19)), 3, 34, 0, 0, 0) ∧ cd 114 56 = some ((.iconst 0), 1, 0, 0, 0, 0) ∧ cd 114 57 = some ((.istore_n 1), 1, 0, 0, 0, 0) ∧ cd 114 58 = some ((.iload_n 1), 1, 0, 0, 0, 0) ∧ cd 114 59 = some ((.bipush 8), 2, 0, 0, 0, 0) ∧ cd 114 61 = some ((.if_icmp .ge 16), 3, 77, 0, 0, 0) ∧ cd 114 64 = some ((.aload_n 0), 1, 0, 0, 0, 0) ∧ cd 114 65 = some ((.getfield 17), 3, 9, 3, 2, 807) ∧ True := conjL_of 114 c114_0 (by decide +kernel)
theorem D114_1 : cd 114 68 = some ((.iload_n 1), 1, 0, 0, 0, 0) ∧ cd 114 69 = some ((.iconst 0), 1, 0, 0, 0, 0) ∧ cd 114 70 = some (.iastore, 1, 0, 0, 0, 0) ∧ cd 114 71 = some ((.iinc 1 1), 3, 0, 0, 0, 0) ∧ cd 114 74 = some ((.goto (-16)), 3, 58, 0, 0, 0) ∧ cd 114 77 = some ((.iconst 0), 1, 0, 0, 0, 0) ∧ cd 114 78 = some ((.istore_n 1), 1, 0, 0, 0, 0) ∧ cd 114 79 = some ((.iload_n 1), 1, 0, 0, 0, 0) ∧ cd 114 80 = some ((.bipush 6), 2, 0, 0, 0, 0) ∧ cd 114 82 = some ((.if_icmp .ge 16), 3, 98, 0, 0, 0) ∧ cd 114 85 = some ((.aload_n 0), 1, 0, 0, 0, 0) ∧ cd 114 86 = some ((.getfield 24), 3, 9, 5, 2, 809) ∧ cd 114 89 = some ((.iload_n 1), 1, 0, 0, 0, 0) ∧ cd 114 90 = some ((.iconst (-1)), 1, 0, 0, 0, 0) ∧ cd 114 91 = some (.iastore, 1, 0, 0, 0, 0) ∧ cd 114 92 = some ((.iinc 1 1), 3, 0, 0, 0, 0) ∧ cd 114 95 = some ((.goto (-16)), 3, 79, 0, 0, 0) ∧ cd 114 98 = some ((.iconst 0), 1, 0, 0, 0, 0) ∧ cd 114 99 = some ((.istore_n 1), 1, 0, 0, 0, 0) ∧ cd 114 100 = some ((.iload_n 1), 1, 0, 0, 0, 0) ∧ cd 114 101 = some ((.bipush 12), 2, 0, 0, 0, 0) ∧ cd 114 103 = some ((.if_icmp .ge 16), 3, 119, 0, 0, 0) ∧ cd 114 106 = some ((.aload_n 0), 1, 0, 0, 0, 0) ∧ cd 114 107 = some ((.getfield 30), 3, 9, 8, 2, 812) ∧ cd 114 110 = some ((.iload_n 1), 1, 0, 0, 0, 0) ∧ cd 114 111 = some ((.iconst 0), 1, 0, 0, 0, 0) ∧ cd 114 112 = some (.iastore, 1, 0, 0, 0, 0) ∧ cd 114 113 = some ((.iinc 1 1), 3, 0, 0, 0, 0) ∧ cd 114 116 = some ((.goto (-16)), 3, 100, 0, 0, 0) ∧ cd 114 119 = some ((.iconst 0), 1, 0, 0, 0, 0) ∧ cd 114 120 = some ((.istore_n 1), 1, 0, 0, 0, 0) ∧ cd 114 121 = some ((.iload_n 1), 1, 0, 0, 0, 0) ∧ cd 114 122 = some ((.bipush 54), 2, 0, 0, 0, 0) ∧ cd 114 124 = some ((.if_icmp .ge 16), 3, 140, 0, 0, 0) ∧ cd 114 127 = some ((.aload_n 0), 1, 0, 0, 0, 0) ∧ cd 114 128 = some ((.getfield 36), 3, 9, 10, 2, 814) ∧ cd 114 131 = some ((.iload_n 1), 1, 0, 0, 0, 0) ∧ cd 114 132 = some ((.iconst (-1)), 1, 0, 0, 0, 0) ∧ cd 114 133 = some (.iastore, 1, 0, 0, 0, 0) ∧ cd 114 134 = some ((.iinc 1 1), 3, 0, 0, 0, 0) ∧ True := conjL_of 114 c114_1 (by decide +kernel)
theorem D114_2 : cd 114 137 = some ((.goto (-16)), 3, 121, 0, 0, 0) ∧ cd 114 140 = some ((.iconst 0), 1, 0, 0, 0, 0) ∧ cd 114 141 = some ((.istore_n 1), 1, 0, 0, 0, 0) ∧ cd 114 142 = some ((.iload_n 1), 1, 0, 0, 0, 0) ∧ cd 114 143 = some ((.bipush 18), 2, 0, 0, 0, 0) ∧ cd 114 145 = some ((.if_icmp .ge 16), 3, 161, 0, 0, 0) ∧ cd 114 148 = some ((.aload_n 0), 1, 0, 0, 0, 0) ∧ cd 114 149 = some ((.getfield 39), 3, 9, 13, 2, 817) ∧ cd 114 152 = some ((.iload_n 1), 1, 0, 0, 0, 0) ∧ cd 114 153 = some ((.iconst 0), 1, 0, 0, 0, 0) ∧ cd 114 154 = some (.iastore, 1, 0, 0, 0, 0) ∧ cd 114 155 = some ((.iinc 1 1), 3, 0, 0, 0, 0) ∧ cd 114 158 = some ((.goto (-16)), 3, 142, 0, 0, 0) ∧ cd 114 161 = some ((.aload_n 0), 1, 0, 0, 0, 0) ∧ cd 114 162 = some ((.iconst 0), 1, 0, 0, 0, 0) ∧ cd 114 163 = some ((.putfield 66), 3, 9, 7, 1, 811) ∧ cd 114 166 = some ((.aload_n 0), 1, 0, 0, 0, 0) ∧ cd 114 167 = some ((.iconst 0), 1, 0, 0, 0, 0) ∧ cd 114 168 = some ((.putfield 70), 3, 9, 11, 0, 815) ∧ cd 114 171 = some ((.aload_n 0), 1, 0, 0, 0, 0) ∧ cd 114 172 = some ((.iconst 0), 1, 0, 0, 0, 0) ∧ cd 114 173 = some ((.putfield 73), 3, 9, 12, 0, 816) ∧ cd 114 176 = some ((.aload_n 0), 1, 0, 0, 0, 0) ∧ cd 114 177 = some ((.iconst 0), 1, 0, 0, 0, 0) ∧ cd 114 178 = some ((.putfield 76), 3, 9, 16, 0, 820) ∧ cd 114 181 = some ((.aload_n 0), 1, 0, 0, 0, 0) ∧ cd 114 182 = some ((.iconst 0), 1, 0, 0, 0, 0) ∧ cd 114 183 = some ((.putfield 79), 3, 9, 18, 0, 822) ∧ cd 114 186 = some ((.aload_n 0), 1, 0, 0, 0, 0) ∧ cd 114 187 = some ((.iconst 0), 1, 0, 0, 0, 0) ∧ cd 114 188 = some ((.putfield 82), 3, 9, 19, 1, 823) ∧ cd 114 191 = some (.return_, 1, 0, 0, 0, 0) ∧ True := conjL_of 114 c114_2 (by decide +kernel)
theorem Z114 : mZ 114 = 0 ∧ mL 114 = 2 ∧ mK 114 = 9 ∧ hT 114 = [] := ⟨rfl, rfl, rfl, rfl⟩
theorem D115 : cd 115 0 = some ((.aload_n 0), 1, 0, 0, 0, 0) ∧ cd 115 1 = some ((.getfield 85), 3, 9, 0, 0, 804) ∧ cd 115 4 = some (.ireturn, 1, 0, 0, 0, 0) ∧ True := conjL_of 115 c115 (by decide +kernel)
theorem Z115 : mZ 115 = 1 ∧ mL 115 = 1 ∧ mK 115 = 9 ∧ hT 115 = [] := ⟨rfl, rfl, rfl, rfl⟩
theorem D116 : cd 116 0 = some ((.aload_n 0), 1, 0, 0, 0, 0) ∧ cd 116 1 = some ((.iload_n 1), 1, 0, 0, 0, 0) ∧ cd 116 2 = some ((.bipush 10), 2, 0, 0, 0, 0) ∧ cd 116 4 = some ((.if_icmp .eq 15), 3, 19, 0, 0, 0) ∧ cd 116 7 = some ((.iload_n 1), 1, 0, 0, 0, 0) ∧ cd 116 8 = some ((.bipush 26), 2, 0, 0, 0, 0) ∧ cd 116 10 = some ((.if_icmp .eq 9), 3, 19, 0, 0, 0) ∧ cd 116 13 = some ((.iload_n 1), 1, 0, 0, 0, 0) ∧ cd 116 14 = some ((.bipush 32), 2, 0, 0, 0, 0) ∧ cd 116 16 = some ((.if_icmp .ne 7), 3, 23, 0, 0, 0) ∧ cd 116 19 = some ((.iconst 1), 1, 0, 0, 0, 0) ∧ cd 116 20 = some ((.goto 4), 3, 24, 0, 0, 0) ∧ cd 116 23 = some ((.iconst 0), 1, 0, 0, 0, 0) ∧ cd 116 24 = some ((.aload_n 0), 1, 0, 0, 0, 0) ∧ cd 116 25 = some ((.getfield 82), 3, 9, 19, 1, 823) ∧ cd 116 28 = some ((.ifCond .ne 7), 3, 35, 0, 0, 0) ∧ cd 116 31 = some ((.iconst 1), 1, 0, 0, 0, 0) ∧ cd 116 32 = some ((.goto 4), 3, 36, 0, 0, 0) ∧ cd 116 35 = some ((.iconst 0), 1, 0, 0, 0, 0) ∧ cd 116 36 = some ((.iconst 1), 1, 0, 0, 0, 0) ∧ cd 116 37 = some ((.invokevirtual 88), 3, 117, 3, 1, 885) ∧ cd 116 40 = some ((.ifCond .ne 5), 3, 45, 0, 0, 0) ∧ cd 116 43 = some ((.iconst 0), 1, 0, 0, 0, 0) ∧ cd 116 44 = some (.ireturn, 1, 0, 0, 0, 0) ∧ cd 116 45 = some ((.aload_n 0), 1, 0, 0, 0, 0) ∧ cd 116 46 = some ((.getfield 7), 3, 9, 1, 0, 805) ∧ cd 116 49 = some ((.istore_n 2), 1, 0, 0, 0, 0) ∧ cd 116 50 = some ((.aload_n 0), 1, 0, 0, 0, 0) ∧ cd 116 51 = some ((.iload_n 1), 1, 0, 0, 0, 0) ∧ cd 116 52 = some ((.putfield 7), 3, 9, 1, 0, 805) ∧ cd 116 55 = some ((.aload_n 0), 1, 0, 0, 0, 0) ∧ cd 116 56 = some ((.invokevirtual 63), 3, 114, 0, 1, 800) ∧ cd 116 59 = some ((.iload_n 2), 1, 0, 0, 0, 0) ∧ cd 116 60 = some (.ireturn, 1, 0, 0, 0, 0) ∧ True := conjL_of 116 c116 (by decide +kernel)
theorem Z116 : mZ 116 = 1 ∧ mL 116 = 3 ∧ mK 116 = 9 ∧ hT 116 = [] := ⟨rfl, rfl, rfl, rfl⟩
theorem D117 : cd 117 0 = some ((.aload_n 0), 1, 0, 0, 0, 0) ∧ cd 117 1 = some ((.iload_n 1), 1, 0, 0, 0, 0) ∧ cd 117 2 = some ((.ifCond .ne 7), 3, 9, 0, 0, 0) ∧ cd 117 5 = some ((.iconst 1), 1, 0, 0, 0, 0) ∧ cd 117 6 = some ((.goto 20), 3, 26, 0, 0, 0) ∧ cd 117 9 = some ((.iload_n 2), 1, 0, 0, 0, 0) ∧ cd 117 10 = some ((.ifCond .ne 7), 3, 17, 0, 0, 0) ∧ cd 117 13 = some ((.iconst 2), 1, 0, 0, 0, 0) ∧ cd 117 14 = some ((.goto 12), 3, 26, 0, 0, 0) ∧ cd 117 17 = some ((.iload_n 3), 1, 0, 0, 0, 0) ∧ cd 117 18 = some ((.ifCond .ne 7), 3, 25, 0, 0, 0) ∧ cd 117 21 = some ((.iconst 3), 1, 0, 0, 0, 0) ∧ cd 117 22 = some ((.goto 4), 3, 26, 0, 0, 0) ∧ cd 117 25 = some ((.iconst 0), 1, 0, 0, 0, 0) ∧ cd 117 26 = some ((.putfield 85), 3, 9, 0, 0, 804) ∧ cd 117 29 = some ((.aload_n 0), 1, 0, 0, 0, 0) ∧ cd 117 30 = some ((.getfield 85), 3, 9, 0, 0, 804) ∧ cd 117 33 = some ((.ifCond .ne 7), 3, 40, 0, 0, 0) ∧ cd 117 36 = some ((.iconst 1), 1, 0, 0, 0, 0) ∧ cd 117 37 = some ((.goto 4), 3, 41, 0, 0, 0) ∧ cd 117 40 = some ((.iconst 0), 1, 0, 0, 0, 0) ∧ cd 117 41 = some (.ireturn, 1, 0, 0, 0, 0) ∧ True := conjL_of 117 c117 (by decide +kernel)
theorem Z117 : mZ 117 = 2 ∧ mL 117 = 4 ∧ mK 117 = 9 ∧ hT 117 = [] := ⟨rfl, rfl, rfl, rfl⟩
theorem D118_0 : cd 118 0 = some ((.aload_n 0), 1, 0, 0, 0, 0) ∧ cd 118 1 = some ((.iload_n 1), 1, 0, 0, 0, 0) ∧ cd 118 2 = some ((.iconst 0), 1, 0, 0, 0, 0) ∧ cd 118 3 = some ((.bipush 7), 2, 0, 0, 0, 0) ∧ cd 118 5 = some ((.invokestatic 92), 3, 119, 3, 0, 893) ∧ cd 118 8 = some ((.ifCond .eq 23), 3, 31, 0, 0, 0) ∧ cd 118 11 = some ((.aload_n 0), 1, 0, 0, 0, 0) ∧ cd 118 12 = some ((.iload_n 2), 1, 0, 0, 0, 0) ∧ cd 118 13 = some ((.invokevirtual 96), 3, 120, 1, 1, 896) ∧ cd 118 16 = some ((.ifCond .eq 15), 3, 31, 0, 0, 0) ∧ cd 118 19 = some ((.aload_n 0), 1, 0, 0, 0, 0) ∧ cd 118 20 = some ((.iload_n 3), 1, 0, 0, 0, 0) ∧ cd 118 21 = some ((.invokevirtual 96), 3, 120, 1, 1, 896) ∧ cd 118 24 = some ((.ifCond .eq 7), 3, 31, 0, 0, 0) ∧ cd 118 27 = some ((.iconst 1), 1, 0, 0, 0, 0) ∧ cd 118 28 = some ((.goto 4), 3, 32, 0, 0, 0) ∧ cd 118 31 = some ((.iconst 0), 1, 0, 0, 0, 0) ∧ cd 118 32 = some ((.aload_n 0), 1, 0, 0, 0, 0) ∧ cd 118 33 = some ((.getfield 82), 3, 9, 19, 1, 823) ∧ cd 118 36 = some ((.ifCond .ne 7), 3, 43, 0, 0, 0) ∧ cd 118 39 = some ((.iconst 1), 1, 0, 0, 0, 0) ∧ cd 118 40 = some ((.goto 4), 3, 44, 0, 0, 0) ∧ cd 118 43 = some ((.iconst 0), 1, 0, 0, 0, 0) ∧ cd 118 44 = some ((.iconst 1), 1, 0, 0, 0, 0) ∧ cd 118 45 = some ((.invokevirtual 88), 3, 117, 3, 1, 885) ∧ cd 118 48 = some ((.ifCond .ne 5), 3, 53, 0, 0, 0) ∧ cd 118 51 = some ((.iconst 0), 1, 0, 0, 0, 0) ∧ cd 118 52 = some (.ireturn, 1, 0, 0, 0, 0) ∧ cd 118 53 = some ((.iconst 0), 1, 0, 0, 0, 0) ∧ cd 118 54 = some ((.istore 4), 2, 0, 0, 0, 0) ∧ cd 118 56 = some ((.aload_n 0), 1, 0, 0, 0, 0) ∧ cd 118 57 = some ((.getfield 13), 3, 9, 2, 2, 806) ∧ cd 118 60 = some ((.bipush 32), 2, 0, 0, 0, 0) ∧ cd 118 62 = some ((.iload_n 1), 1, 0, 0, 0, 0) ∧ cd 118 63 = some (.imul, 1, 0, 0, 0, 0) ∧ cd 118 64 = some ((.iload 4), 2, 0, 0, 0, 0) ∧ cd 118 66 = some (.iadd, 1, 0, 0, 0, 0) ∧ cd 118 67 = some (.iaload, 1, 0, 0, 0, 0) ∧ cd 118 68 = some ((.iload_n 3), 1, 0, 0, 0, 0) ∧ cd 118 69 = some ((.if_icmp .eq 9), 3, 78, 0, 0, 0) ∧ True := conjL_of 118 c118_0 (by decide +kernel)
theorem D118_1 : cd 118 72 = some ((.iinc 4 1), 3, 0, 0, 0, 0) ∧ cd 118 75 = some ((.goto (-19)), 3, 56, 0, 0, 0) ∧ cd 118 78 = some ((.aload_n 0), 1, 0, 0, 0, 0) ∧ cd 118 79 = some ((.getfield 13), 3, 9, 2, 2, 806) ∧ cd 118 82 = some ((.bipush 32), 2, 0, 0, 0, 0) ∧ cd 118 84 = some ((.iload_n 1), 1, 0, 0, 0, 0) ∧ cd 118 85 = some (.imul, 1, 0, 0, 0, 0) ∧ cd 118 86 = some ((.iload 4), 2, 0, 0, 0, 0) ∧ cd 118 88 = some (.iadd, 1, 0, 0, 0, 0) ∧ cd 118 89 = some ((.aload_n 0), 1, 0, 0, 0, 0) ∧ cd 118 90 = some ((.getfield 13), 3, 9, 2, 2, 806) ∧ cd 118 93 = some ((.bipush 32), 2, 0, 0, 0, 0) ∧ cd 118 95 = some ((.iload_n 1), 1, 0, 0, 0, 0) ∧ cd 118 96 = some (.imul, 1, 0, 0, 0, 0) ∧ cd 118 97 = some ((.iload_n 2), 1, 0, 0, 0, 0) ∧ cd 118 98 = some (.iadd, 1, 0, 0, 0, 0) ∧ cd 118 99 = some (.iaload, 1, 0, 0, 0, 0) ∧ cd 118 100 = some (.iastore, 1, 0, 0, 0, 0) ∧ cd 118 101 = some ((.aload_n 0), 1, 0, 0, 0, 0) ∧ cd 118 102 = some ((.getfield 13), 3, 9, 2, 2, 806) ∧ cd 118 105 = some ((.bipush 32), 2, 0, 0, 0, 0) ∧ cd 118 107 = some ((.iload_n 1), 1, 0, 0, 0, 0) ∧ cd 118 108 = some (.imul, 1, 0, 0, 0, 0) ∧ cd 118 109 = some ((.iload_n 2), 1, 0, 0, 0, 0) ∧ cd 118 110 = some (.iadd, 1, 0, 0, 0, 0) ∧ cd 118 111 = some ((.iload_n 3), 1, 0, 0, 0, 0) ∧ cd 118 112 = some (.iastore, 1, 0, 0, 0, 0) ∧ cd 118 113 = some ((.iload 4), 2, 0, 0, 0, 0) ∧ cd 118 115 = some (.ireturn, 1, 0, 0, 0, 0) ∧ True := conjL_of 118 c118_1 (by decide +kernel)
theorem Z118 : mZ 118 = 1 ∧ mL 118 = 5 ∧ mK 118 = 9 ∧ hT 118 = [] := ⟨rfl, rfl, rfl, rfl⟩
theorem D119 : cd 119 0 = some ((.iload_n 0), 1, 0, 0, 0, 0) ∧ cd 119 1 = some ((.iload_n 1), 1, 0, 0, 0, 0) ∧ cd 119 2 = some ((.if_icmp .lt 12), 3, 14, 0, 0, 0) ∧ cd 119 5 = some ((.iload_n 0), 1, 0, 0, 0, 0) ∧ cd 119 6 = some ((.iload_n 2), 1, 0, 0, 0, 0) ∧ cd 119 7 = some ((.if_icmp .gt 7), 3, 14, 0, 0, 0) ∧ cd 119 10 = some ((.iconst 1), 1, 0, 0, 0, 0) ∧ cd 119 11 = some ((.goto 4), 3, 15, 0, 0, 0) ∧ cd 119 14 = some ((.iconst 0), 1, 0, 0, 0, 0) ∧ cd 119 15 = some (.ireturn, 1, 0, 0, 0, 0) ∧ True := conjL_of 119 c119 (by decide +kernel)
theorem Z119 : mZ 119 = 2 ∧ mL 119 = 3 ∧ mK 119 = 9 ∧ hT 119 = [] := ⟨rfl, rfl, rfl, rfl⟩
theorem D120 : cd 120 0 = some ((.iload_n 1), 1, 0, 0, 0, 0) ∧ cd 120 1 = some ((.ifCond .lt 15), 3, 16, 0, 0, 0) ∧ cd 120 4 = some ((.iload_n 1), 1, 0, 0, 0, 0) ∧ cd 120 5 = some ((.aload_n 0), 1, 0, 0, 0, 0) ∧ cd 120 6 = some ((.getfield 7), 3, 9, 1, 0, 805) ∧ cd 120 9 = some ((.if_icmp .ge 7), 3, 16, 0, 0, 0) ∧ cd 120 12 = some ((.iconst 1), 1, 0, 0, 0, 0) ∧ cd 120 13 = some ((.goto 4), 3, 17, 0, 0, 0) ∧ cd 120 16 = some ((.iconst 0), 1, 0, 0, 0, 0) ∧ cd 120 17 = some (.ireturn, 1, 0, 0, 0, 0) ∧ True := conjL_of 120 c120 (by decide +kernel)
theorem Z120 : mZ 120 = 2 ∧ mL 120 = 2 ∧ mK 120 = 9 ∧ hT 120 = [] := ⟨rfl, rfl, rfl, rfl⟩
theorem D121 : cd 121 0 = some ((.aload_n 0), 1, 0, 0, 0, 0) ∧ cd 121 1 = some ((.iload_n 1), 1, 0, 0, 0, 0) ∧ cd 121 2 = some ((.iconst 0), 1, 0, 0, 0, 0) ∧ cd 121 3 = some ((.bipush 7), 2, 0, 0, 0, 0) ∧ cd 121 5 = some ((.invokestatic 92), 3, 119, 3, 0, 893) ∧ cd 121 8 = some ((.ifCond .eq 15), 3, 23, 0, 0, 0) ∧ cd 121 11 = some ((.aload_n 0), 1, 0, 0, 0, 0) ∧ cd 121 12 = some ((.iload_n 2), 1, 0, 0, 0, 0) ∧ cd 121 13 = some ((.invokevirtual 96), 3, 120, 1, 1, 896) ∧ cd 121 16 = some ((.ifCond .eq 7), 3, 23, 0, 0, 0) ∧ cd 121 19 = some ((.iconst 1), 1, 0, 0, 0, 0) ∧ cd 121 20 = some ((.goto 4), 3, 24, 0, 0, 0) ∧ cd 121 23 = some ((.iconst 0), 1, 0, 0, 0, 0) ∧ cd 121 24 = some ((.aload_n 0), 1, 0, 0, 0, 0) ∧ cd 121 25 = some ((.getfield 82), 3, 9, 19, 1, 823) ∧ cd 121 28 = some ((.ifCond .ne 7), 3, 35, 0, 0, 0) ∧ cd 121 31 = some ((.iconst 1), 1, 0, 0, 0, 0) ∧ cd 121 32 = some ((.goto 4), 3, 36, 0, 0, 0) ∧ cd 121 35 = some ((.iconst 0), 1, 0, 0, 0, 0) ∧ cd 121 36 = some ((.iconst 1), 1, 0, 0, 0, 0) ∧ cd 121 37 = some ((.invokevirtual 88), 3, 117, 3, 1, 885) ∧ cd 121 40 = some ((.ifCond .ne 5), 3, 45, 0, 0, 0) ∧ cd 121 43 = some ((.iconst 0), 1, 0, 0, 0, 0) ∧ cd 121 44 = some (.ireturn, 1, 0, 0, 0, 0) ∧ cd 121 45 = some ((.aload_n 0), 1, 0, 0, 0, 0) ∧ cd 121 46 = some ((.getfield 17), 3, 9, 3, 2, 807) ∧ cd 121 49 = some ((.iload_n 1), 1, 0, 0, 0, 0) ∧ cd 121 50 = some (.iaload, 1, 0, 0, 0, 0) ∧ cd 121 51 = some ((.istore_n 3), 1, 0, 0, 0, 0) ∧ cd 121 52 = some ((.aload_n 0), 1, 0, 0, 0, 0) ∧ cd 121 53 = some ((.getfield 17), 3, 9, 3, 2, 807) ∧ cd 121 56 = some ((.iload_n 1), 1, 0, 0, 0, 0) ∧ cd 121 57 = some ((.iload_n 2), 1, 0, 0, 0, 0) ∧ cd 121 58 = some (.iastore, 1, 0, 0, 0, 0) ∧ cd 121 59 = some ((.iload_n 3), 1, 0, 0, 0, 0) ∧ cd 121 60 = some (.ireturn, 1, 0, 0, 0, 0) ∧ True := conjL_of 121 c121 (by decide +kernel)
theorem Z121 : mZ 121 = 1 ∧ mL 121 = 4 ∧ mK 121 = 9 ∧ hT 121 = [] := ⟨rfl, rfl, rfl, rfl⟩
theorem D122 : cd 122 0 = some ((.aload_n 0), 1, 0, 0, 0, 0) ∧ cd 122 1 = some ((.iload_n 1), 1, 0, 0, 0, 0) ∧ cd 122 2 = some ((.iconst 0), 1, 0, 0, 0, 0) ∧ cd 122 3 = some ((.bipush 7), 2, 0, 0, 0, 0) ∧ cd 122 5 = some ((.invokestatic 92), 3, 119, 3, 0, 893) ∧ cd 122 8 = some ((.ifCond .eq 15), 3, 23, 0, 0, 0) ∧ cd 122 11 = some ((.aload_n 0), 1, 0, 0, 0, 0) ∧ cd 122 12 = some ((.iload_n 2), 1, 0, 0, 0, 0) ∧ cd 122 13 = some ((.invokevirtual 96), 3, 120, 1, 1, 896) ∧ cd 122 16 = some ((.ifCond .eq 7), 3, 23, 0, 0, 0) ∧ cd 122 19 = some ((.iconst 1), 1, 0, 0, 0, 0) ∧ cd 122 20 = some ((.goto 4), 3, 24, 0, 0, 0) ∧ cd 122 23 = some ((.iconst 0), 1, 0, 0, 0, 0) ∧ cd 122 24 = some ((.aload_n 0), 1, 0, 0, 0, 0) ∧ cd 122 25 = some ((.getfield 82), 3, 9, 19, 1, 823) ∧ cd 122 28 = some ((.ifCond .ne 7), 3, 35, 0, 0, 0) ∧ cd 122 31 = some ((.iconst 1), 1, 0, 0, 0, 0) ∧ cd 122 32 = some ((.goto 4), 3, 36, 0, 0, 0) ∧ cd 122 35 = some ((.iconst 0), 1, 0, 0, 0, 0) ∧ cd 122 36 = some ((.iconst 1), 1, 0, 0, 0, 0) ∧ cd 122 37 = some ((.invokevirtual 88), 3, 117, 3, 1, 885) ∧ cd 122 40 = some ((.ifCond .ne 5), 3, 45, 0, 0, 0) ∧ cd 122 43 = some ((.iconst 0), 1, 0, 0, 0, 0) ∧ cd 122 44 = some (.ireturn, 1, 0, 0, 0, 0) ∧ cd 122 45 = some ((.aload_n 0), 1, 0, 0, 0, 0) ∧ cd 122 46 = some ((.getfield 20), 3, 9, 4, 2, 808) ∧ cd 122 49 = some ((.bipush 32), 2, 0, 0, 0, 0) ∧ cd 122 51 = some ((.iload_n 1), 1, 0, 0, 0, 0) ∧ cd 122 52 = some (.imul, 1, 0, 0, 0, 0) ∧ cd 122 53 = some ((.iload_n 2), 1, 0, 0, 0, 0) ∧ cd 122 54 = some (.iadd, 1, 0, 0, 0, 0) ∧ cd 122 55 = some (.baload, 1, 0, 0, 0, 0) ∧ cd 122 56 = some ((.istore 4), 2, 0, 0, 0, 0) ∧ cd 122 58 = some ((.aload_n 0), 1, 0, 0, 0, 0) ∧ cd 122 59 = some ((.getfield 20), 3, 9, 4, 2, 808) ∧ cd 122 62 = some ((.bipush 32), 2, 0, 0, 0, 0) ∧ cd 122 64 = some ((.iload_n 1), 1, 0, 0, 0, 0) ∧ cd 122 65 = some (.imul, 1, 0, 0, 0, 0) ∧ cd 122 66 = some ((.iload_n 2), 1, 0, 0, 0, 0) ∧ cd 122 67 = some (.iadd, 1, 0, 0, 0, 0) ∧ cd 122 68 = some ((.iload_n 3), 1, 0, 0, 0, 0) ∧ cd 122 69 = some (.bastore, 1, 0, 0, 0, 0) ∧ cd 122 70 = some ((.iload 4), 2, 0, 0, 0, 0) ∧ cd 122 72 = some ((.iload_n 3), 1, 0, 0, 0, 0) ∧ cd 122 73 = some ((.if_icmp .eq 7), 3, 80, 0, 0, 0) ∧ cd 122 76 = some ((.iconst 1), 1, 0, 0, 0, 0) ∧ cd 122 77 = some ((.goto 4), 3, 81, 0, 0, 0) ∧ cd 122 80 = some ((.iconst 0), 1, 0, 0, 0, 0) ∧ cd 122 81 = some (.ireturn, 1, 0, 0, 0, 0) ∧ True := conjL_of 122 c122 (by decide +kernel)
theorem Z122 : mZ 122 = 2 ∧ mL 122 = 5 ∧ mK 122 = 9 ∧ hT 122 = [] := ⟨rfl, rfl, rfl, rfl⟩
theorem D123_0 : cd 123 0 = some ((.iconst 0), 1, 0, 0, 0, 0) ∧ cd 123 1 = some ((.istore_n 3), 1, 0, 0, 0, 0) ∧ cd 123 2 = some ((.iconst 0), 1, 0, 0, 0, 0) ∧ cd 123 3 = some ((.istore 4), 2, 0, 0, 0, 0) ∧ cd 123 5 = some ((.iload 4), 2, 0, 0, 0, 0) ∧ cd 123 7 = some ((.bipush 6), 2, 0, 0, 0, 0) ∧ cd 123 9 = some ((.if_icmp .ge 41), 3, 50, 0, 0, 0) ∧ cd 123 12 = some ((.iload_n 3), 1, 0, 0, 0, 0) ∧ cd 123 13 = some ((.ifCond .ne 25), 3, 38, 0, 0, 0) ∧ cd 123 16 = some ((.iload 4), 2, 0, 0, 0, 0) ∧ cd 123 18 = some ((.iload_n 1), 1, 0, 0, 0, 0) ∧ cd 123 19 = some ((.if_icmp .eq 23), 3, 42, 0, 0, 0) ∧ cd 123 22 = some ((.iload_n 2), 1, 0, 0, 0, 0) ∧ cd 123 23 = some ((.iconst (-1)), 1, 0, 0, 0, 0) ∧ cd 123 24 = some ((.if_icmp .eq 18), 3, 42, 0, 0, 0) ∧ cd 123 27 = some ((.aload_n 0), 1, 0, 0, 0, 0) ∧ cd 123 28 = some ((.getfield 24), 3, 9, 5, 2, 809) ∧ cd 123 31 = some ((.iload 4), 2, 0, 0, 0, 0) ∧ cd 123 33 = some (.iaload, 1, 0, 0, 0, 0) ∧ cd 123 34 = some ((.iload_n 2), 1, 0, 0, 0, 0) ∧ cd 123 35 = some ((.if_icmp .ne 7), 3, 42, 0, 0, 0) ∧ cd 123 38 = some ((.iconst 1), 1, 0, 0, 0, 0) ∧ cd 123 39 = some ((.goto 4), 3, 43, 0, 0, 0) ∧ cd 123 42 = some ((.iconst 0), 1, 0, 0, 0, 0) ∧ cd 123 43 = some ((.istore_n 3), 1, 0, 0, 0, 0) ∧ cd 123 44 = some ((.iinc 4 1), 3, 0, 0, 0, 0) ∧ cd 123 47 = some ((.goto (-42)), 3, 5, 0, 0, 0) ∧ cd 123 50 = some ((.aload_n 0), 1, 0, 0, 0, 0) ∧ cd 123 51 = some ((.iload_n 1), 1, 0, 0, 0, 0) ∧ cd 123 52 = some ((.iconst 0), 1, 0, 0, 0, 0) ∧ cd 123 53 = some ((.iconst 5), 1, 0, 0, 0, 0) ∧ cd 123 54 = some ((.invokestatic 92), 3, 119, 3, 0, 893) ∧ cd 123 57 = some ((.ifCond .eq 17), 3, 74, 0, 0, 0) ∧ cd 123 60 = some ((.iload_n 2), 1, 0, 0, 0, 0) ∧ cd 123 61 = some ((.iconst (-1)), 1, 0, 0, 0, 0) ∧ cd 123 62 = some ((.bipush 7), 2, 0, 0, 0, 0) ∧ cd 123 64 = some ((.invokestatic 92), 3, 119, 3, 0, 893) ∧ cd 123 67 = some ((.ifCond .eq 7), 3, 74, 0, 0, 0) ∧ cd 123 70 = some ((.iconst 1), 1, 0, 0, 0, 0) ∧ cd 123 71 = some ((.goto 4), 3, 75, 0, 0, 0) ∧ True := conjL_of 123 c123_0 (by decide +kernel)
theorem D123_1 : cd 123 74 = some ((.iconst 0), 1, 0, 0, 0, 0) ∧ cd 123 75 = some ((.aload_n 0), 1, 0, 0, 0, 0) ∧ cd 123 76 = some ((.getfield 82), 3, 9, 19, 1, 823) ∧ cd 123 79 = some ((.ifCond .ne 11), 3, 90, 0, 0, 0) ∧ cd 123 82 = some ((.iload_n 3), 1, 0, 0, 0, 0) ∧ cd 123 83 = some ((.ifCond .ne 7), 3, 90, 0, 0, 0) ∧ cd 123 86 = some ((.iconst 1), 1, 0, 0, 0, 0) ∧ cd 123 87 = some ((.goto 4), 3, 91, 0, 0, 0) ∧ cd 123 90 = some ((.iconst 0), 1, 0, 0, 0, 0) ∧ cd 123 91 = some ((.iconst 1), 1, 0, 0, 0, 0) ∧ cd 123 92 = some ((.invokevirtual 88), 3, 117, 3, 1, 885) ∧ cd 123 95 = some ((.ifCond .ne 5), 3, 100, 0, 0, 0) ∧ cd 123 98 = some ((.iconst 0), 1, 0, 0, 0, 0) ∧ cd 123 99 = some (.ireturn, 1, 0, 0, 0, 0) ∧ cd 123 100 = some ((.aload_n 0), 1, 0, 0, 0, 0) ∧ cd 123 101 = some ((.getfield 24), 3, 9, 5, 2, 809) ∧ cd 123 104 = some ((.iload_n 1), 1, 0, 0, 0, 0) ∧ cd 123 105 = some (.iaload, 1, 0, 0, 0, 0) ∧ cd 123 106 = some ((.istore 4), 2, 0, 0, 0, 0) ∧ cd 123 108 = some ((.aload_n 0), 1, 0, 0, 0, 0) ∧ cd 123 109 = some ((.getfield 24), 3, 9, 5, 2, 809) ∧ cd 123 112 = some ((.iload_n 1), 1, 0, 0, 0, 0) ∧ cd 123 113 = some ((.iload_n 2), 1, 0, 0, 0, 0) ∧ cd 123 114 = some (.iastore, 1, 0, 0, 0, 0) ∧ cd 123 115 = some ((.iload 4), 2, 0, 0, 0, 0) ∧ cd 123 117 = some (.ireturn, 1, 0, 0, 0, 0) ∧ True := conjL_of 123 c123_1 (by decide +kernel)
theorem Z123 : mZ 123 = 1 ∧ mL 123 = 5 ∧ mK 123 = 9 ∧ hT 123 = [] := ⟨rfl, rfl, rfl, rfl⟩
theorem D124_0 : cd 124 0 = some ((.iload_n 1), 1, 0, 0, 0, 0) ∧ cd 124 1 = some ((.iconst 0), 1, 0, 0, 0, 0) ∧ cd 124 2 = some ((.iconst 1), 1, 0, 0, 0, 0) ∧ cd 124 3 = some ((.invokestatic 92), 3, 119, 3, 0, 893) ∧ cd 124 6 = some ((.ifCond .eq 23), 3, 29, 0, 0, 0) ∧ cd 124 9 = some ((.aload_n 0), 1, 0, 0, 0, 0) ∧ cd 124 10 = some ((.iload_n 2), 1, 0, 0, 0, 0) ∧ cd 124 11 = some ((.invokevirtual 96), 3, 120, 1, 1, 896) ∧ cd 124 14 = some ((.ifCond .eq 15), 3, 29, 0, 0, 0) ∧ cd 124 17 = some ((.aload_n 0), 1, 0, 0, 0, 0) ∧ cd 124 18 = some ((.iload_n 3), 1, 0, 0, 0, 0) ∧ cd 124 19 = some ((.invokevirtual 96), 3, 120, 1, 1, 896) ∧ cd 124 22 = some ((.ifCond .eq 7), 3, 29, 0, 0, 0) ∧ cd 124 25 = some ((.iconst 1), 1, 0, 0, 0, 0) ∧ cd 124 26 = some ((.goto 4), 3, 30, 0, 0, 0) ∧ cd 124 29 = some ((.iconst 0), 1, 0, 0, 0, 0) ∧ cd 124 30 = some ((.istore 4), 2, 0, 0, 0, 0) ∧ cd 124 32 = some ((.aload_n 0), 1, 0, 0, 0, 0) ∧ cd 124 33 = some ((.iload 4), 2, 0, 0, 0, 0) ∧ cd 124 35 = some ((.iload_n 2), 1, 0, 0, 0, 0) ∧ cd 124 36 = some ((.iload_n 3), 1, 0, 0, 0, 0) ∧ cd 124 37 = some ((.if_icmp .eq 7), 3, 44, 0, 0, 0) ∧ cd 124 40 = some ((.iconst 1), 1, 0, 0, 0, 0) ∧ cd 124 41 = some ((.goto 4), 3, 45, 0, 0, 0) ∧ cd 124 44 = some ((.iconst 0), 1, 0, 0, 0, 0) ∧ cd 124 45 = some ((.aload_n 0), 1, 0, 0, 0, 0) ∧ cd 124 46 = some ((.getfield 82), 3, 9, 19, 1, 823) ∧ cd 124 49 = some ((.ifCond .ne 30), 3, 79, 0, 0, 0) ∧ cd 124 52 = some ((.iload 4), 2, 0, 0, 0, 0) ∧ cd 124 54 = some ((.ifCond .eq 25), 3, 79, 0, 0, 0) ∧ cd 124 57 = some ((.aload_n 0), 1, 0, 0, 0, 0) ∧ cd 124 58 = some ((.iload_n 1), 1, 0, 0, 0, 0) ∧ cd 124 59 = some ((.iload_n 2), 1, 0, 0, 0, 0) ∧ cd 124 60 = some ((.invokevirtual 100), 3, 125, 2, 1, 916) ∧ cd 124 63 = some ((.ifCond .ne 16), 3, 79, 0, 0, 0) ∧ cd 124 66 = some ((.aload_n 0), 1, 0, 0, 0, 0) ∧ cd 124 67 = some ((.iload_n 1), 1, 0, 0, 0, 0) ∧ cd 124 68 = some ((.iload_n 3), 1, 0, 0, 0, 0) ∧ cd 124 69 = some ((.invokevirtual 100), 3, 125, 2, 1, 916) ∧ cd 124 72 = some ((.ifCond .ne 7), 3, 79, 0, 0, 0) ∧ True := conjL_of 124 c124_0 (by decide +kernel)
theorem D124_1 : cd 124 75 = some ((.iconst 1), 1, 0, 0, 0, 0) ∧ cd 124 76 = some ((.goto 4), 3, 80, 0, 0, 0) ∧ cd 124 79 = some ((.iconst 0), 1, 0, 0, 0, 0) ∧ cd 124 80 = some ((.invokevirtual 88), 3, 117, 3, 1, 885) ∧ cd 124 83 = some ((.ifCond .eq 27), 3, 110, 0, 0, 0) ∧ cd 124 86 = some ((.aload_n 0), 1, 0, 0, 0, 0) ∧ cd 124 87 = some ((.getfield 27), 3, 9, 6, 2, 810) ∧ cd 124 90 = some ((.bipush 32), 2, 0, 0, 0, 0) ∧ cd 124 92 = some ((.iload_n 1), 1, 0, 0, 0, 0) ∧ cd 124 93 = some (.imul, 1, 0, 0, 0, 0) ∧ cd 124 94 = some ((.iload_n 2), 1, 0, 0, 0, 0) ∧ cd 124 95 = some (.iadd, 1, 0, 0, 0, 0) ∧ cd 124 96 = some ((.iload_n 3), 1, 0, 0, 0, 0) ∧ cd 124 97 = some (.iastore, 1, 0, 0, 0, 0) ∧ cd 124 98 = some ((.aload_n 0), 1, 0, 0, 0, 0) ∧ cd 124 99 = some ((.getfield 27), 3, 9, 6, 2, 810) ∧ cd 124 102 = some ((.bipush 32), 2, 0, 0, 0, 0) ∧ cd 124 104 = some ((.iload_n 1), 1, 0, 0, 0, 0) ∧ cd 124 105 = some (.imul, 1, 0, 0, 0, 0) ∧ cd 124 106 = some ((.iload_n 3), 1, 0, 0, 0, 0) ∧ cd 124 107 = some (.iadd, 1, 0, 0, 0, 0) ∧ cd 124 108 = some ((.iload_n 2), 1, 0, 0, 0, 0) ∧ cd 124 109 = some (.iastore, 1, 0, 0, 0, 0) ∧ cd 124 110 = some (.return_, 1, 0, 0, 0, 0) ∧ True := conjL_of 124 c124_1 (by decide +kernel)
theorem Z124 : mZ 124 = 0 ∧ mL 124 = 5 ∧ mK 124 = 9 ∧ hT 124 = [] := ⟨rfl, rfl, rfl, rfl⟩
theorem D125 : cd 125 0 = some ((.aload_n 0), 1, 0, 0, 0, 0) ∧ cd 125 1 = some ((.getfield 27), 3, 9, 6, 2, 810) ∧ cd 125 4 = some ((.bipush 32), 2, 0, 0, 0, 0) ∧ cd 125 6 = some ((.iload_n 1), 1, 0, 0, 0, 0) ∧ cd 125 7 = some (.imul, 1, 0, 0, 0, 0) ∧ cd 125 8 = some ((.iload_n 2), 1, 0, 0, 0, 0) ∧ cd 125 9 = some (.iadd, 1, 0, 0, 0, 0) ∧ cd 125 10 = some (.iaload, 1, 0, 0, 0, 0) ∧ cd 125 11 = some ((.iload_n 2), 1, 0, 0, 0, 0) ∧ cd 125 12 = some ((.if_icmp .eq 7), 3, 19, 0, 0, 0) ∧ cd 125 15 = some ((.iconst 1), 1, 0, 0, 0, 0) ∧ cd 125 16 = some ((.goto 4), 3, 20, 0, 0, 0) ∧ cd 125 19 = some ((.iconst 0), 1, 0, 0, 0, 0) ∧ cd 125 20 = some (.ireturn, 1, 0, 0, 0, 0) ∧ True := conjL_of 125 c125 (by decide +kernel)
theorem Z125 : mZ 125 = 2 ∧ mL 125 = 3 ∧ mK 125 = 9 ∧ hT 125 = [] := ⟨rfl, rfl, rfl, rfl⟩
theorem D126 : cd 126 0 = some ((.aload_n 0), 1, 0, 0, 0, 0) ∧ cd 126 1 = some ((.iload_n 1), 1, 0, 0, 0, 0) ∧ cd 126 2 = some ((.iconst 0), 1, 0, 0, 0, 0) ∧ cd 126 3 = some ((.iconst 1), 1, 0, 0, 0, 0) ∧ cd 126 4 = some ((.invokestatic 92), 3, 119, 3, 0, 893) ∧ cd 126 7 = some ((.ifCond .eq 15), 3, 22, 0, 0, 0) ∧ cd 126 10 = some ((.aload_n 0), 1, 0, 0, 0, 0) ∧ cd 126 11 = some ((.iload_n 2), 1, 0, 0, 0, 0) ∧ cd 126 12 = some ((.invokevirtual 96), 3, 120, 1, 1, 896) ∧ cd 126 15 = some ((.ifCond .eq 7), 3, 22, 0, 0, 0) ∧ cd 126 18 = some ((.iconst 1), 1, 0, 0, 0, 0) ∧ cd 126 19 = some ((.goto 4), 3, 23, 0, 0, 0) ∧ cd 126 22 = some ((.iconst 0), 1, 0, 0, 0, 0) ∧ cd 126 23 = some ((.aload_n 0), 1, 0, 0, 0, 0) ∧ cd 126 24 = some ((.getfield 82), 3, 9, 19, 1, 823) ∧ cd 126 27 = some ((.ifCond .ne 7), 3, 34, 0, 0, 0) ∧ cd 126 30 = some ((.iconst 1), 1, 0, 0, 0, 0) ∧ cd 126 31 = some ((.goto 4), 3, 35, 0, 0, 0) ∧ cd 126 34 = some ((.iconst 0), 1, 0, 0, 0, 0) ∧ cd 126 35 = some ((.iconst 1), 1, 0, 0, 0, 0) ∧ cd 126 36 = some ((.invokevirtual 88), 3, 117, 3, 1, 885) ∧ cd 126 39 = some ((.ifCond .ne 5), 3, 44, 0, 0, 0) ∧ cd 126 42 = some ((.iconst 0), 1, 0, 0, 0, 0) ∧ cd 126 43 = some (.ireturn, 1, 0, 0, 0, 0) ∧ cd 126 44 = some ((.aload_n 0), 1, 0, 0, 0, 0) ∧ cd 126 45 = some ((.getfield 27), 3, 9, 6, 2, 810) ∧ cd 126 48 = some ((.bipush 32), 2, 0, 0, 0, 0) ∧ cd 126 50 = some ((.iload_n 1), 1, 0, 0, 0, 0) ∧ cd 126 51 = some (.imul, 1, 0, 0, 0, 0) ∧ cd 126 52 = some ((.iload_n 2), 1, 0, 0, 0, 0) ∧ cd 126 53 = some (.iadd, 1, 0, 0, 0, 0) ∧ cd 126 54 = some (.iaload, 1, 0, 0, 0, 0) ∧ cd 126 55 = some ((.istore_n 3), 1, 0, 0, 0, 0) ∧ cd 126 56 = some ((.aload_n 0), 1, 0, 0, 0, 0) ∧ cd 126 57 = some ((.getfield 27), 3, 9, 6, 2, 810) ∧ cd 126 60 = some ((.bipush 32), 2, 0, 0, 0, 0) ∧ cd 126 62 = some ((.iload_n 1), 1, 0, 0, 0, 0) ∧ cd 126 63 = some (.imul, 1, 0, 0, 0, 0) ∧ cd 126 64 = some ((.iload_n 2), 1, 0, 0, 0, 0) ∧ cd 126 65 = some (.iadd, 1, 0, 0, 0, 0) ∧ cd 126 66 = some ((.iload_n 2), 1, 0, 0, 0, 0) ∧ cd 126 67 = some (.iastore, 1, 0, 0, 0, 0) ∧ cd 126 68 = some ((.aload_n 0), 1, 0, 0, 0, 0) ∧ cd 126 69 = some ((.getfield 27), 3, 9, 6, 2, 810) ∧ cd 126 72 = some ((.bipush 32), 2, 0, 0, 0, 0) ∧ cd 126 74 = some ((.iload_n 1), 1, 0, 0, 0, 0) ∧ cd 126 75 = some (.imul, 1, 0, 0, 0, 0) ∧ cd 126 76 = some ((.iload_n 3), 1, 0, 0, 0, 0) ∧ cd 126 77 = some (.iadd, 1, 0, 0, 0, 0) ∧ cd 126 78 = some ((.iload_n 3), 1, 0, 0, 0, 0) ∧ cd 126 79 = some (.iastore, 1, 0, 0, 0, 0) ∧ cd 126 80 = some ((.iload_n 3), 1, 0, 0, 0, 0) ∧ cd 126 81 = some ((.iload_n 2), 1, 0, 0, 0, 0) ∧ cd 126 82 = some ((.if_icmp .ne 7), 3, 89, 0, 0, 0) ∧ cd 126 85 = some ((.iconst (-1)), 1, 0, 0, 0, 0) ∧ cd 126 86 = some ((.goto 4), 3, 90, 0, 0, 0) ∧ cd 126 89 = some ((.iload_n 3), 1, 0, 0, 0, 0) ∧ cd 126 90 = some (.ireturn, 1, 0, 0, 0, 0) ∧ True := conjL_of 126 c126 (by decide +kernel)
theorem Z126 : mZ 126 = 1 ∧ mL 126 = 4 ∧ mK 126 = 9 ∧ hT 126 = [] := ⟨rfl, rfl, rfl, rfl⟩
theorem D127 : cd 127 0 = some ((.aload_n 0), 1, 0, 0, 0, 0) ∧ cd 127 1 = some ((.aload_n 0), 1, 0, 0, 0, 0) ∧ cd 127 2 = some ((.getfield 82), 3, 9, 19, 1, 823) ∧ cd 127 5 = some ((.ifCond .ne 7), 3, 12, 0, 0, 0) ∧ cd 127 8 = some ((.iconst 1), 1, 0, 0, 0, 0) ∧ cd 127 9 = some ((.goto 4), 3, 13, 0, 0, 0) ∧ cd 127 12 = some ((.iconst 0), 1, 0, 0, 0, 0) ∧ cd 127 13 = some ((.iconst 1), 1, 0, 0, 0, 0) ∧ cd 127 14 = some ((.iconst 1), 1, 0, 0, 0, 0) ∧ cd 127 15 = some ((.invokevirtual 88), 3, 117, 3, 1, 885) ∧ cd 127 18 = some ((.ifCond .ne 5), 3, 23, 0, 0, 0) ∧ cd 127 21 = some ((.iconst 0), 1, 0, 0, 0, 0) ∧ cd 127 22 = some (.ireturn, 1, 0, 0, 0, 0) ∧ cd 127 23 = some ((.aload_n 0), 1, 0, 0, 0, 0) ∧ cd 127 24 = some ((.getfield 66), 3, 9, 7, 1, 811) ∧ cd 127 27 = some ((.istore_n 2), 1, 0, 0, 0, 0) ∧ cd 127 28 = some ((.aload_n 0), 1, 0, 0, 0, 0) ∧ cd 127 29 = some ((.iload_n 1), 1, 0, 0, 0, 0) ∧ cd 127 30 = some ((.putfield 66), 3, 9, 7, 1, 811) ∧ cd 127 33 = some ((.iload_n 2), 1, 0, 0, 0, 0) ∧ cd 127 34 = some ((.iload_n 1), 1, 0, 0, 0, 0) ∧ cd 127 35 = some ((.if_icmp .eq 7), 3, 42, 0, 0, 0) ∧ cd 127 38 = some ((.iconst 1), 1, 0, 0, 0, 0) ∧ cd 127 39 = some ((.goto 4), 3, 43, 0, 0, 0) ∧ cd 127 42 = some ((.iconst 0), 1, 0, 0, 0, 0) ∧ cd 127 43 = some (.ireturn, 1, 0, 0, 0, 0) ∧ True := conjL_of 127 c127 (by decide +kernel)
theorem Z127 : mZ 127 = 2 ∧ mL 127 = 3 ∧ mK 127 = 9 ∧ hT 127 = [] := ⟨rfl, rfl, rfl, rfl⟩
theorem D128 : cd 128 0 = some ((.aload_n 0), 1, 0, 0, 0, 0) ∧ cd 128 1 = some ((.iload_n 1), 1, 0, 0, 0, 0) ∧ cd 128 2 = some ((.invokestatic 104), 3, 129, 1, 0, 932) ∧ cd 128 5 = some ((.iload_n 2), 1, 0, 0, 0, 0) ∧ cd 128 6 = some ((.iconst 0), 1, 0, 0, 0, 0) ∧ cd 128 7 = some ((.bipush 61), 2, 0, 0, 0, 0) ∧ cd 128 9 = some ((.invokestatic 92), 3, 119, 3, 0, 893) ∧ cd 128 12 = some ((.aload_n 0), 1, 0, 0, 0, 0) ∧ cd 128 13 = some ((.getfield 82), 3, 9, 19, 1, 823) ∧ cd 128 16 = some ((.ifCond .ne 7), 3, 23, 0, 0, 0) ∧ cd 128 19 = some ((.iconst 1), 1, 0, 0, 0, 0) ∧ cd 128 20 = some ((.goto 4), 3, 24, 0, 0, 0) ∧ cd 128 23 = some ((.iconst 0), 1, 0, 0, 0, 0) ∧ cd 128 24 = some ((.invokevirtual 88), 3, 117, 3, 1, 885) ∧ cd 128 27 = some ((.ifCond .ne 5), 3, 32, 0, 0, 0) ∧ cd 128 30 = some ((.iconst 0), 1, 0, 0, 0, 0) ∧ cd 128 31 = some (.ireturn, 1, 0, 0, 0, 0) ∧ cd 128 32 = some ((.aload_n 0), 1, 0, 0, 0, 0) ∧ cd 128 33 = some ((.getfield 30), 3, 9, 8, 2, 812) ∧ cd 128 36 = some ((.iload_n 1), 1, 0, 0, 0, 0) ∧ cd 128 37 = some (.iaload, 1, 0, 0, 0, 0) ∧ cd 128 38 = some ((.istore_n 3), 1, 0, 0, 0, 0) ∧ cd 128 39 = some ((.aload_n 0), 1, 0, 0, 0, 0) ∧ cd 128 40 = some ((.getfield 30), 3, 9, 8, 2, 812) ∧ cd 128 43 = some ((.iload_n 1), 1, 0, 0, 0, 0) ∧ cd 128 44 = some ((.iload_n 2), 1, 0, 0, 0, 0) ∧ cd 128 45 = some (.iastore, 1, 0, 0, 0, 0) ∧ cd 128 46 = some ((.iconst 0), 1, 0, 0, 0, 0) ∧ cd 128 47 = some ((.istore 4), 2, 0, 0, 0, 0) ∧ cd 128 49 = some ((.iload 4), 2, 0, 0, 0, 0) ∧ cd 128 51 = some ((.bipush 64), 2, 0, 0, 0, 0) ∧ cd 128 53 = some ((.if_icmp .ge 22), 3, 75, 0, 0, 0) ∧ cd 128 56 = some ((.aload_n 0), 1, 0, 0, 0, 0) ∧ cd 128 57 = some ((.getfield 33), 3, 9, 9, 2, 813) ∧ cd 128 60 = some ((.bipush 64), 2, 0, 0, 0, 0) ∧ cd 128 62 = some ((.iload_n 1), 1, 0, 0, 0, 0) ∧ cd 128 63 = some (.imul, 1, 0, 0, 0, 0) ∧ cd 128 64 = some ((.iload 4), 2, 0, 0, 0, 0) ∧ cd 128 66 = some (.iadd, 1, 0, 0, 0, 0) ∧ cd 128 67 = some ((.iconst 0), 1, 0, 0, 0, 0) ∧ cd 128 68 = some (.bastore, 1, 0, 0, 0, 0) ∧ cd 128 69 = some ((.iinc 4 1), 3, 0, 0, 0, 0) ∧ cd 128 72 = some ((.goto (-23)), 3, 49, 0, 0, 0) ∧ cd 128 75 = some ((.aload_n 0), 1, 0, 0, 0, 0) ∧ cd 128 76 = some ((.getfield 39), 3, 9, 13, 2, 817) ∧ cd 128 79 = some ((.bipush 6), 2, 0, 0, 0, 0) ∧ cd 128 81 = some ((.iload_n 1), 1, 0, 0, 0, 0) ∧ cd 128 82 = some (.iadd, 1, 0, 0, 0, 0) ∧ cd 128 83 = some ((.iconst 0), 1, 0, 0, 0, 0) ∧ cd 128 84 = some (.iastore, 1, 0, 0, 0, 0) ∧ cd 128 85 = some ((.aload_n 0), 1, 0, 0, 0, 0) ∧ cd 128 86 = some ((.iconst 0), 1, 0, 0, 0, 0) ∧ cd 128 87 = some ((.putfield 76), 3, 9, 16, 0, 820) ∧ cd 128 90 = some ((.iload_n 3), 1, 0, 0, 0, 0) ∧ cd 128 91 = some (.ireturn, 1, 0, 0, 0, 0) ∧ True := conjL_of 128 c128 (by decide +kernel)
theorem Z128 : mZ 128 = 1 ∧ mL 128 = 5 ∧ mK 128 = 9 ∧ hT 128 = [] := ⟨rfl, rfl, rfl, rfl⟩
theorem D129 : cd 129 0 = some ((.iload_n 0), 1, 0, 0, 0, 0) ∧ cd 129 1 = some ((.iconst 0), 1, 0, 0, 0, 0) ∧ cd 129 2 = some ((.bipush 11), 2, 0, 0, 0, 0) ∧ cd 129 4 = some ((.invokestatic 92), 3, 119, 3, 0, 893) ∧ cd 129 7 = some (.ireturn, 1, 0, 0, 0, 0) ∧ True := conjL_of 129 c129 (by decide +kernel)
theorem Z129 : mZ 129 = 2 ∧ mL 129 = 1 ∧ mK 129 = 9 ∧ hT 129 = [] := ⟨rfl, rfl, rfl, rfl⟩
theorem D130 : cd 130 0 = some ((.aload_n 0), 1, 0, 0, 0, 0) ∧ cd 130 1 = some ((.iload_n 1), 1, 0, 0, 0, 0) ∧ cd 130 2 = some ((.invokestatic 104), 3, 129, 1, 0, 932) ∧ cd 130 5 = some ((.ifCond .eq 21), 3, 26, 0, 0, 0) ∧ cd 130 8 = some ((.iload_n 2), 1, 0, 0, 0, 0) ∧ cd 130 9 = some ((.ifCond .lt 17), 3, 26, 0, 0, 0) ∧ cd 130 12 = some ((.iload_n 2), 1, 0, 0, 0, 0) ∧ cd 130 13 = some ((.aload_n 0), 1, 0, 0, 0, 0) ∧ cd 130 14 = some ((.getfield 30), 3, 9, 8, 2, 812) ∧ cd 130 17 = some ((.iload_n 1), 1, 0, 0, 0, 0) ∧ cd 130 18 = some (.iaload, 1, 0, 0, 0, 0) ∧ cd 130 19 = some ((.if_icmp .ge 7), 3, 26, 0, 0, 0) ∧ cd 130 22 = some ((.iconst 1), 1, 0, 0, 0, 0) ∧ cd 130 23 = some ((.goto 4), 3, 27, 0, 0, 0) ∧ cd 130 26 = some ((.iconst 0), 1, 0, 0, 0, 0) ∧ cd 130 27 = some ((.aload_n 0), 1, 0, 0, 0, 0) ∧ cd 130 28 = some ((.getfield 82), 3, 9, 19, 1, 823) ∧ cd 130 31 = some ((.ifCond .ne 7), 3, 38, 0, 0, 0) ∧ cd 130 34 = some ((.iconst 1), 1, 0, 0, 0, 0) ∧ cd 130 35 = some ((.goto 4), 3, 39, 0, 0, 0) ∧ cd 130 38 = some ((.iconst 0), 1, 0, 0, 0, 0) ∧ cd 130 39 = some ((.iconst 1), 1, 0, 0, 0, 0) ∧ cd 130 40 = some ((.invokevirtual 88), 3, 117, 3, 1, 885) ∧ cd 130 43 = some ((.ifCond .ne 5), 3, 48, 0, 0, 0) ∧ cd 130 46 = some ((.iconst 0), 1, 0, 0, 0, 0) ∧ cd 130 47 = some (.ireturn, 1, 0, 0, 0, 0) ∧ cd 130 48 = some ((.aload_n 0), 1, 0, 0, 0, 0) ∧ cd 130 49 = some ((.getfield 33), 3, 9, 9, 2, 813) ∧ cd 130 52 = some ((.bipush 64), 2, 0, 0, 0, 0) ∧ cd 130 54 = some ((.iload_n 1), 1, 0, 0, 0, 0) ∧ cd 130 55 = some (.imul, 1, 0, 0, 0, 0) ∧ cd 130 56 = some ((.iload_n 2), 1, 0, 0, 0, 0) ∧ cd 130 57 = some (.iadd, 1, 0, 0, 0, 0) ∧ cd 130 58 = some (.baload, 1, 0, 0, 0, 0) ∧ cd 130 59 = some ((.istore 4), 2, 0, 0, 0, 0) ∧ cd 130 61 = some ((.aload_n 0), 1, 0, 0, 0, 0) ∧ cd 130 62 = some ((.getfield 33), 3, 9, 9, 2, 813) ∧ cd 130 65 = some ((.bipush 64), 2, 0, 0, 0, 0) ∧ cd 130 67 = some ((.iload_n 1), 1, 0, 0, 0, 0) ∧ cd 130 68 = some (.imul, 1, 0, 0, 0, 0) ∧ cd 130 69 = some ((.iload_n 2), 1, 0, 0, 0, 0) ∧ cd 130 70 = some (.iadd, 1, 0, 0, 0, 0) ∧ cd 130 71 = some ((.iload_n 3), 1, 0, 0, 0, 0) ∧ cd 130 72 = some (.bastore, 1, 0, 0, 0, 0) ∧ cd 130 73 = some ((.iload 4), 2, 0, 0, 0, 0) ∧ cd 130 75 = some ((.iload_n 3), 1, 0, 0, 0, 0) ∧ cd 130 76 = some ((.if_icmp .eq 7), 3, 83, 0, 0, 0) ∧ cd 130 79 = some ((.iconst 1), 1, 0, 0, 0, 0) ∧ cd 130 80 = some ((.goto 4), 3, 84, 0, 0, 0) ∧ cd 130 83 = some ((.iconst 0), 1, 0, 0, 0, 0) ∧ cd 130 84 = some (.ireturn, 1, 0, 0, 0, 0) ∧ True := conjL_of 130 c130 (by decide +kernel)
theorem Z130 : mZ 130 = 2 ∧ mL 130 = 5 ∧ mK 130 = 9 ∧ hT 130 = [] := ⟨rfl, rfl, rfl, rfl⟩
theorem D131 : cd 131 0 = some ((.aload_n 0), 1, 0, 0, 0, 0) ∧ cd 131 1 = some ((.iload_n 1), 1, 0, 0, 0, 0) ∧ cd 131 2 = some ((.iconst 0), 1, 0, 0, 0, 0) ∧ cd 131 3 = some ((.bipush 26), 2, 0, 0, 0, 0) ∧ cd 131 5 = some ((.invokestatic 92), 3, 119, 3, 0, 893) ∧ cd 131 8 = some ((.ifCond .eq 27), 3, 35, 0, 0, 0) ∧ cd 131 11 = some ((.iload_n 2), 1, 0, 0, 0, 0) ∧ cd 131 12 = some ((.iconst (-1)), 1, 0, 0, 0, 0) ∧ cd 131 13 = some ((.bipush 11), 2, 0, 0, 0, 0) ∧ cd 131 15 = some ((.invokestatic 92), 3, 119, 3, 0, 893) ∧ cd 131 18 = some ((.ifCond .eq 17), 3, 35, 0, 0, 0) ∧ cd 131 21 = some ((.iload_n 3), 1, 0, 0, 0, 0) ∧ cd 131 22 = some ((.iconst (-1)), 1, 0, 0, 0, 0) ∧ cd 131 23 = some ((.bipush 11), 2, 0, 0, 0, 0) ∧ cd 131 25 = some ((.invokestatic 92), 3, 119, 3, 0, 893) ∧ cd 131 28 = some ((.ifCond .eq 7), 3, 35, 0, 0, 0) ∧ cd 131 31 = some ((.iconst 1), 1, 0, 0, 0, 0) ∧ cd 131 32 = some ((.goto 4), 3, 36, 0, 0, 0) ∧ cd 131 35 = some ((.iconst 0), 1, 0, 0, 0, 0) ∧ cd 131 36 = some ((.aload_n 0), 1, 0, 0, 0, 0) ∧ cd 131 37 = some ((.getfield 82), 3, 9, 19, 1, 823) ∧ cd 131 40 = some ((.ifCond .ne 7), 3, 47, 0, 0, 0) ∧ cd 131 43 = some ((.iconst 1), 1, 0, 0, 0, 0) ∧ cd 131 44 = some ((.goto 4), 3, 48, 0, 0, 0) ∧ cd 131 47 = some ((.iconst 0), 1, 0, 0, 0, 0) ∧ cd 131 48 = some ((.iconst 1), 1, 0, 0, 0, 0) ∧ cd 131 49 = some ((.invokevirtual 88), 3, 117, 3, 1, 885) ∧ cd 131 52 = some ((.ifCond .eq 23), 3, 75, 0, 0, 0) ∧ cd 131 55 = some ((.aload_n 0), 1, 0, 0, 0, 0) ∧ cd 131 56 = some ((.getfield 36), 3, 9, 10, 2, 814) ∧ cd 131 59 = some ((.iconst 2), 1, 0, 0, 0, 0) ∧ cd 131 60 = some ((.iload_n 1), 1, 0, 0, 0, 0) ∧ cd 131 61 = some (.imul, 1, 0, 0, 0, 0) ∧ cd 131 62 = some ((.iload_n 2), 1, 0, 0, 0, 0) ∧ cd 131 63 = some (.iastore, 1, 0, 0, 0, 0) ∧ cd 131 64 = some ((.aload_n 0), 1, 0, 0, 0, 0) ∧ cd 131 65 = some ((.getfield 36), 3, 9, 10, 2, 814) ∧ cd 131 68 = some ((.iconst 2), 1, 0, 0, 0, 0) ∧ cd 131 69 = some ((.iload_n 1), 1, 0, 0, 0, 0) ∧ cd 131 70 = some (.imul, 1, 0, 0, 0, 0) ∧ cd 131 71 = some ((.iconst 1), 1, 0, 0, 0, 0) ∧ cd 131 72 = some (.iadd, 1, 0, 0, 0, 0) ∧ cd 131 73 = some ((.iload_n 3), 1, 0, 0, 0, 0) ∧ cd 131 74 = some (.iastore, 1, 0, 0, 0, 0) ∧ cd 131 75 = some (.return_, 1, 0, 0, 0, 0) ∧ True := conjL_of 131 c131 (by decide +kernel)
theorem Z131 : mZ 131 = 0 ∧ mL 131 = 4 ∧ mK 131 = 9 ∧ hT 131 = [] := ⟨rfl, rfl, rfl, rfl⟩
theorem D132 : cd 132 0 = some ((.aload_n 0), 1, 0, 0, 0, 0) ∧ cd 132 1 = some ((.iload_n 1), 1, 0, 0, 0, 0) ∧ cd 132 2 = some ((.iconst 0), 1, 0, 0, 0, 0) ∧ cd 132 3 = some ((.iconst 4), 1, 0, 0, 0, 0) ∧ cd 132 4 = some ((.invokestatic 92), 3, 119, 3, 0, 893) ∧ cd 132 7 = some ((.aload_n 0), 1, 0, 0, 0, 0) ∧ cd 132 8 = some ((.getfield 82), 3, 9, 19, 1, 823) ∧ cd 132 11 = some ((.ifCond .ne 7), 3, 18, 0, 0, 0) ∧ cd 132 14 = some ((.iconst 1), 1, 0, 0, 0, 0) ∧ cd 132 15 = some ((.goto 4), 3, 19, 0, 0, 0) ∧ cd 132 18 = some ((.iconst 0), 1, 0, 0, 0, 0) ∧ cd 132 19 = some ((.iconst 1), 1, 0, 0, 0, 0) ∧ cd 132 20 = some ((.invokevirtual 88), 3, 117, 3, 1, 885) ∧ cd 132 23 = some ((.ifCond .ne 5), 3, 28, 0, 0, 0) ∧ cd 132 26 = some ((.iconst 0), 1, 0, 0, 0, 0) ∧ cd 132 27 = some (.ireturn, 1, 0, 0, 0, 0) ∧ cd 132 28 = some ((.aload_n 0), 1, 0, 0, 0, 0) ∧ cd 132 29 = some ((.getfield 70), 3, 9, 11, 0, 815) ∧ cd 132 32 = some ((.istore_n 2), 1, 0, 0, 0, 0) ∧ cd 132 33 = some ((.aload_n 0), 1, 0, 0, 0, 0) ∧ cd 132 34 = some ((.iload_n 1), 1, 0, 0, 0, 0) ∧ cd 132 35 = some ((.putfield 70), 3, 9, 11, 0, 815) ∧ cd 132 38 = some ((.iload_n 2), 1, 0, 0, 0, 0) ∧ cd 132 39 = some (.ireturn, 1, 0, 0, 0, 0) ∧ True := conjL_of 132 c132 (by decide +kernel)
theorem Z132 : mZ 132 = 1 ∧ mL 132 = 3 ∧ mK 132 = 9 ∧ hT 132 = [] := ⟨rfl, rfl, rfl, rfl⟩
theorem D133 : cd 133 0 = some ((.aload_n 0), 1, 0, 0, 0, 0) ∧ cd 133 1 = some ((.iload_n 1), 1, 0, 0, 0, 0) ∧ cd 133 2 = some ((.iconst 0), 1, 0, 0, 0, 0) ∧ cd 133 3 = some ((.iconst 2), 1, 0, 0, 0, 0) ∧ cd 133 4 = some ((.invokestatic 92), 3, 119, 3, 0, 893) ∧ cd 133 7 = some ((.aload_n 0), 1, 0, 0, 0, 0) ∧ cd 133 8 = some ((.getfield 82), 3, 9, 19, 1, 823) ∧ cd 133 11 = some ((.ifCond .ne 7), 3, 18, 0, 0, 0) ∧ cd 133 14 = some ((.iconst 1), 1, 0, 0, 0, 0) ∧ cd 133 15 = some ((.goto 4), 3, 19, 0, 0, 0) ∧ cd 133 18 = some ((.iconst 0), 1, 0, 0, 0, 0) ∧ cd 133 19 = some ((.iconst 1), 1, 0, 0, 0, 0) ∧ cd 133 20 = some ((.invokevirtual 88), 3, 117, 3, 1, 885) ∧ cd 133 23 = some ((.ifCond .ne 5), 3, 28, 0, 0, 0) ∧ cd 133 26 = some ((.iconst 0), 1, 0, 0, 0, 0) ∧ cd 133 27 = some (.ireturn, 1, 0, 0, 0, 0) ∧ cd 133 28 = some ((.aload_n 0), 1, 0, 0, 0, 0) ∧ cd 133 29 = some ((.getfield 73), 3, 9, 12, 0, 816) ∧ cd 133 32 = some ((.istore_n 2), 1, 0, 0, 0, 0) ∧ cd 133 33 = some ((.aload_n 0), 1, 0, 0, 0, 0) ∧ cd 133 34 = some ((.iload_n 1), 1, 0, 0, 0, 0) ∧ cd 133 35 = some ((.putfield 73), 3, 9, 12, 0, 816) ∧ cd 133 38 = some ((.iload_n 2), 1, 0, 0, 0, 0) ∧ cd 133 39 = some (.ireturn, 1, 0, 0, 0, 0) ∧ True := conjL_of 133 c133 (by decide +kernel)
theorem Z133 : mZ 133 = 1 ∧ mL 133 = 3 ∧ mK 133 = 9 ∧ hT 133 = [] := ⟨rfl, rfl, rfl, rfl⟩
theorem D134 : cd 134 0 = some ((.aload_n 0), 1, 0, 0, 0, 0) ∧ cd 134 1 = some ((.iload_n 1), 1, 0, 0, 0, 0) ∧ cd 134 2 = some ((.iload_n 2), 1, 0, 0, 0, 0) ∧ cd 134 3 = some ((.invokevirtual 107), 3, 135, 2, 1, 955) ∧ cd 134 6 = some ((.ifCond .eq 32), 3, 38, 0, 0, 0) ∧ cd 134 9 = some ((.iload_n 3), 1, 0, 0, 0, 0) ∧ cd 134 10 = some ((.ifCond .lt 28), 3, 38, 0, 0, 0) ∧ cd 134 13 = some ((.iload_n 3), 1, 0, 0, 0, 0) ∧ cd 134 14 = some ((.iload_n 1), 1, 0, 0, 0, 0) ∧ cd 134 15 = some ((.ifCond .ne 10), 3, 25, 0, 0, 0) ∧ cd 134 18 = some ((.aload_n 0), 1, 0, 0, 0, 0) ∧ cd 134 19 = some ((.getfield 7), 3, 9, 1, 0, 805) ∧ cd 134 22 = some ((.goto 9), 3, 31, 0, 0, 0) ∧ cd 134 25 = some ((.aload_n 0), 1, 0, 0, 0, 0) ∧ cd 134 26 = some ((.getfield 30), 3, 9, 8, 2, 812) ∧ cd 134 29 = some ((.iload_n 2), 1, 0, 0, 0, 0) ∧ cd 134 30 = some (.iaload, 1, 0, 0, 0, 0) ∧ cd 134 31 = some ((.if_icmp .ge 7), 3, 38, 0, 0, 0) ∧ cd 134 34 = some ((.iconst 1), 1, 0, 0, 0, 0) ∧ cd 134 35 = some ((.goto 4), 3, 39, 0, 0, 0) ∧ cd 134 38 = some ((.iconst 0), 1, 0, 0, 0, 0) ∧ cd 134 39 = some ((.istore 4), 2, 0, 0, 0, 0) ∧ cd 134 41 = some ((.aload_n 0), 1, 0, 0, 0, 0) ∧ cd 134 42 = some ((.iload 4), 2, 0, 0, 0, 0) ∧ cd 134 44 = some ((.aload_n 0), 1, 0, 0, 0, 0) ∧ cd 134 45 = some ((.getfield 82), 3, 9, 19, 1, 823) ∧ cd 134 48 = some ((.ifCond .ne 7), 3, 55, 0, 0, 0) ∧ cd 134 51 = some ((.iconst 1), 1, 0, 0, 0, 0) ∧ cd 134 52 = some ((.goto 4), 3, 56, 0, 0, 0) ∧ cd 134 55 = some ((.iconst 0), 1, 0, 0, 0, 0) ∧ cd 134 56 = some ((.iconst 1), 1, 0, 0, 0, 0) ∧ cd 134 57 = some ((.invokevirtual 88), 3, 117, 3, 1, 885) ∧ cd 134 60 = some ((.ifCond .ne 5), 3, 65, 0, 0, 0) ∧ cd 134 63 = some ((.iconst 0), 1, 0, 0, 0, 0) ∧ cd 134 64 = some (.ireturn, 1, 0, 0, 0, 0) ∧ cd 134 65 = some ((.bipush 6), 2, 0, 0, 0, 0) ∧ cd 134 67 = some ((.iload_n 1), 1, 0, 0, 0, 0) ∧ cd 134 68 = some (.imul, 1, 0, 0, 0, 0) ∧ cd 134 69 = some ((.iload_n 2), 1, 0, 0, 0, 0) ∧ cd 134 70 = some (.iadd, 1, 0, 0, 0, 0) ∧ cd 134 71 = some ((.istore 5), 2, 0, 0, 0, 0) ∧ cd 134 73 = some ((.aload_n 0), 1, 0, 0, 0, 0) ∧ cd 134 74 = some ((.getfield 39), 3, 9, 13, 2, 817) ∧ cd 134 77 = some ((.iload 5), 2, 0, 0, 0, 0) ∧ cd 134 79 = some (.iaload, 1, 0, 0, 0, 0) ∧ cd 134 80 = some ((.istore 6), 2, 0, 0, 0, 0) ∧ cd 134 82 = some ((.aload_n 0), 1, 0, 0, 0, 0) ∧ cd 134 83 = some ((.getfield 39), 3, 9, 13, 2, 817) ∧ cd 134 86 = some ((.iload 5), 2, 0, 0, 0, 0) ∧ cd 134 88 = some ((.iload_n 3), 1, 0, 0, 0, 0) ∧ cd 134 89 = some (.iastore, 1, 0, 0, 0, 0) ∧ cd 134 90 = some ((.aload_n 0), 1, 0, 0, 0, 0) ∧ cd 134 91 = some ((.iconst 0), 1, 0, 0, 0, 0) ∧ cd 134 92 = some ((.putfield 76), 3, 9, 16, 0, 820) ∧ cd 134 95 = some ((.iload 6), 2, 0, 0, 0, 0) ∧ cd 134 97 = some (.ireturn, 1, 0, 0, 0, 0) ∧ True := conjL_of 134 c134 (by decide +kernel)
theorem Z134 : mZ 134 = 1 ∧ mL 134 = 7 ∧ mK 134 = 9 ∧ hT 134 = [] := ⟨rfl, rfl, rfl, rfl⟩
theorem D135 : cd 135 0 = some ((.iload_n 1), 1, 0, 0, 0, 0) ∧ cd 135 1 = some ((.ifCond .ne 12), 3, 13, 0, 0, 0) ∧ cd 135 4 = some ((.iload_n 2), 1, 0, 0, 0, 0) ∧ cd 135 5 = some ((.iconst 0), 1, 0, 0, 0, 0) ∧ cd 135 6 = some ((.iconst 5), 1, 0, 0, 0, 0) ∧ cd 135 7 = some ((.invokestatic 92), 3, 119, 3, 0, 893) ∧ cd 135 10 = some ((.ifCond .ne 15), 3, 25, 0, 0, 0) ∧ cd 135 13 = some ((.iload_n 1), 1, 0, 0, 0, 0) ∧ cd 135 14 = some ((.iconst 1), 1, 0, 0, 0, 0) ∧ cd 135 15 = some ((.if_icmp .ne 14), 3, 29, 0, 0, 0) ∧ cd 135 18 = some ((.iload_n 2), 1, 0, 0, 0, 0) ∧ cd 135 19 = some ((.invokestatic 104), 3, 129, 1, 0, 932) ∧ cd 135 22 = some ((.ifCond .eq 7), 3, 29, 0, 0, 0) ∧ cd 135 25 = some ((.iconst 1), 1, 0, 0, 0, 0) ∧ cd 135 26 = some ((.goto 4), 3, 30, 0, 0, 0) ∧ cd 135 29 = some ((.iconst 0), 1, 0, 0, 0, 0) ∧ cd 135 30 = some (.ireturn, 1, 0, 0, 0, 0) ∧ True := conjL_of 135 c135 (by decide +kernel)
theorem Z135 : mZ 135 = 2 ∧ mL 135 = 3 ∧ mK 135 = 9 ∧ hT 135 = [] := ⟨rfl, rfl, rfl, rfl⟩
theorem D136_0 : cd 136 0 = some ((.aload_n 0), 1, 0, 0, 0, 0) ∧ cd 136 1 = some ((.aload_n 0), 1, 0, 0, 0, 0) ∧ cd 136 2 = some ((.iload_n 1), 1, 0, 0, 0, 0) ∧ cd 136 3 = some ((.invokevirtual 96), 3, 120, 1, 1, 896) ∧ cd 136 6 = some ((.aload_n 0), 1, 0, 0, 0, 0) ∧ cd 136 7 = some ((.getfield 82), 3, 9, 19, 1, 823) ∧ cd 136 10 = some ((.ifCond .eq 19), 3, 29, 0, 0, 0) ∧ cd 136 13 = some ((.aload_n 0), 1, 0, 0, 0, 0) ∧ cd 136 14 = some ((.getfield 51), 3, 9, 20, 2, 824) ∧ cd 136 17 = some ((.aload_n 0), 1, 0, 0, 0, 0) ∧ cd 136 18 = some ((.getfield 79), 3, 9, 18, 0, 822) ∧ cd 136 21 = some ((.iconst 1), 1, 0, 0, 0, 0) ∧ cd 136 22 = some (.isub, 1, 0, 0, 0, 0) ∧ cd 136 23 = some (.iaload, 1, 0, 0, 0, 0) ∧ cd 136 24 = some ((.bipush 60), 2, 0, 0, 0, 0) ∧ cd 136 26 = some ((.if_icmp .ge 7), 3, 33, 0, 0, 0) ∧ cd 136 29 = some ((.iconst 1), 1, 0, 0, 0, 0) ∧ cd 136 30 = some ((.goto 4), 3, 34, 0, 0, 0) ∧ cd 136 33 = some ((.iconst 0), 1, 0, 0, 0, 0) ∧ cd 136 34 = some ((.iconst 1), 1, 0, 0, 0, 0) ∧ cd 136 35 = some ((.invokevirtual 88), 3, 117, 3, 1, 885) ∧ cd 136 38 = some ((.ifCond .ne 5), 3, 43, 0, 0, 0) ∧ cd 136 41 = some ((.iconst 0), 1, 0, 0, 0, 0) ∧ cd 136 42 = some (.ireturn, 1, 0, 0, 0, 0) ∧ cd 136 43 = some ((.aload_n 0), 1, 0, 0, 0, 0) ∧ cd 136 44 = some ((.invokevirtual 146), 3, 137, 0, 1, 963) ∧ cd 136 47 = some ((.aload_n 0), 1, 0, 0, 0, 0) ∧ cd 136 48 = some ((.iload_n 1), 1, 0, 0, 0, 0) ∧ cd 136 49 = some ((.invokevirtual 149), 3, 144, 1, 1, 991) ∧ cd 136 52 = some ((.istore_n 2), 1, 0, 0, 0, 0) ∧ cd 136 53 = some ((.aload_n 0), 1, 0, 0, 0, 0) ∧ cd 136 54 = some ((.getfield 82), 3, 9, 19, 1, 823) ∧ cd 136 57 = some ((.ifCond .eq 54), 3, 111, 0, 0, 0) ∧ cd 136 60 = some ((.bipush 60), 2, 0, 0, 0, 0) ∧ cd 136 62 = some ((.aload_n 0), 1, 0, 0, 0, 0) ∧ cd 136 63 = some ((.getfield 79), 3, 9, 18, 0, 822) ∧ cd 136 66 = some ((.iconst 1), 1, 0, 0, 0, 0) ∧ cd 136 67 = some (.isub, 1, 0, 0, 0, 0) ∧ cd 136 68 = some (.imul, 1, 0, 0, 0, 0) ∧ cd 136 69 = some ((.aload_n 0), 1, 0, 0, 0, 0) ∧ True := conjL_of 136 c136_0 (by decide +kernel)
theorem D136_1 : cd 136 70 = some ((.getfield 51), 3, 9, 20, 2, 824) ∧ cd 136 73 = some ((.aload_n 0), 1, 0, 0, 0, 0) ∧ cd 136 74 = some ((.getfield 79), 3, 9, 18, 0, 822) ∧ cd 136 77 = some ((.iconst 1), 1, 0, 0, 0, 0) ∧ cd 136 78 = some (.isub, 1, 0, 0, 0, 0) ∧ cd 136 79 = some (.iaload, 1, 0, 0, 0, 0) ∧ cd 136 80 = some (.iadd, 1, 0, 0, 0, 0) ∧ cd 136 81 = some ((.istore_n 3), 1, 0, 0, 0, 0) ∧ cd 136 82 = some ((.aload_n 0), 1, 0, 0, 0, 0) ∧ cd 136 83 = some ((.getfield 57), 3, 9, 22, 2, 826) ∧ cd 136 86 = some ((.iload_n 3), 1, 0, 0, 0, 0) ∧ cd 136 87 = some ((.iload_n 1), 1, 0, 0, 0, 0) ∧ cd 136 88 = some (.iastore, 1, 0, 0, 0, 0) ∧ cd 136 89 = some ((.aload_n 0), 1, 0, 0, 0, 0) ∧ cd 136 90 = some ((.getfield 60), 3, 9, 23, 2, 827) ∧ cd 136 93 = some ((.iload_n 3), 1, 0, 0, 0, 0) ∧ cd 136 94 = some ((.iload_n 2), 1, 0, 0, 0, 0) ∧ cd 136 95 = some (.iastore, 1, 0, 0, 0, 0) ∧ cd 136 96 = some ((.aload_n 0), 1, 0, 0, 0, 0) ∧ cd 136 97 = some ((.getfield 51), 3, 9, 20, 2, 824) ∧ cd 136 100 = some ((.aload_n 0), 1, 0, 0, 0, 0) ∧ cd 136 101 = some ((.getfield 79), 3, 9, 18, 0, 822) ∧ cd 136 104 = some ((.iconst 1), 1, 0, 0, 0, 0) ∧ cd 136 105 = some (.isub, 1, 0, 0, 0, 0) ∧ cd 136 106 = some (.dup2, 1, 0, 0, 0, 0) ∧ cd 136 107 = some (.iaload, 1, 0, 0, 0, 0) ∧ cd 136 108 = some ((.iconst 1), 1, 0, 0, 0, 0) ∧ cd 136 109 = some (.iadd, 1, 0, 0, 0, 0) ∧ cd 136 110 = some (.iastore, 1, 0, 0, 0, 0) ∧ cd 136 111 = some ((.iload_n 2), 1, 0, 0, 0, 0) ∧ cd 136 112 = some (.ireturn, 1, 0, 0, 0, 0) ∧ True := conjL_of 136 c136_1 (by decide +kernel)
theorem Z136 : mZ 136 = 1 ∧ mL 136 = 4 ∧ mK 136 = 9 ∧ hT 136 = [] := ⟨rfl, rfl, rfl, rfl⟩
theorem D137 : cd 137 0 = some ((.aload_n 0), 1, 0, 0, 0, 0) ∧ cd 137 1 = some ((.getfield 76), 3, 9, 16, 0, 820) ∧ cd 137 4 = some ((.bipush 40), 2, 0, 0, 0, 0) ∧ cd 137 6 = some ((.if_icmp .ne 39), 3, 45, 0, 0, 0) ∧ cd 137 9 = some ((.iconst 0), 1, 0, 0, 0, 0) ∧ cd 137 10 = some ((.istore_n 1), 1, 0, 0, 0, 0) ∧ cd 137 11 = some ((.iload_n 1), 1, 0, 0, 0, 0) ∧ cd 137 12 = some ((.sipush 702), 3, 0, 0, 0, 0) ∧ cd 137 15 = some ((.if_icmp .ge 24), 3, 39, 0, 0, 0) ∧ cd 137 18 = some ((.aload_n 0), 1, 0, 0, 0, 0) ∧ cd 137 19 = some ((.getfield 48), 3, 9, 17, 2, 821) ∧ cd 137 22 = some ((.iload_n 1), 1, 0, 0, 0, 0) ∧ cd 137 23 = some ((.aload_n 0), 1, 0, 0, 0, 0) ∧ cd 137 24 = some ((.getfield 48), 3, 9, 17, 2, 821) ∧ cd 137 27 = some ((.iload_n 1), 1, 0, 0, 0, 0) ∧ cd 137 28 = some ((.bipush 18), 2, 0, 0, 0, 0) ∧ cd 137 30 = some (.iadd, 1, 0, 0, 0, 0) ∧ cd 137 31 = some (.iaload, 1, 0, 0, 0, 0) ∧ cd 137 32 = some (.iastore, 1, 0, 0, 0, 0) ∧ cd 137 33 = some ((.iinc 1 1), 3, 0, 0, 0, 0) ∧ cd 137 36 = some ((.goto (-25)), 3, 11, 0, 0, 0) ∧ cd 137 39 = some ((.aload_n 0), 1, 0, 0, 0, 0) ∧ cd 137 40 = some ((.bipush 39), 2, 0, 0, 0, 0) ∧ cd 137 42 = some ((.putfield 76), 3, 9, 16, 0, 820) ∧ cd 137 45 = some ((.iconst 0), 1, 0, 0, 0, 0) ∧ cd 137 46 = some ((.istore_n 1), 1, 0, 0, 0, 0) ∧ cd 137 47 = some ((.iload_n 1), 1, 0, 0, 0, 0) ∧ cd 137 48 = some ((.bipush 18), 2, 0, 0, 0, 0) ∧ cd 137 50 = some ((.if_icmp .ge 29), 3, 79, 0, 0, 0) ∧ cd 137 53 = some ((.aload_n 0), 1, 0, 0, 0, 0) ∧ cd 137 54 = some ((.getfield 48), 3, 9, 17, 2, 821) ∧ cd 137 57 = some ((.bipush 18), 2, 0, 0, 0, 0) ∧ cd 137 59 = some ((.aload_n 0), 1, 0, 0, 0, 0) ∧ cd 137 60 = some ((.getfield 76), 3, 9, 16, 0, 820) ∧ cd 137 63 = some (.imul, 1, 0, 0, 0, 0) ∧ cd 137 64 = some ((.iload_n 1), 1, 0, 0, 0, 0) ∧ cd 137 65 = some (.iadd, 1, 0, 0, 0, 0) ∧ cd 137 66 = some ((.aload_n 0), 1, 0, 0, 0, 0) ∧ cd 137 67 = some ((.getfield 39), 3, 9, 13, 2, 817) ∧ cd 137 70 = some ((.iload_n 1), 1, 0, 0, 0, 0) ∧ cd 137 71 = some (.iaload, 1, 0, 0, 0, 0) ∧ cd 137 72 = some (.iastore, 1, 0, 0, 0, 0) ∧ cd 137 73 = some ((.iinc 1 1), 3, 0, 0, 0, 0) ∧ cd 137 76 = some ((.goto (-29)), 3, 47, 0, 0, 0) ∧ cd 137 79 = some ((.aload_n 0), 1, 0, 0, 0, 0) ∧ cd 137 80 = some (.dup, 1, 0, 0, 0, 0) ∧ cd 137 81 = some ((.getfield 76), 3, 9, 16, 0, 820) ∧ cd 137 84 = some ((.iconst 1), 1, 0, 0, 0, 0) ∧ cd 137 85 = some (.iadd, 1, 0, 0, 0, 0) ∧ cd 137 86 = some ((.putfield 76), 3, 9, 16, 0, 820) ∧ cd 137 89 = some ((.aload_n 0), 1, 0, 0, 0, 0) ∧ cd 137 90 = some ((.invokevirtual 126), 3, 138, 0, 1, 967) ∧ cd 137 93 = some (.return_, 1, 0, 0, 0, 0) ∧ True := conjL_of 137 c137 (by decide +kernel)
theorem Z137 : mZ 137 = 0 ∧ mL 137 = 2 ∧ mK 137 = 9 ∧ hT 137 = [] := ⟨rfl, rfl, rfl, rfl⟩
theorem D138_0 : cd 138 0 = some ((.iconst 0), 1, 0, 0, 0, 0) ∧ cd 138 1 = some ((.istore_n 1), 1, 0, 0, 0, 0) ∧ cd 138 2 = some ((.iload_n 1), 1, 0, 0, 0, 0) ∧ cd 138 3 = some ((.bipush 6), 2, 0, 0, 0, 0) ∧ cd 138 5 = some ((.if_icmp .ge 38), 3, 43, 0, 0, 0) ∧ cd 138 8 = some ((.aload_n 0), 1, 0, 0, 0, 0) ∧ cd 138 9 = some ((.getfield 45), 3, 9, 15, 2, 819) ∧ cd 138 12 = some ((.iload_n 1), 1, 0, 0, 0, 0) ∧ cd 138 13 = some ((.aload_n 0), 1, 0, 0, 0, 0) ∧ cd 138 14 = some ((.getfield 24), 3, 9, 5, 2, 809) ∧ cd 138 17 = some ((.iload_n 1), 1, 0, 0, 0, 0) ∧ cd 138 18 = some (.iaload, 1, 0, 0, 0, 0) ∧ cd 138 19 = some ((.iconst (-1)), 1, 0, 0, 0, 0) ∧ cd 138 20 = some ((.if_icmp .eq 15), 3, 35, 0, 0, 0) ∧ cd 138 23 = some ((.aload_n 0), 1, 0, 0, 0, 0) ∧ cd 138 24 = some ((.iload_n 1), 1, 0, 0, 0, 0) ∧ cd 138 25 = some ((.invokevirtual 123), 3, 139, 1, 1, 971) ∧ cd 138 28 = some ((.ifCond .eq 7), 3, 35, 0, 0, 0) ∧ cd 138 31 = some ((.iconst 1), 1, 0, 0, 0, 0) ∧ cd 138 32 = some ((.goto 4), 3, 36, 0, 0, 0) ∧ cd 138 35 = some ((.iconst 0), 1, 0, 0, 0, 0) ∧ cd 138 36 = some (.bastore, 1, 0, 0, 0, 0) ∧ cd 138 37 = some ((.iinc 1 1), 3, 0, 0, 0, 0) ∧ cd 138 40 = some ((.goto (-38)), 3, 2, 0, 0, 0) ∧ cd 138 43 = some ((.iconst 0), 1, 0, 0, 0, 0) ∧ cd 138 44 = some ((.istore_n 1), 1, 0, 0, 0, 0) ∧ cd 138 45 = some ((.iload_n 1), 1, 0, 0, 0, 0) ∧ cd 138 46 = some ((.bipush 6), 2, 0, 0, 0, 0) ∧ cd 138 48 = some ((.if_icmp .ge 46), 3, 94, 0, 0, 0) ∧ cd 138 51 = some ((.aload_n 0), 1, 0, 0, 0, 0) ∧ cd 138 52 = some ((.getfield 39), 3, 9, 13, 2, 817) ∧ cd 138 55 = some ((.iload_n 1), 1, 0, 0, 0, 0) ∧ cd 138 56 = some ((.aload_n 0), 1, 0, 0, 0, 0) ∧ cd 138 57 = some ((.getfield 45), 3, 9, 15, 2, 819) ∧ cd 138 60 = some ((.iload_n 1), 1, 0, 0, 0, 0) ∧ cd 138 61 = some (.baload, 1, 0, 0, 0, 0) ∧ cd 138 62 = some ((.ifCond .eq 19), 3, 81, 0, 0, 0) ∧ cd 138 65 = some ((.aload_n 0), 1, 0, 0, 0, 0) ∧ cd 138 66 = some ((.getfield 39), 3, 9, 13, 2, 817) ∧ cd 138 69 = some ((.iload_n 1), 1, 0, 0, 0, 0) ∧ True := conjL_of 138 c138_0 (by decide +kernel)
theorem D138_1 : cd 138 70 = some (.iaload, 1, 0, 0, 0, 0) ∧ cd 138 71 = some ((.iconst 1), 1, 0, 0, 0, 0) ∧ cd 138 72 = some (.iadd, 1, 0, 0, 0, 0) ∧ cd 138 73 = some ((.aload_n 0), 1, 0, 0, 0, 0) ∧ cd 138 74 = some ((.getfield 7), 3, 9, 1, 0, 805) ∧ cd 138 77 = some (.irem, 1, 0, 0, 0, 0) ∧ cd 138 78 = some ((.goto 9), 3, 87, 0, 0, 0) ∧ cd 138 81 = some ((.aload_n 0), 1, 0, 0, 0, 0) ∧ cd 138 82 = some ((.getfield 39), 3, 9, 13, 2, 817) ∧ cd 138 85 = some ((.iload_n 1), 1, 0, 0, 0, 0) ∧ cd 138 86 = some (.iaload, 1, 0, 0, 0, 0) ∧ cd 138 87 = some (.iastore, 1, 0, 0, 0, 0) ∧ cd 138 88 = some ((.iinc 1 1), 3, 0, 0, 0, 0) ∧ cd 138 91 = some ((.goto (-46)), 3, 45, 0, 0, 0) ∧ cd 138 94 = some ((.iconst 0), 1, 0, 0, 0, 0) ∧ cd 138 95 = some ((.istore_n 1), 1, 0, 0, 0, 0) ∧ cd 138 96 = some ((.iload_n 1), 1, 0, 0, 0, 0) ∧ cd 138 97 = some ((.bipush 12), 2, 0, 0, 0, 0) ∧ cd 138 99 = some ((.if_icmp .ge 49), 3, 148, 0, 0, 0) ∧ cd 138 102 = some ((.aload_n 0), 1, 0, 0, 0, 0) ∧ cd 138 103 = some ((.getfield 39), 3, 9, 13, 2, 817) ∧ cd 138 106 = some ((.bipush 6), 2, 0, 0, 0, 0) ∧ cd 138 108 = some ((.iload_n 1), 1, 0, 0, 0, 0) ∧ cd 138 109 = some (.iadd, 1, 0, 0, 0, 0) ∧ cd 138 110 = some ((.aload_n 0), 1, 0, 0, 0, 0) ∧ cd 138 111 = some ((.getfield 30), 3, 9, 8, 2, 812) ∧ cd 138 114 = some ((.iload_n 1), 1, 0, 0, 0, 0) ∧ cd 138 115 = some (.iaload, 1, 0, 0, 0, 0) ∧ cd 138 116 = some ((.ifCond .le 24), 3, 140, 0, 0, 0) ∧ cd 138 119 = some ((.aload_n 0), 1, 0, 0, 0, 0) ∧ cd 138 120 = some ((.getfield 39), 3, 9, 13, 2, 817) ∧ cd 138 123 = some ((.bipush 6), 2, 0, 0, 0, 0) ∧ cd 138 125 = some ((.iload_n 1), 1, 0, 0, 0, 0) ∧ cd 138 126 = some (.iadd, 1, 0, 0, 0, 0) ∧ cd 138 127 = some (.iaload, 1, 0, 0, 0, 0) ∧ cd 138 128 = some ((.iconst 1), 1, 0, 0, 0, 0) ∧ cd 138 129 = some (.iadd, 1, 0, 0, 0, 0) ∧ cd 138 130 = some ((.aload_n 0), 1, 0, 0, 0, 0) ∧ cd 138 131 = some ((.getfield 30), 3, 9, 8, 2, 812) ∧ cd 138 134 = some ((.iload_n 1), 1, 0, 0, 0, 0) ∧ True := conjL_of 138 c138_1 (by decide +kernel)
theorem D138_2 : cd 138 135 = some (.iaload, 1, 0, 0, 0, 0) ∧ cd 138 136 = some (.irem, 1, 0, 0, 0, 0) ∧ cd 138 137 = some ((.goto 4), 3, 141, 0, 0, 0) ∧ cd 138 140 = some ((.iconst 0), 1, 0, 0, 0, 0) ∧ cd 138 141 = some (.iastore, 1, 0, 0, 0, 0) ∧ cd 138 142 = some ((.iinc 1 1), 3, 0, 0, 0, 0) ∧ cd 138 145 = some ((.goto (-49)), 3, 96, 0, 0, 0) ∧ cd 138 148 = some (.return_, 1, 0, 0, 0, 0) ∧ True := conjL_of 138 c138_2 (by decide +kernel)
theorem Z138 : mZ 138 = 0 ∧ mL 138 = 2 ∧ mK 138 = 9 ∧ hT 138 = [] := ⟨rfl, rfl, rfl, rfl⟩
theorem D139_0 : cd 139 0 = some ((.aload_n 0), 1, 0, 0, 0, 0) ∧ cd 139 1 = some ((.iload_n 1), 1, 0, 0, 0, 0) ∧ cd 139 2 = some ((.iconst (-1)), 1, 0, 0, 0, 0) ∧ cd 139 3 = some ((.iconst 0), 1, 0, 0, 0, 0) ∧ cd 139 4 = some ((.invokevirtual 113), 3, 140, 3, 1, 975) ∧ cd 139 7 = some ((.istore_n 2), 1, 0, 0, 0, 0) ∧ cd 139 8 = some ((.aload_n 0), 1, 0, 0, 0, 0) ∧ cd 139 9 = some ((.iload_n 1), 1, 0, 0, 0, 0) ∧ cd 139 10 = some ((.iconst 1), 1, 0, 0, 0, 0) ∧ cd 139 11 = some ((.iconst 0), 1, 0, 0, 0, 0) ∧ cd 139 12 = some ((.invokevirtual 113), 3, 140, 3, 1, 975) ∧ cd 139 15 = some ((.istore_n 3), 1, 0, 0, 0, 0) ∧ cd 139 16 = some ((.aload_n 0), 1, 0, 0, 0, 0) ∧ cd 139 17 = some ((.bipush 6), 2, 0, 0, 0, 0) ∧ cd 139 19 = some ((.iconst (-1)), 1, 0, 0, 0, 0) ∧ cd 139 20 = some ((.iconst 0), 1, 0, 0, 0, 0) ∧ cd 139 21 = some ((.invokevirtual 113), 3, 140, 3, 1, 975) ∧ cd 139 24 = some ((.istore 4), 2, 0, 0, 0, 0) ∧ cd 139 26 = some ((.aload_n 0), 1, 0, 0, 0, 0) ∧ cd 139 27 = some ((.getfield 70), 3, 9, 11, 0, 815) ∧ cd 139 30 = some ((.tableswitch 111 0 3 #[30, 36, 68, 88]), 30, 0, 0, 0, 0) ∧ cd 139 60 = some ((.aload_n 0), 1, 0, 0, 0, 0) ∧ cd 139 61 = some ((.iload_n 1), 1, 0, 0, 0, 0) ∧ cd 139 62 = some ((.invokevirtual 117), 3, 141, 1, 1, 979) ∧ cd 139 65 = some (.ireturn, 1, 0, 0, 0, 0) ∧ cd 139 66 = some ((.iload_n 2), 1, 0, 0, 0, 0) ∧ cd 139 67 = some ((.iconst (-1)), 1, 0, 0, 0, 0) ∧ cd 139 68 = some ((.if_icmp .eq 24), 3, 92, 0, 0, 0) ∧ cd 139 71 = some ((.aload_n 0), 1, 0, 0, 0, 0) ∧ cd 139 72 = some ((.iload_n 2), 1, 0, 0, 0, 0) ∧ cd 139 73 = some ((.invokevirtual 110), 3, 142, 1, 1, 983) ∧ cd 139 76 = some ((.ifCond .ne 16), 3, 92, 0, 0, 0) ∧ cd 139 79 = some ((.aload_n 0), 1, 0, 0, 0, 0) ∧ cd 139 80 = some ((.iload_n 1), 1, 0, 0, 0, 0) ∧ cd 139 81 = some ((.invokevirtual 110), 3, 142, 1, 1, 983) ∧ cd 139 84 = some ((.ifCond .eq 12), 3, 96, 0, 0, 0) ∧ cd 139 87 = some ((.iload_n 3), 1, 0, 0, 0, 0) ∧ cd 139 88 = some ((.iconst (-1)), 1, 0, 0, 0, 0) ∧ cd 139 89 = some ((.if_icmp .eq 7), 3, 96, 0, 0, 0) ∧ cd 139 92 = some ((.iconst 1), 1, 0, 0, 0, 0) ∧ True := conjL_of 139 c139_0 (by decide +kernel)
theorem D139_1 : cd 139 93 = some ((.goto 4), 3, 97, 0, 0, 0) ∧ cd 139 96 = some ((.iconst 0), 1, 0, 0, 0, 0) ∧ cd 139 97 = some (.ireturn, 1, 0, 0, 0, 0) ∧ cd 139 98 = some ((.aload_n 0), 1, 0, 0, 0, 0) ∧ cd 139 99 = some ((.aload_n 0), 1, 0, 0, 0, 0) ∧ cd 139 100 = some ((.iload_n 1), 1, 0, 0, 0, 0) ∧ cd 139 101 = some ((.iconst 1), 1, 0, 0, 0, 0) ∧ cd 139 102 = some ((.iconst 1), 1, 0, 0, 0, 0) ∧ cd 139 103 = some ((.invokevirtual 113), 3, 140, 3, 1, 975) ∧ cd 139 106 = some ((.invokevirtual 110), 3, 142, 1, 1, 983) ∧ cd 139 109 = some ((.ifCond .ne 7), 3, 116, 0, 0, 0) ∧ cd 139 112 = some ((.iconst 1), 1, 0, 0, 0, 0) ∧ cd 139 113 = some ((.goto 4), 3, 117, 0, 0, 0) ∧ cd 139 116 = some ((.iconst 0), 1, 0, 0, 0, 0) ∧ cd 139 117 = some (.ireturn, 1, 0, 0, 0, 0) ∧ cd 139 118 = some ((.aload_n 0), 1, 0, 0, 0, 0) ∧ cd 139 119 = some ((.getfield 30), 3, 9, 8, 2, 812) ∧ cd 139 122 = some ((.iload_n 1), 1, 0, 0, 0, 0) ∧ cd 139 123 = some (.iaload, 1, 0, 0, 0, 0) ∧ cd 139 124 = some ((.ifCond .eq 11), 3, 135, 0, 0, 0) ∧ cd 139 127 = some ((.aload_n 0), 1, 0, 0, 0, 0) ∧ cd 139 128 = some ((.iload_n 1), 1, 0, 0, 0, 0) ∧ cd 139 129 = some ((.invokevirtual 120), 3, 143, 1, 1, 987) ∧ cd 139 132 = some ((.ifCond .eq 7), 3, 139, 0, 0, 0) ∧ cd 139 135 = some ((.iconst 1), 1, 0, 0, 0, 0) ∧ cd 139 136 = some ((.goto 4), 3, 140, 0, 0, 0) ∧ cd 139 139 = some ((.iconst 0), 1, 0, 0, 0, 0) ∧ cd 139 140 = some (.ireturn, 1, 0, 0, 0, 0) ∧ cd 139 141 = some ((.iload_n 1), 1, 0, 0, 0, 0) ∧ cd 139 142 = some ((.iload 4), 2, 0, 0, 0, 0) ∧ cd 139 144 = some ((.if_icmp .eq 12), 3, 156, 0, 0, 0) ∧ cd 139 147 = some ((.aload_n 0), 1, 0, 0, 0, 0) ∧ cd 139 148 = some ((.iload 4), 2, 0, 0, 0, 0) ∧ cd 139 150 = some ((.invokevirtual 110), 3, 142, 1, 1, 983) ∧ cd 139 153 = some ((.ifCond .ne 7), 3, 160, 0, 0, 0) ∧ cd 139 156 = some ((.iconst 1), 1, 0, 0, 0, 0) ∧ cd 139 157 = some ((.goto 4), 3, 161, 0, 0, 0) ∧ cd 139 160 = some ((.iconst 0), 1, 0, 0, 0, 0) ∧ cd 139 161 = some (.ireturn, 1, 0, 0, 0, 0) ∧ True := conjL_of 139 c139_1 (by decide +kernel)
theorem Z139 : mZ 139 = 2 ∧ mL 139 = 5 ∧ mK 139 = 9 ∧ hT 139 = [] := ⟨rfl, rfl, rfl, rfl⟩
theorem D140 : cd 140 0 = some ((.iload_n 1), 1, 0, 0, 0, 0) ∧ cd 140 1 = some ((.iload_n 2), 1, 0, 0, 0, 0) ∧ cd 140 2 = some (.iadd, 1, 0, 0, 0, 0) ∧ cd 140 3 = some ((.istore 4), 2, 0, 0, 0, 0) ∧ cd 140 5 = some ((.iconst 0), 1, 0, 0, 0, 0) ∧ cd 140 6 = some ((.istore 5), 2, 0, 0, 0, 0) ∧ cd 140 8 = some ((.iload 5), 2, 0, 0, 0, 0) ∧ cd 140 10 = some ((.bipush 6), 2, 0, 0, 0, 0) ∧ cd 140 12 = some ((.if_icmp .ge 61), 3, 73, 0, 0, 0) ∧ cd 140 15 = some ((.iload_n 3), 1, 0, 0, 0, 0) ∧ cd 140 16 = some ((.ifCond .eq 14), 3, 30, 0, 0, 0) ∧ cd 140 19 = some ((.iload 4), 2, 0, 0, 0, 0) ∧ cd 140 21 = some ((.bipush 6), 2, 0, 0, 0, 0) ∧ cd 140 23 = some (.iadd, 1, 0, 0, 0, 0) ∧ cd 140 24 = some ((.bipush 6), 2, 0, 0, 0, 0) ∧ cd 140 26 = some (.irem, 1, 0, 0, 0, 0) ∧ cd 140 27 = some ((.goto 5), 3, 32, 0, 0, 0) ∧ cd 140 30 = some ((.iload 4), 2, 0, 0, 0, 0) ∧ cd 140 32 = some ((.istore 4), 2, 0, 0, 0, 0) ∧ cd 140 34 = some ((.iload 4), 2, 0, 0, 0, 0) ∧ cd 140 36 = some ((.ifCond .lt 9), 3, 45, 0, 0, 0) ∧ cd 140 39 = some ((.iload 4), 2, 0, 0, 0, 0) ∧ cd 140 41 = some ((.iconst 5), 1, 0, 0, 0, 0) ∧ cd 140 42 = some ((.if_icmp .le 5), 3, 47, 0, 0, 0) ∧ cd 140 45 = some ((.iconst (-1)), 1, 0, 0, 0, 0) ∧ cd 140 46 = some (.ireturn, 1, 0, 0, 0, 0) ∧ cd 140 47 = some ((.aload_n 0), 1, 0, 0, 0, 0) ∧ cd 140 48 = some ((.getfield 24), 3, 9, 5, 2, 809) ∧ cd 140 51 = some ((.iload 4), 2, 0, 0, 0, 0) ∧ cd 140 53 = some (.iaload, 1, 0, 0, 0, 0) ∧ cd 140 54 = some ((.iconst (-1)), 1, 0, 0, 0, 0) ∧ cd 140 55 = some ((.if_icmp .eq 6), 3, 61, 0, 0, 0) ∧ cd 140 58 = some ((.iload 4), 2, 0, 0, 0, 0) ∧ cd 140 60 = some (.ireturn, 1, 0, 0, 0, 0) ∧ cd 140 61 = some ((.iload 4), 2, 0, 0, 0, 0) ∧ cd 140 63 = some ((.iload_n 2), 1, 0, 0, 0, 0) ∧ cd 140 64 = some (.iadd, 1, 0, 0, 0, 0) ∧ cd 140 65 = some ((.istore 4), 2, 0, 0, 0, 0) ∧ cd 140 67 = some ((.iinc 5 1), 3, 0, 0, 0, 0) ∧ cd 140 70 = some ((.goto (-62)), 3, 8, 0, 0, 0) ∧ cd 140 73 = some ((.iconst (-1)), 1, 0, 0, 0, 0) ∧ cd 140 74 = some (.ireturn, 1, 0, 0, 0, 0) ∧ True := conjL_of 140 c140 (by decide +kernel)
theorem Z140 : mZ 140 = 1 ∧ mL 140 = 6 ∧ mK 140 = 9 ∧ hT 140 = [] := ⟨rfl, rfl, rfl, rfl⟩
theorem D141 : cd 141 0 = some ((.iconst 1), 1, 0, 0, 0, 0) ∧ cd 141 1 = some ((.istore_n 2), 1, 0, 0, 0, 0) ∧ cd 141 2 = some ((.iconst 0), 1, 0, 0, 0, 0) ∧ cd 141 3 = some ((.istore_n 3), 1, 0, 0, 0, 0) ∧ cd 141 4 = some ((.iload_n 3), 1, 0, 0, 0, 0) ∧ cd 141 5 = some ((.iload_n 1), 1, 0, 0, 0, 0) ∧ cd 141 6 = some ((.if_icmp .ge 37), 3, 43, 0, 0, 0) ∧ cd 141 9 = some ((.iload_n 2), 1, 0, 0, 0, 0) ∧ cd 141 10 = some ((.ifCond .eq 25), 3, 35, 0, 0, 0) ∧ cd 141 13 = some ((.aload_n 0), 1, 0, 0, 0, 0) ∧ cd 141 14 = some ((.getfield 24), 3, 9, 5, 2, 809) ∧ cd 141 17 = some ((.iload_n 3), 1, 0, 0, 0, 0) ∧ cd 141 18 = some (.iaload, 1, 0, 0, 0, 0) ∧ cd 141 19 = some ((.iconst (-1)), 1, 0, 0, 0, 0) ∧ cd 141 20 = some ((.if_icmp .eq 11), 3, 31, 0, 0, 0) ∧ cd 141 23 = some ((.aload_n 0), 1, 0, 0, 0, 0) ∧ cd 141 24 = some ((.iload_n 3), 1, 0, 0, 0, 0) ∧ cd 141 25 = some ((.invokevirtual 110), 3, 142, 1, 1, 983) ∧ cd 141 28 = some ((.ifCond .eq 7), 3, 35, 0, 0, 0) ∧ cd 141 31 = some ((.iconst 1), 1, 0, 0, 0, 0) ∧ cd 141 32 = some ((.goto 4), 3, 36, 0, 0, 0) ∧ cd 141 35 = some ((.iconst 0), 1, 0, 0, 0, 0) ∧ cd 141 36 = some ((.istore_n 2), 1, 0, 0, 0, 0) ∧ cd 141 37 = some ((.iinc 3 1), 3, 0, 0, 0, 0) ∧ cd 141 40 = some ((.goto (-36)), 3, 4, 0, 0, 0) ∧ cd 141 43 = some ((.iload_n 2), 1, 0, 0, 0, 0) ∧ cd 141 44 = some (.ireturn, 1, 0, 0, 0, 0) ∧ True := conjL_of 141 c141 (by decide +kernel)
theorem Z141 : mZ 141 = 2 ∧ mL 141 = 4 ∧ mK 141 = 9 ∧ hT 141 = [] := ⟨rfl, rfl, rfl, rfl⟩
theorem D142 : cd 142 0 = some ((.aload_n 0), 1, 0, 0, 0, 0) ∧ cd 142 1 = some ((.getfield 20), 3, 9, 4, 2, 808) ∧ cd 142 4 = some ((.bipush 32), 2, 0, 0, 0, 0) ∧ cd 142 6 = some ((.aload_n 0), 1, 0, 0, 0, 0) ∧ cd 142 7 = some ((.getfield 24), 3, 9, 5, 2, 809) ∧ cd 142 10 = some ((.iload_n 1), 1, 0, 0, 0, 0) ∧ cd 142 11 = some (.iaload, 1, 0, 0, 0, 0) ∧ cd 142 12 = some (.imul, 1, 0, 0, 0, 0) ∧ cd 142 13 = some ((.aload_n 0), 1, 0, 0, 0, 0) ∧ cd 142 14 = some ((.getfield 39), 3, 9, 13, 2, 817) ∧ cd 142 17 = some ((.iload_n 1), 1, 0, 0, 0, 0) ∧ cd 142 18 = some (.iaload, 1, 0, 0, 0, 0) ∧ cd 142 19 = some (.iadd, 1, 0, 0, 0, 0) ∧ cd 142 20 = some (.baload, 1, 0, 0, 0, 0) ∧ cd 142 21 = some (.ireturn, 1, 0, 0, 0, 0) ∧ True := conjL_of 142 c142 (by decide +kernel)
theorem Z142 : mZ 142 = 2 ∧ mL 142 = 2 ∧ mK 142 = 9 ∧ hT 142 = [] := ⟨rfl, rfl, rfl, rfl⟩
theorem D143 : cd 143 0 = some ((.aload_n 0), 1, 0, 0, 0, 0) ∧ cd 143 1 = some ((.getfield 30), 3, 9, 8, 2, 812) ∧ cd 143 4 = some ((.iload_n 1), 1, 0, 0, 0, 0) ∧ cd 143 5 = some (.iaload, 1, 0, 0, 0, 0) ∧ cd 143 6 = some ((.ifCond .le 29), 3, 35, 0, 0, 0) ∧ cd 143 9 = some ((.aload_n 0), 1, 0, 0, 0, 0) ∧ cd 143 10 = some ((.getfield 33), 3, 9, 9, 2, 813) ∧ cd 143 13 = some ((.bipush 64), 2, 0, 0, 0, 0) ∧ cd 143 15 = some ((.iload_n 1), 1, 0, 0, 0, 0) ∧ cd 143 16 = some (.imul, 1, 0, 0, 0, 0) ∧ cd 143 17 = some ((.aload_n 0), 1, 0, 0, 0, 0) ∧ cd 143 18 = some ((.getfield 39), 3, 9, 13, 2, 817) ∧ cd 143 21 = some ((.bipush 6), 2, 0, 0, 0, 0) ∧ cd 143 23 = some ((.iload_n 1), 1, 0, 0, 0, 0) ∧ cd 143 24 = some (.iadd, 1, 0, 0, 0, 0) ∧ cd 143 25 = some (.iaload, 1, 0, 0, 0, 0) ∧ cd 143 26 = some (.iadd, 1, 0, 0, 0, 0) ∧ cd 143 27 = some (.baload, 1, 0, 0, 0, 0) ∧ cd 143 28 = some ((.ifCond .eq 7), 3, 35, 0, 0, 0) ∧ cd 143 31 = some ((.iconst 1), 1, 0, 0, 0, 0) ∧ cd 143 32 = some ((.goto 4), 3, 36, 0, 0, 0) ∧ cd 143 35 = some ((.iconst 0), 1, 0, 0, 0, 0) ∧ cd 143 36 = some (.ireturn, 1, 0, 0, 0, 0) ∧ True := conjL_of 143 c143 (by decide +kernel)
theorem Z143 : mZ 143 = 2 ∧ mL 143 = 2 ∧ mK 143 = 9 ∧ hT 143 = [] := ⟨rfl, rfl, rfl, rfl⟩
theorem D144 : cd 144 0 = some ((.aload_n 0), 1, 0, 0, 0, 0) ∧ cd 144 1 = some ((.getfield 27), 3, 9, 6, 2, 810) ∧ cd 144 4 = some ((.iload_n 1), 1, 0, 0, 0, 0) ∧ cd 144 5 = some (.iaload, 1, 0, 0, 0, 0) ∧ cd 144 6 = some ((.istore_n 2), 1, 0, 0, 0, 0) ∧ cd 144 7 = some ((.aload_n 0), 1, 0, 0, 0, 0) ∧ cd 144 8 = some ((.getfield 73), 3, 9, 12, 0, 816) ∧ cd 144 11 = some ((.ifCond .ne 11), 3, 22, 0, 0, 0) ∧ cd 144 14 = some ((.aload_n 0), 1, 0, 0, 0, 0) ∧ cd 144 15 = some ((.iload_n 2), 1, 0, 0, 0, 0) ∧ cd 144 16 = some ((.invokevirtual 136), 3, 145, 1, 1, 995) ∧ cd 144 19 = some ((.goto 24), 3, 43, 0, 0, 0) ∧ cd 144 22 = some ((.aload_n 0), 1, 0, 0, 0, 0) ∧ cd 144 23 = some ((.getfield 73), 3, 9, 12, 0, 816) ∧ cd 144 26 = some ((.iconst 1), 1, 0, 0, 0, 0) ∧ cd 144 27 = some ((.if_icmp .ne 11), 3, 38, 0, 0, 0) ∧ cd 144 30 = some ((.aload_n 0), 1, 0, 0, 0, 0) ∧ cd 144 31 = some ((.iload_n 2), 1, 0, 0, 0, 0) ∧ cd 144 32 = some ((.invokevirtual 140), 3, 148, 1, 1, 1007) ∧ cd 144 35 = some ((.goto 8), 3, 43, 0, 0, 0) ∧ cd 144 38 = some ((.aload_n 0), 1, 0, 0, 0, 0) ∧ cd 144 39 = some ((.iload_n 2), 1, 0, 0, 0, 0) ∧ cd 144 40 = some ((.invokevirtual 143), 3, 149, 1, 1, 1011) ∧ cd 144 43 = some ((.istore_n 2), 1, 0, 0, 0, 0) ∧ cd 144 44 = some ((.aload_n 0), 1, 0, 0, 0, 0) ∧ cd 144 45 = some ((.getfield 27), 3, 9, 6, 2, 810) ∧ cd 144 48 = some ((.iload_n 2), 1, 0, 0, 0, 0) ∧ cd 144 49 = some (.iaload, 1, 0, 0, 0, 0) ∧ cd 144 50 = some (.ireturn, 1, 0, 0, 0, 0) ∧ True := conjL_of 144 c144 (by decide +kernel)
theorem Z144 : mZ 144 = 1 ∧ mL 144 = 3 ∧ mK 144 = 9 ∧ hT 144 = [] := ⟨rfl, rfl, rfl, rfl⟩
theorem D145 : cd 145 0 = some ((.iload_n 1), 1, 0, 0, 0, 0) ∧ cd 145 1 = some ((.istore_n 2), 1, 0, 0, 0, 0) ∧ cd 145 2 = some ((.iconst 0), 1, 0, 0, 0, 0) ∧ cd 145 3 = some ((.istore_n 3), 1, 0, 0, 0, 0) ∧ cd 145 4 = some ((.iload_n 3), 1, 0, 0, 0, 0) ∧ cd 145 5 = some ((.bipush 6), 2, 0, 0, 0, 0) ∧ cd 145 7 = some ((.if_icmp .ge 30), 3, 37, 0, 0, 0) ∧ cd 145 10 = some ((.aload_n 0), 1, 0, 0, 0, 0) ∧ cd 145 11 = some ((.getfield 24), 3, 9, 5, 2, 809) ∧ cd 145 14 = some ((.iload_n 3), 1, 0, 0, 0, 0) ∧ cd 145 15 = some (.iaload, 1, 0, 0, 0, 0) ∧ cd 145 16 = some ((.iconst (-1)), 1, 0, 0, 0, 0) ∧ cd 145 17 = some ((.if_icmp .ne 7), 3, 24, 0, 0, 0) ∧ cd 145 20 = some ((.iload_n 2), 1, 0, 0, 0, 0) ∧ cd 145 21 = some ((.goto 9), 3, 30, 0, 0, 0) ∧ cd 145 24 = some ((.aload_n 0), 1, 0, 0, 0, 0) ∧ cd 145 25 = some ((.iload_n 3), 1, 0, 0, 0, 0) ∧ cd 145 26 = some ((.iload_n 2), 1, 0, 0, 0, 0) ∧ cd 145 27 = some ((.invokevirtual 129), 3, 146, 2, 1, 999) ∧ cd 145 30 = some ((.istore_n 2), 1, 0, 0, 0, 0) ∧ cd 145 31 = some ((.iinc 3 1), 3, 0, 0, 0, 0) ∧ cd 145 34 = some ((.goto (-30)), 3, 4, 0, 0, 0) ∧ cd 145 37 = some ((.aload_n 0), 1, 0, 0, 0, 0) ∧ cd 145 38 = some ((.getfield 66), 3, 9, 7, 1, 811) ∧ cd 145 41 = some ((.ifCond .ne 5), 3, 46, 0, 0, 0) ∧ cd 145 44 = some ((.iload_n 2), 1, 0, 0, 0, 0) ∧ cd 145 45 = some (.ireturn, 1, 0, 0, 0, 0) ∧ cd 145 46 = some ((.aload_n 0), 1, 0, 0, 0, 0) ∧ cd 145 47 = some ((.getfield 27), 3, 9, 6, 2, 810) ∧ cd 145 50 = some ((.bipush 32), 2, 0, 0, 0, 0) ∧ cd 145 52 = some ((.iload_n 2), 1, 0, 0, 0, 0) ∧ cd 145 53 = some (.iadd, 1, 0, 0, 0, 0) ∧ cd 145 54 = some (.iaload, 1, 0, 0, 0, 0) ∧ cd 145 55 = some ((.istore_n 2), 1, 0, 0, 0, 0) ∧ cd 145 56 = some ((.iconst 5), 1, 0, 0, 0, 0) ∧ cd 145 57 = some ((.istore_n 3), 1, 0, 0, 0, 0) ∧ cd 145 58 = some ((.iload_n 3), 1, 0, 0, 0, 0) ∧ cd 145 59 = some ((.ifCond .lt 30), 3, 89, 0, 0, 0) ∧ cd 145 62 = some ((.aload_n 0), 1, 0, 0, 0, 0) ∧ cd 145 63 = some ((.getfield 24), 3, 9, 5, 2, 809) ∧ cd 145 66 = some ((.iload_n 3), 1, 0, 0, 0, 0) ∧ cd 145 67 = some (.iaload, 1, 0, 0, 0, 0) ∧ cd 145 68 = some ((.iconst (-1)), 1, 0, 0, 0, 0) ∧ cd 145 69 = some ((.if_icmp .ne 7), 3, 76, 0, 0, 0) ∧ cd 145 72 = some ((.iload_n 2), 1, 0, 0, 0, 0) ∧ cd 145 73 = some ((.goto 9), 3, 82, 0, 0, 0) ∧ cd 145 76 = some ((.aload_n 0), 1, 0, 0, 0, 0) ∧ cd 145 77 = some ((.iload_n 3), 1, 0, 0, 0, 0) ∧ cd 145 78 = some ((.iload_n 2), 1, 0, 0, 0, 0) ∧ cd 145 79 = some ((.invokevirtual 133), 3, 147, 2, 1, 1003) ∧ cd 145 82 = some ((.istore_n 2), 1, 0, 0, 0, 0) ∧ cd 145 83 = some ((.iinc 3 (-1)), 3, 0, 0, 0, 0) ∧ cd 145 86 = some ((.goto (-28)), 3, 58, 0, 0, 0) ∧ cd 145 89 = some ((.iload_n 2), 1, 0, 0, 0, 0) ∧ cd 145 90 = some (.ireturn, 1, 0, 0, 0, 0) ∧ True := conjL_of 145 c145 (by decide +kernel)
theorem Z145 : mZ 145 = 1 ∧ mL 145 = 4 ∧ mK 145 = 9 ∧ hT 145 = [] := ⟨rfl, rfl, rfl, rfl⟩
theorem D146 : cd 146 0 = some ((.aload_n 0), 1, 0, 0, 0, 0) ∧ cd 146 1 = some ((.getfield 39), 3, 9, 13, 2, 817) ∧ cd 146 4 = some ((.iload_n 1), 1, 0, 0, 0, 0) ∧ cd 146 5 = some (.iaload, 1, 0, 0, 0, 0) ∧ cd 146 6 = some ((.aload_n 0), 1, 0, 0, 0, 0) ∧ cd 146 7 = some ((.getfield 17), 3, 9, 3, 2, 807) ∧ cd 146 10 = some ((.aload_n 0), 1, 0, 0, 0, 0) ∧ cd 146 11 = some ((.getfield 24), 3, 9, 5, 2, 809) ∧ cd 146 14 = some ((.iload_n 1), 1, 0, 0, 0, 0) ∧ cd 146 15 = some (.iaload, 1, 0, 0, 0, 0) ∧ cd 146 16 = some (.iaload, 1, 0, 0, 0, 0) ∧ cd 146 17 = some (.isub, 1, 0, 0, 0, 0) ∧ cd 146 18 = some ((.aload_n 0), 1, 0, 0, 0, 0) ∧ cd 146 19 = some ((.getfield 7), 3, 9, 1, 0, 805) ∧ cd 146 22 = some (.iadd, 1, 0, 0, 0, 0) ∧ cd 146 23 = some ((.istore_n 3), 1, 0, 0, 0, 0) ∧ cd 146 24 = some ((.aload_n 0), 1, 0, 0, 0, 0) ∧ cd 146 25 = some ((.getfield 13), 3, 9, 2, 2, 806) ∧ cd 146 28 = some ((.bipush 32), 2, 0, 0, 0, 0) ∧ cd 146 30 = some ((.aload_n 0), 1, 0, 0, 0, 0) ∧ cd 146 31 = some ((.getfield 24), 3, 9, 5, 2, 809) ∧ cd 146 34 = some ((.iload_n 1), 1, 0, 0, 0, 0) ∧ cd 146 35 = some (.iaload, 1, 0, 0, 0, 0) ∧ cd 146 36 = some (.imul, 1, 0, 0, 0, 0) ∧ cd 146 37 = some ((.iload_n 2), 1, 0, 0, 0, 0) ∧ cd 146 38 = some ((.iload_n 3), 1, 0, 0, 0, 0) ∧ cd 146 39 = some (.iadd, 1, 0, 0, 0, 0) ∧ cd 146 40 = some ((.aload_n 0), 1, 0, 0, 0, 0) ∧ cd 146 41 = some ((.getfield 7), 3, 9, 1, 0, 805) ∧ cd 146 44 = some (.irem, 1, 0, 0, 0, 0) ∧ cd 146 45 = some (.iadd, 1, 0, 0, 0, 0) ∧ cd 146 46 = some (.iaload, 1, 0, 0, 0, 0) ∧ cd 146 47 = some ((.iload_n 3), 1, 0, 0, 0, 0) ∧ cd 146 48 = some (.isub, 1, 0, 0, 0, 0) ∧ cd 146 49 = some ((.iconst 2), 1, 0, 0, 0, 0) ∧ cd 146 50 = some ((.aload_n 0), 1, 0, 0, 0, 0) ∧ cd 146 51 = some ((.getfield 7), 3, 9, 1, 0, 805) ∧ cd 146 54 = some (.imul, 1, 0, 0, 0, 0) ∧ cd 146 55 = some (.iadd, 1, 0, 0, 0, 0) ∧ cd 146 56 = some ((.aload_n 0), 1, 0, 0, 0, 0) ∧ cd 146 57 = some ((.getfield 7), 3, 9, 1, 0, 805) ∧ cd 146 60 = some (.irem, 1, 0, 0, 0, 0) ∧ cd 146 61 = some (.ireturn, 1, 0, 0, 0, 0) ∧ True := conjL_of 146 c146 (by decide +kernel)
theorem Z146 : mZ 146 = 1 ∧ mL 146 = 4 ∧ mK 146 = 9 ∧ hT 146 = [] := ⟨rfl, rfl, rfl, rfl⟩
theorem D147 : cd 147 0 = some ((.iconst 0), 1, 0, 0, 0, 0) ∧ cd 147 1 = some ((.istore_n 3), 1, 0, 0, 0, 0) ∧ cd 147 2 = some ((.aload_n 0), 1, 0, 0, 0, 0) ∧ cd 147 3 = some ((.iload_n 1), 1, 0, 0, 0, 0) ∧ cd 147 4 = some ((.iload_n 3), 1, 0, 0, 0, 0) ∧ cd 147 5 = some ((.invokevirtual 129), 3, 146, 2, 1, 999) ∧ cd 147 8 = some ((.iload_n 2), 1, 0, 0, 0, 0) ∧ cd 147 9 = some ((.if_icmp .eq 9), 3, 18, 0, 0, 0) ∧ cd 147 12 = some ((.iinc 3 1), 3, 0, 0, 0, 0) ∧ cd 147 15 = some ((.goto (-13)), 3, 2, 0, 0, 0) ∧ cd 147 18 = some ((.iload_n 3), 1, 0, 0, 0, 0) ∧ cd 147 19 = some (.ireturn, 1, 0, 0, 0, 0) ∧ True := conjL_of 147 c147 (by decide +kernel)
theorem Z147 : mZ 147 = 1 ∧ mL 147 = 4 ∧ mK 147 = 9 ∧ hT 147 = [] := ⟨rfl, rfl, rfl, rfl⟩
theorem D148 : cd 148 0 = some ((.iload_n 1), 1, 0, 0, 0, 0) ∧ cd 148 1 = some ((.istore_n 2), 1, 0, 0, 0, 0) ∧ cd 148 2 = some ((.iconst 0), 1, 0, 0, 0, 0) ∧ cd 148 3 = some ((.istore_n 3), 1, 0, 0, 0, 0) ∧ cd 148 4 = some ((.iload_n 3), 1, 0, 0, 0, 0) ∧ cd 148 5 = some ((.iconst 5), 1, 0, 0, 0, 0) ∧ cd 148 6 = some ((.if_icmp .ge 43), 3, 49, 0, 0, 0) ∧ cd 148 9 = some ((.aload_n 0), 1, 0, 0, 0, 0) ∧ cd 148 10 = some ((.getfield 7), 3, 9, 1, 0, 805) ∧ cd 148 13 = some ((.bipush 32), 2, 0, 0, 0, 0) ∧ cd 148 15 = some ((.if_icmp .ne 34), 3, 49, 0, 0, 0) ∧ cd 148 18 = some ((.aload_n 0), 1, 0, 0, 0, 0) ∧ cd 148 19 = some ((.iload_n 3), 1, 0, 0, 0, 0) ∧ cd 148 20 = some ((.invokevirtual 120), 3, 143, 1, 1, 987) ∧ cd 148 23 = some ((.aload_n 0), 1, 0, 0, 0, 0) ∧ cd 148 24 = some ((.iload_n 3), 1, 0, 0, 0, 0) ∧ cd 148 25 = some ((.iconst 5), 1, 0, 0, 0, 0) ∧ cd 148 26 = some (.iadd, 1, 0, 0, 0, 0) ∧ cd 148 27 = some ((.invokevirtual 120), 3, 143, 1, 1, 987) ∧ cd 148 30 = some ((.if_icmp .eq 11), 3, 41, 0, 0, 0) ∧ cd 148 33 = some ((.iload_n 2), 1, 0, 0, 0, 0) ∧ cd 148 34 = some ((.iconst 1), 1, 0, 0, 0, 0) ∧ cd 148 35 = some ((.iload_n 3), 1, 0, 0, 0, 0) ∧ cd 148 36 = some (.ishl, 1, 0, 0, 0, 0) ∧ cd 148 37 = some (.ixor, 1, 0, 0, 0, 0) ∧ cd 148 38 = some ((.goto 4), 3, 42, 0, 0, 0) ∧ cd 148 41 = some ((.iload_n 2), 1, 0, 0, 0, 0) ∧ cd 148 42 = some ((.istore_n 2), 1, 0, 0, 0, 0) ∧ cd 148 43 = some ((.iinc 3 1), 3, 0, 0, 0, 0) ∧ cd 148 46 = some ((.goto (-42)), 3, 4, 0, 0, 0) ∧ cd 148 49 = some ((.iload_n 2), 1, 0, 0, 0, 0) ∧ cd 148 50 = some (.ireturn, 1, 0, 0, 0, 0) ∧ True := conjL_of 148 c148 (by decide +kernel)
theorem Z148 : mZ 148 = 1 ∧ mL 148 = 4 ∧ mK 148 = 9 ∧ hT 148 = [] := ⟨rfl, rfl, rfl, rfl⟩
theorem D149_0 : cd 149 0 = some ((.iconst 0), 1, 0, 0, 0, 0) ∧ cd 149 1 = some ((.istore_n 2), 1, 0, 0, 0, 0) ∧ cd 149 2 = some ((.iconst 0), 1, 0, 0, 0, 0) ∧ cd 149 3 = some ((.istore_n 3), 1, 0, 0, 0, 0) ∧ cd 149 4 = some ((.iload_n 3), 1, 0, 0, 0, 0) ∧ cd 149 5 = some ((.bipush 27), 2, 0, 0, 0, 0) ∧ cd 149 7 = some ((.if_icmp .ge 99), 3, 106, 0, 0, 0) ∧ cd 149 10 = some ((.aload_n 0), 1, 0, 0, 0, 0) ∧ cd 149 11 = some ((.getfield 36), 3, 9, 10, 2, 814) ∧ cd 149 14 = some ((.iconst 2), 1, 0, 0, 0, 0) ∧ cd 149 15 = some ((.iload_n 3), 1, 0, 0, 0, 0) ∧ cd 149 16 = some (.imul, 1, 0, 0, 0, 0) ∧ cd 149 17 = some (.iaload, 1, 0, 0, 0, 0) ∧ cd 149 18 = some ((.iconst (-1)), 1, 0, 0, 0, 0) ∧ cd 149 19 = some ((.if_icmp .eq 22), 3, 41, 0, 0, 0) ∧ cd 149 22 = some ((.aload_n 0), 1, 0, 0, 0, 0) ∧ cd 149 23 = some ((.aload_n 0), 1, 0, 0, 0, 0) ∧ cd 149 24 = some ((.getfield 36), 3, 9, 10, 2, 814) ∧ cd 149 27 = some ((.iconst 2), 1, 0, 0, 0, 0) ∧ cd 149 28 = some ((.iload_n 3), 1, 0, 0, 0, 0) ∧ cd 149 29 = some (.imul, 1, 0, 0, 0, 0) ∧ cd 149 30 = some (.iaload, 1, 0, 0, 0, 0) ∧ cd 149 31 = some ((.invokevirtual 120), 3, 143, 1, 1, 987) ∧ cd 149 34 = some ((.ifCond .eq 7), 3, 41, 0, 0, 0) ∧ cd 149 37 = some ((.iconst 1), 1, 0, 0, 0, 0) ∧ cd 149 38 = some ((.goto 4), 3, 42, 0, 0, 0) ∧ cd 149 41 = some ((.iconst 0), 1, 0, 0, 0, 0) ∧ cd 149 42 = some ((.istore 4), 2, 0, 0, 0, 0) ∧ cd 149 44 = some ((.aload_n 0), 1, 0, 0, 0, 0) ∧ cd 149 45 = some ((.getfield 36), 3, 9, 10, 2, 814) ∧ cd 149 48 = some ((.iconst 2), 1, 0, 0, 0, 0) ∧ cd 149 49 = some ((.iload_n 3), 1, 0, 0, 0, 0) ∧ cd 149 50 = some (.imul, 1, 0, 0, 0, 0) ∧ cd 149 51 = some ((.iconst 1), 1, 0, 0, 0, 0) ∧ cd 149 52 = some (.iadd, 1, 0, 0, 0, 0) ∧ cd 149 53 = some (.iaload, 1, 0, 0, 0, 0) ∧ cd 149 54 = some ((.iconst (-1)), 1, 0, 0, 0, 0) ∧ cd 149 55 = some ((.if_icmp .eq 24), 3, 79, 0, 0, 0) ∧ cd 149 58 = some ((.aload_n 0), 1, 0, 0, 0, 0) ∧ cd 149 59 = some ((.aload_n 0), 1, 0, 0, 0, 0) ∧ True := conjL_of 149 c149_0 (by decide +kernel)
theorem D149_1 : cd 149 60 = some ((.getfield 36), 3, 9, 10, 2, 814) ∧ cd 149 63 = some ((.iconst 2), 1, 0, 0, 0, 0) ∧ cd 149 64 = some ((.iload_n 3), 1, 0, 0, 0, 0) ∧ cd 149 65 = some (.imul, 1, 0, 0, 0, 0) ∧ cd 149 66 = some ((.iconst 1), 1, 0, 0, 0, 0) ∧ cd 149 67 = some (.iadd, 1, 0, 0, 0, 0) ∧ cd 149 68 = some (.iaload, 1, 0, 0, 0, 0) ∧ cd 149 69 = some ((.invokevirtual 120), 3, 143, 1, 1, 987) ∧ cd 149 72 = some ((.ifCond .eq 7), 3, 79, 0, 0, 0) ∧ cd 149 75 = some ((.iconst 1), 1, 0, 0, 0, 0) ∧ cd 149 76 = some ((.goto 4), 3, 80, 0, 0, 0) ∧ cd 149 79 = some ((.iconst 0), 1, 0, 0, 0, 0) ∧ cd 149 80 = some ((.istore 5), 2, 0, 0, 0, 0) ∧ cd 149 82 = some ((.iload 4), 2, 0, 0, 0, 0) ∧ cd 149 84 = some ((.ifCond .ne 8), 3, 92, 0, 0, 0) ∧ cd 149 87 = some ((.iload 5), 2, 0, 0, 0, 0) ∧ cd 149 89 = some ((.ifCond .eq 9), 3, 98, 0, 0, 0) ∧ cd 149 92 = some ((.iload_n 2), 1, 0, 0, 0, 0) ∧ cd 149 93 = some ((.iconst 1), 1, 0, 0, 0, 0) ∧ cd 149 94 = some (.iadd, 1, 0, 0, 0, 0) ∧ cd 149 95 = some ((.goto 4), 3, 99, 0, 0, 0) ∧ cd 149 98 = some ((.iload_n 2), 1, 0, 0, 0, 0) ∧ cd 149 99 = some ((.istore_n 2), 1, 0, 0, 0, 0) ∧ cd 149 100 = some ((.iinc 3 1), 3, 0, 0, 0, 0) ∧ cd 149 103 = some ((.goto (-99)), 3, 4, 0, 0, 0) ∧ cd 149 106 = some ((.iload_n 2), 1, 0, 0, 0, 0) ∧ cd 149 107 = some ((.iload_n 1), 1, 0, 0, 0, 0) ∧ cd 149 108 = some (.isub, 1, 0, 0, 0, 0) ∧ cd 149 109 = some ((.iconst 2), 1, 0, 0, 0, 0) ∧ cd 149 110 = some ((.aload_n 0), 1, 0, 0, 0, 0) ∧ cd 149 111 = some ((.getfield 7), 3, 9, 1, 0, 805) ∧ cd 149 114 = some (.imul, 1, 0, 0, 0, 0) ∧ cd 149 115 = some (.iadd, 1, 0, 0, 0, 0) ∧ cd 149 116 = some ((.aload_n 0), 1, 0, 0, 0, 0) ∧ cd 149 117 = some ((.getfield 7), 3, 9, 1, 0, 805) ∧ cd 149 120 = some (.irem, 1, 0, 0, 0, 0) ∧ cd 149 121 = some (.ireturn, 1, 0, 0, 0, 0) ∧ True := conjL_of 149 c149_1 (by decide +kernel)
theorem Z149 : mZ 149 = 1 ∧ mL 149 = 6 ∧ mK 149 = 9 ∧ hT 149 = [] := ⟨rfl, rfl, rfl, rfl⟩
theorem D150 : cd 150 0 = some ((.aload_n 0), 1, 0, 0, 0, 0) ∧ cd 150 1 = some ((.aload_n 0), 1, 0, 0, 0, 0) ∧ cd 150 2 = some ((.iload_n 1), 1, 0, 0, 0, 0) ∧ cd 150 3 = some ((.invokevirtual 96), 3, 120, 1, 1, 896) ∧ cd 150 6 = some ((.aload_n 0), 1, 0, 0, 0, 0) ∧ cd 150 7 = some ((.getfield 82), 3, 9, 19, 1, 823) ∧ cd 150 10 = some ((.ifCond .ne 7), 3, 17, 0, 0, 0) ∧ cd 150 13 = some ((.iconst 1), 1, 0, 0, 0, 0) ∧ cd 150 14 = some ((.goto 4), 3, 18, 0, 0, 0) ∧ cd 150 17 = some ((.iconst 0), 1, 0, 0, 0, 0) ∧ cd 150 18 = some ((.iconst 1), 1, 0, 0, 0, 0) ∧ cd 150 19 = some ((.invokevirtual 88), 3, 117, 3, 1, 885) ∧ cd 150 22 = some ((.ifCond .ne 5), 3, 27, 0, 0, 0) ∧ cd 150 25 = some ((.iconst 0), 1, 0, 0, 0, 0) ∧ cd 150 26 = some (.ireturn, 1, 0, 0, 0, 0) ∧ cd 150 27 = some ((.aload_n 0), 1, 0, 0, 0, 0) ∧ cd 150 28 = some ((.invokevirtual 146), 3, 137, 0, 1, 963) ∧ cd 150 31 = some ((.iconst 0), 1, 0, 0, 0, 0) ∧ cd 150 32 = some ((.istore_n 2), 1, 0, 0, 0, 0) ∧ cd 150 33 = some ((.aload_n 0), 1, 0, 0, 0, 0) ∧ cd 150 34 = some ((.iload_n 2), 1, 0, 0, 0, 0) ∧ cd 150 35 = some ((.invokevirtual 149), 3, 144, 1, 1, 991) ∧ cd 150 38 = some ((.iload_n 1), 1, 0, 0, 0, 0) ∧ cd 150 39 = some ((.if_icmp .eq 9), 3, 48, 0, 0, 0) ∧ cd 150 42 = some ((.iinc 2 1), 3, 0, 0, 0, 0) ∧ cd 150 45 = some ((.goto (-12)), 3, 33, 0, 0, 0) ∧ cd 150 48 = some ((.iload_n 2), 1, 0, 0, 0, 0) ∧ cd 150 49 = some (.ireturn, 1, 0, 0, 0, 0) ∧ True := conjL_of 150 c150 (by decide +kernel)
theorem Z150 : mZ 150 = 1 ∧ mL 150 = 3 ∧ mK 150 = 9 ∧ hT 150 = [] := ⟨rfl, rfl, rfl, rfl⟩
theorem D151 : cd 151 0 = some ((.aload_n 0), 1, 0, 0, 0, 0) ∧ cd 151 1 = some ((.aload_n 0), 1, 0, 0, 0, 0) ∧ cd 151 2 = some ((.iload_n 1), 1, 0, 0, 0, 0) ∧ cd 151 3 = some ((.invokevirtual 96), 3, 120, 1, 1, 896) ∧ cd 151 6 = some ((.iconst 1), 1, 0, 0, 0, 0) ∧ cd 151 7 = some ((.iconst 1), 1, 0, 0, 0, 0) ∧ cd 151 8 = some ((.invokevirtual 88), 3, 117, 3, 1, 885) ∧ cd 151 11 = some ((.ifCond .eq 11), 3, 22, 0, 0, 0) ∧ cd 151 14 = some ((.aload_n 0), 1, 0, 0, 0, 0) ∧ cd 151 15 = some ((.iload_n 1), 1, 0, 0, 0, 0) ∧ cd 151 16 = some ((.invokevirtual 149), 3, 144, 1, 1, 991) ∧ cd 151 19 = some ((.goto 4), 3, 23, 0, 0, 0) ∧ cd 151 22 = some ((.iconst 0), 1, 0, 0, 0, 0) ∧ cd 151 23 = some (.ireturn, 1, 0, 0, 0, 0) ∧ True := conjL_of 151 c151 (by decide +kernel)
theorem Z151 : mZ 151 = 1 ∧ mL 151 = 2 ∧ mK 151 = 9 ∧ hT 151 = [] := ⟨rfl, rfl, rfl, rfl⟩
theorem D152 : cd 152 0 = some ((.aload_n 0), 1, 0, 0, 0, 0) ∧ cd 152 1 = some ((.aload_n 0), 1, 0, 0, 0, 0) ∧ cd 152 2 = some ((.iload_n 1), 1, 0, 0, 0, 0) ∧ cd 152 3 = some ((.iload_n 2), 1, 0, 0, 0, 0) ∧ cd 152 4 = some ((.invokevirtual 107), 3, 135, 2, 1, 955) ∧ cd 152 7 = some ((.iconst 1), 1, 0, 0, 0, 0) ∧ cd 152 8 = some ((.iconst 1), 1, 0, 0, 0, 0) ∧ cd 152 9 = some ((.invokevirtual 88), 3, 117, 3, 1, 885) ∧ cd 152 12 = some ((.ifCond .eq 17), 3, 29, 0, 0, 0) ∧ cd 152 15 = some ((.aload_n 0), 1, 0, 0, 0, 0) ∧ cd 152 16 = some ((.getfield 39), 3, 9, 13, 2, 817) ∧ cd 152 19 = some ((.bipush 6), 2, 0, 0, 0, 0) ∧ cd 152 21 = some ((.iload_n 1), 1, 0, 0, 0, 0) ∧ cd 152 22 = some (.imul, 1, 0, 0, 0, 0) ∧ cd 152 23 = some ((.iload_n 2), 1, 0, 0, 0, 0) ∧ cd 152 24 = some (.iadd, 1, 0, 0, 0, 0) ∧ cd 152 25 = some (.iaload, 1, 0, 0, 0, 0) ∧ cd 152 26 = some ((.goto 4), 3, 30, 0, 0, 0) ∧ cd 152 29 = some ((.iconst 0), 1, 0, 0, 0, 0) ∧ cd 152 30 = some (.ireturn, 1, 0, 0, 0, 0) ∧ True := conjL_of 152 c152 (by decide +kernel)
theorem Z152 : mZ 152 = 1 ∧ mL 152 = 3 ∧ mK 152 = 9 ∧ hT 152 = [] := ⟨rfl, rfl, rfl, rfl⟩
theorem D153 : cd 153 0 = some ((.aload_n 0), 1, 0, 0, 0, 0) ∧ cd 153 1 = some ((.aload_n 0), 1, 0, 0, 0, 0) ∧ cd 153 2 = some ((.getfield 82), 3, 9, 19, 1, 823) ∧ cd 153 5 = some ((.ifCond .ne 14), 3, 19, 0, 0, 0) ∧ cd 153 8 = some ((.aload_n 0), 1, 0, 0, 0, 0) ∧ cd 153 9 = some ((.getfield 76), 3, 9, 16, 0, 820) ∧ cd 153 12 = some ((.ifCond .le 7), 3, 19, 0, 0, 0) ∧ cd 153 15 = some ((.iconst 1), 1, 0, 0, 0, 0) ∧ cd 153 16 = some ((.goto 4), 3, 20, 0, 0, 0) ∧ cd 153 19 = some ((.iconst 0), 1, 0, 0, 0, 0) ∧ cd 153 20 = some ((.iconst 1), 1, 0, 0, 0, 0) ∧ cd 153 21 = some ((.iconst 1), 1, 0, 0, 0, 0) ∧ cd 153 22 = some ((.invokevirtual 88), 3, 117, 3, 1, 885) ∧ cd 153 25 = some ((.ifCond .ne 5), 3, 30, 0, 0, 0) ∧ cd 153 28 = some ((.iconst 0), 1, 0, 0, 0, 0) ∧ cd 153 29 = some (.ireturn, 1, 0, 0, 0, 0) ∧ cd 153 30 = some ((.aload_n 0), 1, 0, 0, 0, 0) ∧ cd 153 31 = some (.dup, 1, 0, 0, 0, 0) ∧ cd 153 32 = some ((.getfield 76), 3, 9, 16, 0, 820) ∧ cd 153 35 = some ((.iconst 1), 1, 0, 0, 0, 0) ∧ cd 153 36 = some (.isub, 1, 0, 0, 0, 0) ∧ cd 153 37 = some ((.putfield 76), 3, 9, 16, 0, 820) ∧ cd 153 40 = some ((.iconst 0), 1, 0, 0, 0, 0) ∧ cd 153 41 = some ((.istore_n 1), 1, 0, 0, 0, 0) ∧ cd 153 42 = some ((.iload_n 1), 1, 0, 0, 0, 0) ∧ cd 153 43 = some ((.bipush 18), 2, 0, 0, 0, 0) ∧ cd 153 45 = some ((.if_icmp .ge 29), 3, 74, 0, 0, 0) ∧ cd 153 48 = some ((.aload_n 0), 1, 0, 0, 0, 0) ∧ cd 153 49 = some ((.getfield 39), 3, 9, 13, 2, 817) ∧ cd 153 52 = some ((.iload_n 1), 1, 0, 0, 0, 0) ∧ cd 153 53 = some ((.aload_n 0), 1, 0, 0, 0, 0) ∧ cd 153 54 = some ((.getfield 48), 3, 9, 17, 2, 821) ∧ cd 153 57 = some ((.bipush 18), 2, 0, 0, 0, 0) ∧ cd 153 59 = some ((.aload_n 0), 1, 0, 0, 0, 0) ∧ cd 153 60 = some ((.getfield 76), 3, 9, 16, 0, 820) ∧ cd 153 63 = some (.imul, 1, 0, 0, 0, 0) ∧ cd 153 64 = some ((.iload_n 1), 1, 0, 0, 0, 0) ∧ cd 153 65 = some (.iadd, 1, 0, 0, 0, 0) ∧ cd 153 66 = some (.iaload, 1, 0, 0, 0, 0) ∧ cd 153 67 = some (.iastore, 1, 0, 0, 0, 0) ∧ cd 153 68 = some ((.iinc 1 1), 3, 0, 0, 0, 0) ∧ cd 153 71 = some ((.goto (-29)), 3, 42, 0, 0, 0) ∧ cd 153 74 = some ((.aload_n 0), 1, 0, 0, 0, 0) ∧ cd 153 75 = some ((.getfield 76), 3, 9, 16, 0, 820) ∧ cd 153 78 = some (.ireturn, 1, 0, 0, 0, 0) ∧ True := conjL_of 153 c153 (by decide +kernel)
theorem Z153 : mZ 153 = 1 ∧ mL 153 = 2 ∧ mK 153 = 9 ∧ hT 153 = [] := ⟨rfl, rfl, rfl, rfl⟩
theorem D154 : cd 154 0 = some ((.aload_n 0), 1, 0, 0, 0, 0) ∧ cd 154 1 = some ((.iload_n 1), 1, 0, 0, 0, 0) ∧ cd 154 2 = some ((.iconst 1), 1, 0, 0, 0, 0) ∧ cd 154 3 = some ((.sipush 5000), 3, 0, 0, 0, 0) ∧ cd 154 6 = some ((.invokestatic 92), 3, 119, 3, 0, 893) ∧ cd 154 9 = some ((.aload_n 0), 1, 0, 0, 0, 0) ∧ cd 154 10 = some ((.getfield 82), 3, 9, 19, 1, 823) ∧ cd 154 13 = some ((.ifCond .ne 7), 3, 20, 0, 0, 0) ∧ cd 154 16 = some ((.iconst 1), 1, 0, 0, 0, 0) ∧ cd 154 17 = some ((.goto 4), 3, 21, 0, 0, 0) ∧ cd 154 20 = some ((.iconst 0), 1, 0, 0, 0, 0) ∧ cd 154 21 = some ((.iconst 1), 1, 0, 0, 0, 0) ∧ cd 154 22 = some ((.invokevirtual 88), 3, 117, 3, 1, 885) ∧ cd 154 25 = some ((.ifCond .ne 5), 3, 30, 0, 0, 0) ∧ cd 154 28 = some ((.iconst 0), 1, 0, 0, 0, 0) ∧ cd 154 29 = some (.ireturn, 1, 0, 0, 0, 0) ∧ cd 154 30 = some ((.aload_n 0), 1, 0, 0, 0, 0) ∧ cd 154 31 = some ((.invokevirtual 152), 3, 155, 0, 1, 1035) ∧ cd 154 34 = some ((.iconst 0), 1, 0, 0, 0, 0) ∧ cd 154 35 = some ((.istore_n 2), 1, 0, 0, 0, 0) ∧ cd 154 36 = some ((.iconst 0), 1, 0, 0, 0, 0) ∧ cd 154 37 = some ((.istore_n 3), 1, 0, 0, 0, 0) ∧ cd 154 38 = some ((.iload_n 2), 1, 0, 0, 0, 0) ∧ cd 154 39 = some ((.iload_n 1), 1, 0, 0, 0, 0) ∧ cd 154 40 = some ((.if_icmp .ge 22), 3, 62, 0, 0, 0) ∧ cd 154 43 = some ((.iload_n 3), 1, 0, 0, 0, 0) ∧ cd 154 44 = some ((.ifCond .ne 18), 3, 62, 0, 0, 0) ∧ cd 154 47 = some ((.aload_n 0), 1, 0, 0, 0, 0) ∧ cd 154 48 = some ((.invokevirtual 126), 3, 138, 0, 1, 967) ∧ cd 154 51 = some ((.iinc 2 1), 3, 0, 0, 0, 0) ∧ cd 154 54 = some ((.aload_n 0), 1, 0, 0, 0, 0) ∧ cd 154 55 = some ((.invokevirtual 155), 3, 156, 0, 1, 1039) ∧ cd 154 58 = some ((.istore_n 3), 1, 0, 0, 0, 0) ∧ cd 154 59 = some ((.goto (-21)), 3, 38, 0, 0, 0) ∧ cd 154 62 = some ((.aload_n 0), 1, 0, 0, 0, 0) ∧ cd 154 63 = some ((.invokevirtual 159), 3, 157, 0, 1, 1043) ∧ cd 154 66 = some ((.iload_n 3), 1, 0, 0, 0, 0) ∧ cd 154 67 = some ((.ifCond .eq 7), 3, 74, 0, 0, 0) ∧ cd 154 70 = some ((.iload_n 2), 1, 0, 0, 0, 0) ∧ cd 154 71 = some ((.goto 4), 3, 75, 0, 0, 0) ∧ cd 154 74 = some ((.iconst 0), 1, 0, 0, 0, 0) ∧ cd 154 75 = some (.ireturn, 1, 0, 0, 0, 0) ∧ True := conjL_of 154 c154 (by decide +kernel)
theorem Z154 : mZ 154 = 1 ∧ mL 154 = 4 ∧ mK 154 = 9 ∧ hT 154 = [] := ⟨rfl, rfl, rfl, rfl⟩
theorem D155 : cd 155 0 = some ((.iconst 0), 1, 0, 0, 0, 0) ∧ cd 155 1 = some ((.istore_n 1), 1, 0, 0, 0, 0) ∧ cd 155 2 = some ((.iload_n 1), 1, 0, 0, 0, 0) ∧ cd 155 3 = some ((.bipush 18), 2, 0, 0, 0, 0) ∧ cd 155 5 = some ((.if_icmp .ge 21), 3, 26, 0, 0, 0) ∧ cd 155 8 = some ((.aload_n 0), 1, 0, 0, 0, 0) ∧ cd 155 9 = some ((.getfield 42), 3, 9, 14, 2, 818) ∧ cd 155 12 = some ((.iload_n 1), 1, 0, 0, 0, 0) ∧ cd 155 13 = some ((.aload_n 0), 1, 0, 0, 0, 0) ∧ cd 155 14 = some ((.getfield 39), 3, 9, 13, 2, 817) ∧ cd 155 17 = some ((.iload_n 1), 1, 0, 0, 0, 0) ∧ cd 155 18 = some (.iaload, 1, 0, 0, 0, 0) ∧ cd 155 19 = some (.iastore, 1, 0, 0, 0, 0) ∧ cd 155 20 = some ((.iinc 1 1), 3, 0, 0, 0, 0) ∧ cd 155 23 = some ((.goto (-21)), 3, 2, 0, 0, 0) ∧ cd 155 26 = some (.return_, 1, 0, 0, 0, 0) ∧ True := conjL_of 155 c155 (by decide +kernel)
theorem Z155 : mZ 155 = 0 ∧ mL 155 = 2 ∧ mK 155 = 9 ∧ hT 155 = [] := ⟨rfl, rfl, rfl, rfl⟩
theorem D156 : cd 156 0 = some ((.iconst 1), 1, 0, 0, 0, 0) ∧ cd 156 1 = some ((.istore_n 1), 1, 0, 0, 0, 0) ∧ cd 156 2 = some ((.iconst 0), 1, 0, 0, 0, 0) ∧ cd 156 3 = some ((.istore_n 2), 1, 0, 0, 0, 0) ∧ cd 156 4 = some ((.iload_n 2), 1, 0, 0, 0, 0) ∧ cd 156 5 = some ((.bipush 18), 2, 0, 0, 0, 0) ∧ cd 156 7 = some ((.if_icmp .ge 34), 3, 41, 0, 0, 0) ∧ cd 156 10 = some ((.iload_n 1), 1, 0, 0, 0, 0) ∧ cd 156 11 = some ((.ifCond .eq 22), 3, 33, 0, 0, 0) ∧ cd 156 14 = some ((.aload_n 0), 1, 0, 0, 0, 0) ∧ cd 156 15 = some ((.getfield 42), 3, 9, 14, 2, 818) ∧ cd 156 18 = some ((.iload_n 2), 1, 0, 0, 0, 0) ∧ cd 156 19 = some (.iaload, 1, 0, 0, 0, 0) ∧ cd 156 20 = some ((.aload_n 0), 1, 0, 0, 0, 0) ∧ cd 156 21 = some ((.getfield 39), 3, 9, 13, 2, 817) ∧ cd 156 24 = some ((.iload_n 2), 1, 0, 0, 0, 0) ∧ cd 156 25 = some (.iaload, 1, 0, 0, 0, 0) ∧ cd 156 26 = some ((.if_icmp .ne 7), 3, 33, 0, 0, 0) ∧ cd 156 29 = some ((.iconst 1), 1, 0, 0, 0, 0) ∧ cd 156 30 = some ((.goto 4), 3, 34, 0, 0, 0) ∧ cd 156 33 = some ((.iconst 0), 1, 0, 0, 0, 0) ∧ cd 156 34 = some ((.istore_n 1), 1, 0, 0, 0, 0) ∧ cd 156 35 = some ((.iinc 2 1), 3, 0, 0, 0, 0) ∧ cd 156 38 = some ((.goto (-34)), 3, 4, 0, 0, 0) ∧ cd 156 41 = some ((.iload_n 1), 1, 0, 0, 0, 0) ∧ cd 156 42 = some (.ireturn, 1, 0, 0, 0, 0) ∧ True := conjL_of 156 c156 (by decide +kernel)
theorem Z156 : mZ 156 = 2 ∧ mL 156 = 3 ∧ mK 156 = 9 ∧ hT 156 = [] := ⟨rfl, rfl, rfl, rfl⟩
theorem D157 : cd 157 0 = some ((.iconst 0), 1, 0, 0, 0, 0) ∧ cd 157 1 = some ((.istore_n 1), 1, 0, 0, 0, 0) ∧ cd 157 2 = some ((.iload_n 1), 1, 0, 0, 0, 0) ∧ cd 157 3 = some ((.bipush 18), 2, 0, 0, 0, 0) ∧ cd 157 5 = some ((.if_icmp .ge 21), 3, 26, 0, 0, 0) ∧ cd 157 8 = some ((.aload_n 0), 1, 0, 0, 0, 0) ∧ cd 157 9 = some ((.getfield 39), 3, 9, 13, 2, 817) ∧ cd 157 12 = some ((.iload_n 1), 1, 0, 0, 0, 0) ∧ cd 157 13 = some ((.aload_n 0), 1, 0, 0, 0, 0) ∧ cd 157 14 = some ((.getfield 42), 3, 9, 14, 2, 818) ∧ cd 157 17 = some ((.iload_n 1), 1, 0, 0, 0, 0) ∧ cd 157 18 = some (.iaload, 1, 0, 0, 0, 0) ∧ cd 157 19 = some (.iastore, 1, 0, 0, 0, 0) ∧ cd 157 20 = some ((.iinc 1 1), 3, 0, 0, 0, 0) ∧ cd 157 23 = some ((.goto (-21)), 3, 2, 0, 0, 0) ∧ cd 157 26 = some (.return_, 1, 0, 0, 0, 0) ∧ True := conjL_of 157 c157 (by decide +kernel)
theorem Z157 : mZ 157 = 0 ∧ mL 157 = 2 ∧ mK 157 = 9 ∧ hT 157 = [] := ⟨rfl, rfl, rfl, rfl⟩
theorem D158 : cd 158 0 = some ((.aload_n 0), 1, 0, 0, 0, 0) ∧ cd 158 1 = some ((.iconst 0), 1, 0, 0, 0, 0) ∧ cd 158 2 = some ((.putfield 85), 3, 9, 0, 0, 804) ∧ cd 158 5 = some ((.iconst 0), 1, 0, 0, 0, 0) ∧ cd 158 6 = some ((.istore_n 1), 1, 0, 0, 0, 0) ∧ cd 158 7 = some ((.iconst 0), 1, 0, 0, 0, 0) ∧ cd 158 8 = some ((.istore_n 2), 1, 0, 0, 0, 0) ∧ cd 158 9 = some ((.iload_n 2), 1, 0, 0, 0, 0) ∧ cd 158 10 = some ((.aload_n 0), 1, 0, 0, 0, 0) ∧ cd 158 11 = some ((.getfield 7), 3, 9, 1, 0, 805) ∧ cd 158 14 = some ((.if_icmp .ge 26), 3, 40, 0, 0, 0) ∧ cd 158 17 = some ((.aload_n 0), 1, 0, 0, 0, 0) ∧ cd 158 18 = some ((.iload_n 2), 1, 0, 0, 0, 0) ∧ cd 158 19 = some ((.invokevirtual 149), 3, 144, 1, 1, 991) ∧ cd 158 22 = some ((.iload_n 2), 1, 0, 0, 0, 0) ∧ cd 158 23 = some ((.if_icmp .ne 9), 3, 32, 0, 0, 0) ∧ cd 158 26 = some ((.iload_n 1), 1, 0, 0, 0, 0) ∧ cd 158 27 = some ((.iconst 1), 1, 0, 0, 0, 0) ∧ cd 158 28 = some (.iadd, 1, 0, 0, 0, 0) ∧ cd 158 29 = some ((.goto 4), 3, 33, 0, 0, 0) ∧ cd 158 32 = some ((.iload_n 1), 1, 0, 0, 0, 0) ∧ cd 158 33 = some ((.istore_n 1), 1, 0, 0, 0, 0) ∧ cd 158 34 = some ((.iinc 2 1), 3, 0, 0, 0, 0) ∧ cd 158 37 = some ((.goto (-28)), 3, 9, 0, 0, 0) ∧ cd 158 40 = some ((.iload_n 1), 1, 0, 0, 0, 0) ∧ cd 158 41 = some (.ireturn, 1, 0, 0, 0, 0) ∧ True := conjL_of 158 c158 (by decide +kernel)
theorem Z158 : mZ 158 = 1 ∧ mL 158 = 3 ∧ mK 158 = 9 ∧ hT 158 = [] := ⟨rfl, rfl, rfl, rfl⟩
theorem D159 : cd 159 0 = some ((.aload_n 0), 1, 0, 0, 0, 0) ∧ cd 159 1 = some ((.aload_n 0), 1, 0, 0, 0, 0) ∧ cd 159 2 = some ((.getfield 82), 3, 9, 19, 1, 823) ∧ cd 159 5 = some ((.ifCond .ne 16), 3, 21, 0, 0, 0) ∧ cd 159 8 = some ((.aload_n 0), 1, 0, 0, 0, 0) ∧ cd 159 9 = some ((.getfield 79), 3, 9, 18, 0, 822) ∧ cd 159 12 = some ((.bipush 20), 2, 0, 0, 0, 0) ∧ cd 159 14 = some ((.if_icmp .ge 7), 3, 21, 0, 0, 0) ∧ cd 159 17 = some ((.iconst 1), 1, 0, 0, 0, 0) ∧ cd 159 18 = some ((.goto 4), 3, 22, 0, 0, 0) ∧ cd 159 21 = some ((.iconst 0), 1, 0, 0, 0, 0) ∧ cd 159 22 = some ((.iconst 1), 1, 0, 0, 0, 0) ∧ cd 159 23 = some ((.iconst 1), 1, 0, 0, 0, 0) ∧ cd 159 24 = some ((.invokevirtual 88), 3, 117, 3, 1, 885) ∧ cd 159 27 = some ((.ifCond .ne 5), 3, 32, 0, 0, 0) ∧ cd 159 30 = some ((.iconst 0), 1, 0, 0, 0, 0) ∧ cd 159 31 = some (.ireturn, 1, 0, 0, 0, 0) ∧ cd 159 32 = some ((.iconst 0), 1, 0, 0, 0, 0) ∧ cd 159 33 = some ((.istore_n 1), 1, 0, 0, 0, 0) ∧ cd 159 34 = some ((.iload_n 1), 1, 0, 0, 0, 0) ∧ cd 159 35 = some ((.bipush 18), 2, 0, 0, 0, 0) ∧ cd 159 37 = some ((.if_icmp .ge 29), 3, 66, 0, 0, 0) ∧ cd 159 40 = some ((.aload_n 0), 1, 0, 0, 0, 0) ∧ cd 159 41 = some ((.getfield 54), 3, 9, 21, 2, 825) ∧ cd 159 44 = some ((.bipush 18), 2, 0, 0, 0, 0) ∧ cd 159 46 = some ((.aload_n 0), 1, 0, 0, 0, 0) ∧ cd 159 47 = some ((.getfield 79), 3, 9, 18, 0, 822) ∧ cd 159 50 = some (.imul, 1, 0, 0, 0, 0) ∧ cd 159 51 = some ((.iload_n 1), 1, 0, 0, 0, 0) ∧ cd 159 52 = some (.iadd, 1, 0, 0, 0, 0) ∧ cd 159 53 = some ((.aload_n 0), 1, 0, 0, 0, 0) ∧ cd 159 54 = some ((.getfield 39), 3, 9, 13, 2, 817) ∧ cd 159 57 = some ((.iload_n 1), 1, 0, 0, 0, 0) ∧ cd 159 58 = some (.iaload, 1, 0, 0, 0, 0) ∧ cd 159 59 = some (.iastore, 1, 0, 0, 0, 0) ∧ cd 159 60 = some ((.iinc 1 1), 3, 0, 0, 0, 0) ∧ cd 159 63 = some ((.goto (-29)), 3, 34, 0, 0, 0) ∧ cd 159 66 = some ((.aload_n 0), 1, 0, 0, 0, 0) ∧ cd 159 67 = some ((.getfield 51), 3, 9, 20, 2, 824) ∧ cd 159 70 = some ((.aload_n 0), 1, 0, 0, 0, 0) ∧ cd 159 71 = some ((.getfield 79), 3, 9, 18, 0, 822) ∧ cd 159 74 = some ((.iconst 0), 1, 0, 0, 0, 0) ∧ cd 159 75 = some (.iastore, 1, 0, 0, 0, 0) ∧ cd 159 76 = some ((.aload_n 0), 1, 0, 0, 0, 0) ∧ cd 159 77 = some (.dup, 1, 0, 0, 0, 0) ∧ cd 159 78 = some ((.getfield 79), 3, 9, 18, 0, 822) ∧ cd 159 81 = some ((.iconst 1), 1, 0, 0, 0, 0) ∧ cd 159 82 = some (.iadd, 1, 0, 0, 0, 0) ∧ cd 159 83 = some ((.putfield 79), 3, 9, 18, 0, 822) ∧ cd 159 86 = some ((.aload_n 0), 1, 0, 0, 0, 0) ∧ cd 159 87 = some ((.iconst 1), 1, 0, 0, 0, 0) ∧ cd 159 88 = some ((.putfield 82), 3, 9, 19, 1, 823) ∧ cd 159 91 = some ((.aload_n 0), 1, 0, 0, 0, 0) ∧ cd 159 92 = some ((.getfield 79), 3, 9, 18, 0, 822) ∧ cd 159 95 = some ((.iconst 1), 1, 0, 0, 0, 0) ∧ cd 159 96 = some (.isub, 1, 0, 0, 0, 0) ∧ cd 159 97 = some (.ireturn, 1, 0, 0, 0, 0) ∧ True := conjL_of 159 c159 (by decide +kernel)
theorem Z159 : mZ 159 = 1 ∧ mL 159 = 2 ∧ mK 159 = 9 ∧ hT 159 = [] := ⟨rfl, rfl, rfl, rfl⟩
theorem D160 : cd 160 0 = some ((.aload_n 0), 1, 0, 0, 0, 0) ∧ cd 160 1 = some ((.aload_n 0), 1, 0, 0, 0, 0) ∧ cd 160 2 = some ((.getfield 82), 3, 9, 19, 1, 823) ∧ cd 160 5 = some ((.iconst 1), 1, 0, 0, 0, 0) ∧ cd 160 6 = some ((.iconst 1), 1, 0, 0, 0, 0) ∧ cd 160 7 = some ((.invokevirtual 88), 3, 117, 3, 1, 885) ∧ cd 160 10 = some ((.ifCond .ne 5), 3, 15, 0, 0, 0) ∧ cd 160 13 = some ((.iconst 0), 1, 0, 0, 0, 0) ∧ cd 160 14 = some (.ireturn, 1, 0, 0, 0, 0) ∧ cd 160 15 = some ((.aload_n 0), 1, 0, 0, 0, 0) ∧ cd 160 16 = some ((.iconst 0), 1, 0, 0, 0, 0) ∧ cd 160 17 = some ((.putfield 82), 3, 9, 19, 1, 823) ∧ cd 160 20 = some ((.aload_n 0), 1, 0, 0, 0, 0) ∧ cd 160 21 = some ((.getfield 51), 3, 9, 20, 2, 824) ∧ cd 160 24 = some ((.aload_n 0), 1, 0, 0, 0, 0) ∧ cd 160 25 = some ((.getfield 79), 3, 9, 18, 0, 822) ∧ cd 160 28 = some ((.iconst 1), 1, 0, 0, 0, 0) ∧ cd 160 29 = some (.isub, 1, 0, 0, 0, 0) ∧ cd 160 30 = some (.iaload, 1, 0, 0, 0, 0) ∧ cd 160 31 = some (.ireturn, 1, 0, 0, 0, 0) ∧ True := conjL_of 160 c160 (by decide +kernel)
theorem Z160 : mZ 160 = 1 ∧ mL 160 = 1 ∧ mK 160 = 9 ∧ hT 160 = [] := ⟨rfl, rfl, rfl, rfl⟩
theorem D161 : cd 161 0 = some ((.aload_n 0), 1, 0, 0, 0, 0) ∧ cd 161 1 = some ((.aload_n 0), 1, 0, 0, 0, 0) ∧ cd 161 2 = some ((.iload_n 1), 1, 0, 0, 0, 0) ∧ cd 161 3 = some ((.invokevirtual 162), 3, 162, 1, 1, 1063) ∧ cd 161 6 = some ((.ifCond .eq 21), 3, 27, 0, 0, 0) ∧ cd 161 9 = some ((.iload_n 2), 1, 0, 0, 0, 0) ∧ cd 161 10 = some ((.ifCond .lt 17), 3, 27, 0, 0, 0) ∧ cd 161 13 = some ((.iload_n 2), 1, 0, 0, 0, 0) ∧ cd 161 14 = some ((.aload_n 0), 1, 0, 0, 0, 0) ∧ cd 161 15 = some ((.getfield 51), 3, 9, 20, 2, 824) ∧ cd 161 18 = some ((.iload_n 1), 1, 0, 0, 0, 0) ∧ cd 161 19 = some (.iaload, 1, 0, 0, 0, 0) ∧ cd 161 20 = some ((.if_icmp .ge 7), 3, 27, 0, 0, 0) ∧ cd 161 23 = some ((.iconst 1), 1, 0, 0, 0, 0) ∧ cd 161 24 = some ((.goto 4), 3, 28, 0, 0, 0) ∧ cd 161 27 = some ((.iconst 0), 1, 0, 0, 0, 0) ∧ cd 161 28 = some ((.iload_n 3), 1, 0, 0, 0, 0) ∧ cd 161 29 = some ((.iconst 0), 1, 0, 0, 0, 0) ∧ cd 161 30 = some ((.iconst 1), 1, 0, 0, 0, 0) ∧ cd 161 31 = some ((.invokestatic 92), 3, 119, 3, 0, 893) ∧ cd 161 34 = some ((.iconst 1), 1, 0, 0, 0, 0) ∧ cd 161 35 = some ((.invokevirtual 88), 3, 117, 3, 1, 885) ∧ cd 161 38 = some ((.ifCond .ne 5), 3, 43, 0, 0, 0) ∧ cd 161 41 = some ((.iconst 0), 1, 0, 0, 0, 0) ∧ cd 161 42 = some (.ireturn, 1, 0, 0, 0, 0) ∧ cd 161 43 = some ((.iload_n 3), 1, 0, 0, 0, 0) ∧ cd 161 44 = some ((.ifCond .ne 17), 3, 61, 0, 0, 0) ∧ cd 161 47 = some ((.aload_n 0), 1, 0, 0, 0, 0) ∧ cd 161 48 = some ((.getfield 57), 3, 9, 22, 2, 826) ∧ cd 161 51 = some ((.bipush 60), 2, 0, 0, 0, 0) ∧ cd 161 53 = some ((.iload_n 1), 1, 0, 0, 0, 0) ∧ cd 161 54 = some (.imul, 1, 0, 0, 0, 0) ∧ cd 161 55 = some ((.iload_n 2), 1, 0, 0, 0, 0) ∧ cd 161 56 = some (.iadd, 1, 0, 0, 0, 0) ∧ cd 161 57 = some (.iaload, 1, 0, 0, 0, 0) ∧ cd 161 58 = some ((.goto 14), 3, 72, 0, 0, 0) ∧ cd 161 61 = some ((.aload_n 0), 1, 0, 0, 0, 0) ∧ cd 161 62 = some ((.getfield 60), 3, 9, 23, 2, 827) ∧ cd 161 65 = some ((.bipush 60), 2, 0, 0, 0, 0) ∧ cd 161 67 = some ((.iload_n 1), 1, 0, 0, 0, 0) ∧ cd 161 68 = some (.imul, 1, 0, 0, 0, 0) ∧ cd 161 69 = some ((.iload_n 2), 1, 0, 0, 0, 0) ∧ cd 161 70 = some (.iadd, 1, 0, 0, 0, 0) ∧ cd 161 71 = some (.iaload, 1, 0, 0, 0, 0) ∧ cd 161 72 = some (.ireturn, 1, 0, 0, 0, 0) ∧ True := conjL_of 161 c161 (by decide +kernel)
theorem Z161 : mZ 161 = 1 ∧ mL 161 = 4 ∧ mK 161 = 9 ∧ hT 161 = [] := ⟨rfl, rfl, rfl, rfl⟩
theorem D162 : cd 162 0 = some ((.iload_n 1), 1, 0, 0, 0, 0) ∧ cd 162 1 = some ((.ifCond .lt 15), 3, 16, 0, 0, 0) ∧ cd 162 4 = some ((.iload_n 1), 1, 0, 0, 0, 0) ∧ cd 162 5 = some ((.aload_n 0), 1, 0, 0, 0, 0) ∧ cd 162 6 = some ((.getfield 79), 3, 9, 18, 0, 822) ∧ cd 162 9 = some ((.if_icmp .ge 7), 3, 16, 0, 0, 0) ∧ cd 162 12 = some ((.iconst 1), 1, 0, 0, 0, 0) ∧ cd 162 13 = some ((.goto 4), 3, 17, 0, 0, 0) ∧ cd 162 16 = some ((.iconst 0), 1, 0, 0, 0, 0) ∧ cd 162 17 = some (.ireturn, 1, 0, 0, 0, 0) ∧ True := conjL_of 162 c162 (by decide +kernel)
theorem Z162 : mZ 162 = 2 ∧ mL 162 = 2 ∧ mK 162 = 9 ∧ hT 162 = [] := ⟨rfl, rfl, rfl, rfl⟩
theorem D163_0 : cd 163 0 = some ((.aload_n 0), 1, 0, 0, 0, 0) ∧ cd 163 1 = some ((.aload_n 0), 1, 0, 0, 0, 0) ∧ cd 163 2 = some ((.iload_n 1), 1, 0, 0, 0, 0) ∧ cd 163 3 = some ((.invokevirtual 162), 3, 162, 1, 1, 1063) ∧ cd 163 6 = some ((.aload_n 0), 1, 0, 0, 0, 0) ∧ cd 163 7 = some ((.getfield 82), 3, 9, 19, 1, 823) ∧ cd 163 10 = some ((.ifCond .eq 13), 3, 23, 0, 0, 0) ∧ cd 163 13 = some ((.iload_n 1), 1, 0, 0, 0, 0) ∧ cd 163 14 = some ((.aload_n 0), 1, 0, 0, 0, 0) ∧ cd 163 15 = some ((.getfield 79), 3, 9, 18, 0, 822) ∧ cd 163 18 = some ((.iconst 1), 1, 0, 0, 0, 0) ∧ cd 163 19 = some (.isub, 1, 0, 0, 0, 0) ∧ cd 163 20 = some ((.if_icmp .eq 7), 3, 27, 0, 0, 0) ∧ cd 163 23 = some ((.iconst 1), 1, 0, 0, 0, 0) ∧ cd 163 24 = some ((.goto 4), 3, 28, 0, 0, 0) ∧ cd 163 27 = some ((.iconst 0), 1, 0, 0, 0, 0) ∧ cd 163 28 = some ((.iconst 1), 1, 0, 0, 0, 0) ∧ cd 163 29 = some ((.invokevirtual 88), 3, 117, 3, 1, 885) ∧ cd 163 32 = some ((.ifCond .ne 5), 3, 37, 0, 0, 0) ∧ cd 163 35 = some ((.iconst 0), 1, 0, 0, 0, 0) ∧ cd 163 36 = some (.ireturn, 1, 0, 0, 0, 0) ∧ cd 163 37 = some ((.aload_n 0), 1, 0, 0, 0, 0) ∧ cd 163 38 = some ((.invokevirtual 152), 3, 155, 0, 1, 1035) ∧ cd 163 41 = some ((.iconst 0), 1, 0, 0, 0, 0) ∧ cd 163 42 = some ((.istore_n 2), 1, 0, 0, 0, 0) ∧ cd 163 43 = some ((.iload_n 2), 1, 0, 0, 0, 0) ∧ cd 163 44 = some ((.bipush 18), 2, 0, 0, 0, 0) ∧ cd 163 46 = some ((.if_icmp .ge 59), 3, 105, 0, 0, 0) ∧ cd 163 49 = some ((.iload_n 2), 1, 0, 0, 0, 0) ∧ cd 163 50 = some ((.bipush 6), 2, 0, 0, 0, 0) ∧ cd 163 52 = some ((.if_icmp .ge 10), 3, 62, 0, 0, 0) ∧ cd 163 55 = some ((.aload_n 0), 1, 0, 0, 0, 0) ∧ cd 163 56 = some ((.getfield 7), 3, 9, 1, 0, 805) ∧ cd 163 59 = some ((.goto 12), 3, 71, 0, 0, 0) ∧ cd 163 62 = some ((.aload_n 0), 1, 0, 0, 0, 0) ∧ cd 163 63 = some ((.getfield 30), 3, 9, 8, 2, 812) ∧ cd 163 66 = some ((.iload_n 2), 1, 0, 0, 0, 0) ∧ cd 163 67 = some ((.bipush 6), 2, 0, 0, 0, 0) ∧ cd 163 69 = some (.isub, 1, 0, 0, 0, 0) ∧ cd 163 70 = some (.iaload, 1, 0, 0, 0, 0) ∧ True := conjL_of 163 c163_0 (by decide +kernel)
theorem D163_1 : cd 163 71 = some ((.istore_n 3), 1, 0, 0, 0, 0) ∧ cd 163 72 = some ((.aload_n 0), 1, 0, 0, 0, 0) ∧ cd 163 73 = some ((.getfield 39), 3, 9, 13, 2, 817) ∧ cd 163 76 = some ((.iload_n 2), 1, 0, 0, 0, 0) ∧ cd 163 77 = some ((.iload_n 3), 1, 0, 0, 0, 0) ∧ cd 163 78 = some ((.ifCond .ne 7), 3, 85, 0, 0, 0) ∧ cd 163 81 = some ((.iconst 0), 1, 0, 0, 0, 0) ∧ cd 163 82 = some ((.goto 16), 3, 98, 0, 0, 0) ∧ cd 163 85 = some ((.aload_n 0), 1, 0, 0, 0, 0) ∧ cd 163 86 = some ((.getfield 54), 3, 9, 21, 2, 825) ∧ cd 163 89 = some ((.bipush 18), 2, 0, 0, 0, 0) ∧ cd 163 91 = some ((.iload_n 1), 1, 0, 0, 0, 0) ∧ cd 163 92 = some (.imul, 1, 0, 0, 0, 0) ∧ cd 163 93 = some ((.iload_n 2), 1, 0, 0, 0, 0) ∧ cd 163 94 = some (.iadd, 1, 0, 0, 0, 0) ∧ cd 163 95 = some (.iaload, 1, 0, 0, 0, 0) ∧ cd 163 96 = some ((.iload_n 3), 1, 0, 0, 0, 0) ∧ cd 163 97 = some (.irem, 1, 0, 0, 0, 0) ∧ cd 163 98 = some (.iastore, 1, 0, 0, 0, 0) ∧ cd 163 99 = some ((.iinc 2 1), 3, 0, 0, 0, 0) ∧ cd 163 102 = some ((.goto (-59)), 3, 43, 0, 0, 0) ∧ cd 163 105 = some ((.iconst (-1)), 1, 0, 0, 0, 0) ∧ cd 163 106 = some ((.istore_n 2), 1, 0, 0, 0, 0) ∧ cd 163 107 = some ((.iconst 0), 1, 0, 0, 0, 0) ∧ cd 163 108 = some ((.istore_n 3), 1, 0, 0, 0, 0) ∧ cd 163 109 = some ((.iload_n 3), 1, 0, 0, 0, 0) ∧ cd 163 110 = some ((.aload_n 0), 1, 0, 0, 0, 0) ∧ cd 163 111 = some ((.getfield 51), 3, 9, 20, 2, 824) ∧ cd 163 114 = some ((.iload_n 1), 1, 0, 0, 0, 0) ∧ cd 163 115 = some (.iaload, 1, 0, 0, 0, 0) ∧ cd 163 116 = some ((.if_icmp .ge 53), 3, 169, 0, 0, 0) ∧ cd 163 119 = some ((.iload_n 2), 1, 0, 0, 0, 0) ∧ cd 163 120 = some ((.iconst (-1)), 1, 0, 0, 0, 0) ∧ cd 163 121 = some ((.if_icmp .ne 48), 3, 169, 0, 0, 0) ∧ cd 163 124 = some ((.aload_n 0), 1, 0, 0, 0, 0) ∧ cd 163 125 = some ((.invokevirtual 126), 3, 138, 0, 1, 967) ∧ cd 163 128 = some ((.aload_n 0), 1, 0, 0, 0, 0) ∧ cd 163 129 = some ((.aload_n 0), 1, 0, 0, 0, 0) ∧ cd 163 130 = some ((.getfield 57), 3, 9, 22, 2, 826) ∧ cd 163 133 = some ((.bipush 60), 2, 0, 0, 0, 0) ∧ True := conjL_of 163 c163_1 (by decide +kernel)
theorem D163_2 : cd 163 135 = some ((.iload_n 1), 1, 0, 0, 0, 0) ∧ cd 163 136 = some (.imul, 1, 0, 0, 0, 0) ∧ cd 163 137 = some ((.iload_n 3), 1, 0, 0, 0, 0) ∧ cd 163 138 = some (.iadd, 1, 0, 0, 0, 0) ∧ cd 163 139 = some (.iaload, 1, 0, 0, 0, 0) ∧ cd 163 140 = some ((.invokevirtual 149), 3, 144, 1, 1, 991) ∧ cd 163 143 = some ((.aload_n 0), 1, 0, 0, 0, 0) ∧ cd 163 144 = some ((.getfield 60), 3, 9, 23, 2, 827) ∧ cd 163 147 = some ((.bipush 60), 2, 0, 0, 0, 0) ∧ cd 163 149 = some ((.iload_n 1), 1, 0, 0, 0, 0) ∧ cd 163 150 = some (.imul, 1, 0, 0, 0, 0) ∧ cd 163 151 = some ((.iload_n 3), 1, 0, 0, 0, 0) ∧ cd 163 152 = some (.iadd, 1, 0, 0, 0, 0) ∧ cd 163 153 = some (.iaload, 1, 0, 0, 0, 0) ∧ cd 163 154 = some ((.if_icmp .eq 7), 3, 161, 0, 0, 0) ∧ cd 163 157 = some ((.iload_n 3), 1, 0, 0, 0, 0) ∧ cd 163 158 = some ((.goto 4), 3, 162, 0, 0, 0) ∧ cd 163 161 = some ((.iconst (-1)), 1, 0, 0, 0, 0) ∧ cd 163 162 = some ((.istore_n 2), 1, 0, 0, 0, 0) ∧ cd 163 163 = some ((.iinc 3 1), 3, 0, 0, 0, 0) ∧ cd 163 166 = some ((.goto (-57)), 3, 109, 0, 0, 0) ∧ cd 163 169 = some ((.aload_n 0), 1, 0, 0, 0, 0) ∧ cd 163 170 = some ((.invokevirtual 159), 3, 157, 0, 1, 1043) ∧ cd 163 173 = some ((.iload_n 2), 1, 0, 0, 0, 0) ∧ cd 163 174 = some (.ireturn, 1, 0, 0, 0, 0) ∧ True := conjL_of 163 c163_2 (by decide +kernel)
theorem Z163 : mZ 163 = 1 ∧ mL 163 = 4 ∧ mK 163 = 9 ∧ hT 163 = [] := ⟨rfl, rfl, rfl, rfl⟩
theorem D164_0 : cd 164 0 = some ((.aload_n 0), 1, 0, 0, 0, 0) ∧ cd 164 1 = some ((.iload_n 1), 1, 0, 0, 0, 0) ∧ cd 164 2 = some ((.iconst 0), 1, 0, 0, 0, 0) ∧ cd 164 3 = some ((.bipush 7), 2, 0, 0, 0, 0) ∧ cd 164 5 = some ((.invokestatic 92), 3, 119, 3, 0, 893) ∧ cd 164 8 = some ((.iconst 1), 1, 0, 0, 0, 0) ∧ cd 164 9 = some ((.iconst 1), 1, 0, 0, 0, 0) ∧ cd 164 10 = some ((.invokevirtual 88), 3, 117, 3, 1, 885) ∧ cd 164 13 = some ((.ifCond .ne 5), 3, 18, 0, 0, 0) ∧ cd 164 16 = some ((.iconst 0), 1, 0, 0, 0, 0) ∧ cd 164 17 = some (.ireturn, 1, 0, 0, 0, 0) ∧ cd 164 18 = some ((.iconst 0), 1, 0, 0, 0, 0) ∧ cd 164 19 = some ((.istore_n 2), 1, 0, 0, 0, 0) ∧ cd 164 20 = some ((.iconst 0), 1, 0, 0, 0, 0) ∧ cd 164 21 = some ((.istore_n 3), 1, 0, 0, 0, 0) ∧ cd 164 22 = some ((.iload_n 3), 1, 0, 0, 0, 0) ∧ cd 164 23 = some ((.bipush 6), 2, 0, 0, 0, 0) ∧ cd 164 25 = some ((.if_icmp .ge 27), 3, 52, 0, 0, 0) ∧ cd 164 28 = some ((.aload_n 0), 1, 0, 0, 0, 0) ∧ cd 164 29 = some ((.getfield 24), 3, 9, 5, 2, 809) ∧ cd 164 32 = some ((.iload_n 3), 1, 0, 0, 0, 0) ∧ cd 164 33 = some (.iaload, 1, 0, 0, 0, 0) ∧ cd 164 34 = some ((.iconst (-1)), 1, 0, 0, 0, 0) ∧ cd 164 35 = some ((.if_icmp .eq 9), 3, 44, 0, 0, 0) ∧ cd 164 38 = some ((.iload_n 2), 1, 0, 0, 0, 0) ∧ cd 164 39 = some ((.iconst 1), 1, 0, 0, 0, 0) ∧ cd 164 40 = some (.iadd, 1, 0, 0, 0, 0) ∧ cd 164 41 = some ((.goto 4), 3, 45, 0, 0, 0) ∧ cd 164 44 = some ((.iload_n 2), 1, 0, 0, 0, 0) ∧ cd 164 45 = some ((.istore_n 2), 1, 0, 0, 0, 0) ∧ cd 164 46 = some ((.iinc 3 1), 3, 0, 0, 0, 0) ∧ cd 164 49 = some ((.goto (-27)), 3, 22, 0, 0, 0) ∧ cd 164 52 = some ((.iconst 0), 1, 0, 0, 0, 0) ∧ cd 164 53 = some ((.istore_n 3), 1, 0, 0, 0, 0) ∧ cd 164 54 = some ((.iconst 0), 1, 0, 0, 0, 0) ∧ cd 164 55 = some ((.istore 4), 2, 0, 0, 0, 0) ∧ cd 164 57 = some ((.iload 4), 2, 0, 0, 0, 0) ∧ cd 164 59 = some ((.bipush 12), 2, 0, 0, 0, 0) ∧ cd 164 61 = some ((.if_icmp .ge 27), 3, 88, 0, 0, 0) ∧ cd 164 64 = some ((.aload_n 0), 1, 0, 0, 0, 0) ∧ True := conjL_of 164 c164_0 (by decide +kernel)
theorem D164_1 : cd 164 65 = some ((.getfield 30), 3, 9, 8, 2, 812) ∧ cd 164 68 = some ((.iload 4), 2, 0, 0, 0, 0) ∧ cd 164 70 = some (.iaload, 1, 0, 0, 0, 0) ∧ cd 164 71 = some ((.ifCond .le 9), 3, 80, 0, 0, 0) ∧ cd 164 74 = some ((.iload_n 3), 1, 0, 0, 0, 0) ∧ cd 164 75 = some ((.iconst 1), 1, 0, 0, 0, 0) ∧ cd 164 76 = some (.iadd, 1, 0, 0, 0, 0) ∧ cd 164 77 = some ((.goto 4), 3, 81, 0, 0, 0) ∧ cd 164 80 = some ((.iload_n 3), 1, 0, 0, 0, 0) ∧ cd 164 81 = some ((.istore_n 3), 1, 0, 0, 0, 0) ∧ cd 164 82 = some ((.iinc 4 1), 3, 0, 0, 0, 0) ∧ cd 164 85 = some ((.goto (-28)), 3, 57, 0, 0, 0) ∧ cd 164 88 = some ((.iload_n 1), 1, 0, 0, 0, 0) ∧ cd 164 89 = some ((.tableswitch 82 0 6 #[43, 48, 50, 56, 62, 64, 69]), 43, 0, 0, 0, 0) ∧ cd 164 132 = some ((.aload_n 0), 1, 0, 0, 0, 0) ∧ cd 164 133 = some ((.getfield 7), 3, 9, 1, 0, 805) ∧ cd 164 136 = some (.ireturn, 1, 0, 0, 0, 0) ∧ cd 164 137 = some ((.iload_n 2), 1, 0, 0, 0, 0) ∧ cd 164 138 = some (.ireturn, 1, 0, 0, 0, 0) ∧ cd 164 139 = some ((.aload_n 0), 1, 0, 0, 0, 0) ∧ cd 164 140 = some ((.iconst 0), 1, 0, 0, 0, 0) ∧ cd 164 141 = some ((.invokevirtual 165), 3, 165, 1, 1, 1075) ∧ cd 164 144 = some (.ireturn, 1, 0, 0, 0, 0) ∧ cd 164 145 = some ((.aload_n 0), 1, 0, 0, 0, 0) ∧ cd 164 146 = some ((.iconst 1), 1, 0, 0, 0, 0) ∧ cd 164 147 = some ((.invokevirtual 165), 3, 165, 1, 1, 1075) ∧ cd 164 150 = some (.ireturn, 1, 0, 0, 0, 0) ∧ cd 164 151 = some ((.iload_n 3), 1, 0, 0, 0, 0) ∧ cd 164 152 = some (.ireturn, 1, 0, 0, 0, 0) ∧ cd 164 153 = some ((.aload_n 0), 1, 0, 0, 0, 0) ∧ cd 164 154 = some ((.getfield 79), 3, 9, 18, 0, 822) ∧ cd 164 157 = some (.ireturn, 1, 0, 0, 0, 0) ∧ cd 164 158 = some ((.aload_n 0), 1, 0, 0, 0, 0) ∧ cd 164 159 = some ((.getfield 82), 3, 9, 19, 1, 823) ∧ cd 164 162 = some ((.ifCond .eq 7), 3, 169, 0, 0, 0) ∧ cd 164 165 = some ((.iconst 1), 1, 0, 0, 0, 0) ∧ cd 164 166 = some ((.goto 4), 3, 170, 0, 0, 0) ∧ cd 164 169 = some ((.iconst 0), 1, 0, 0, 0, 0) ∧ cd 164 170 = some (.ireturn, 1, 0, 0, 0, 0) ∧ cd 164 171 = some ((.aload_n 0), 1, 0, 0, 0, 0) ∧ True := conjL_of 164 c164_1 (by decide +kernel)
theorem D164_2 : cd 164 172 = some ((.getfield 76), 3, 9, 16, 0, 820) ∧ cd 164 175 = some (.ireturn, 1, 0, 0, 0, 0) ∧ True := conjL_of 164 c164_2 (by decide +kernel)
theorem Z164 : mZ 164 = 1 ∧ mL 164 = 5 ∧ mK 164 = 9 ∧ hT 164 = [] := ⟨rfl, rfl, rfl, rfl⟩
theorem D165 : cd 165 0 = some ((.iconst 0), 1, 0, 0, 0, 0) ∧ cd 165 1 = some ((.istore_n 2), 1, 0, 0, 0, 0) ∧ cd 165 2 = some ((.iconst 0), 1, 0, 0, 0, 0) ∧ cd 165 3 = some ((.istore_n 3), 1, 0, 0, 0, 0) ∧ cd 165 4 = some ((.iload_n 3), 1, 0, 0, 0, 0) ∧ cd 165 5 = some ((.aload_n 0), 1, 0, 0, 0, 0) ∧ cd 165 6 = some ((.getfield 7), 3, 9, 1, 0, 805) ∧ cd 165 9 = some ((.if_icmp .ge 26), 3, 35, 0, 0, 0) ∧ cd 165 12 = some ((.aload_n 0), 1, 0, 0, 0, 0) ∧ cd 165 13 = some ((.iload_n 1), 1, 0, 0, 0, 0) ∧ cd 165 14 = some ((.iload_n 3), 1, 0, 0, 0, 0) ∧ cd 165 15 = some ((.invokevirtual 100), 3, 125, 2, 1, 916) ∧ cd 165 18 = some ((.ifCond .eq 9), 3, 27, 0, 0, 0) ∧ cd 165 21 = some ((.iload_n 2), 1, 0, 0, 0, 0) ∧ cd 165 22 = some ((.iconst 1), 1, 0, 0, 0, 0) ∧ cd 165 23 = some (.iadd, 1, 0, 0, 0, 0) ∧ cd 165 24 = some ((.goto 4), 3, 28, 0, 0, 0) ∧ cd 165 27 = some ((.iload_n 2), 1, 0, 0, 0, 0) ∧ cd 165 28 = some ((.istore_n 2), 1, 0, 0, 0, 0) ∧ cd 165 29 = some ((.iinc 3 1), 3, 0, 0, 0, 0) ∧ cd 165 32 = some ((.goto (-28)), 3, 4, 0, 0, 0) ∧ cd 165 35 = some ((.iload_n 2), 1, 0, 0, 0, 0) ∧ cd 165 36 = some ((.iconst 2), 1, 0, 0, 0, 0) ∧ cd 165 37 = some (.idiv, 1, 0, 0, 0, 0) ∧ cd 165 38 = some (.ireturn, 1, 0, 0, 0, 0) ∧ True := conjL_of 165 c165 (by decide +kernel)
theorem Z165 : mZ 165 = 1 ∧ mL 165 = 4 ∧ mK 165 = 9 ∧ hT 165 = [] := ⟨rfl, rfl, rfl, rfl⟩
theorem CN : (Int8.ofInt 10).toInt32 = oi 10 ∧ (Int8.ofInt 11).toInt32 = oi 11 ∧ (Int8.ofInt 12).toInt32 = oi 12 ∧ (Int8.ofInt 18).toInt32 = oi 18 ∧ (Int8.ofInt 20).toInt32 = oi 20 ∧ (Int8.ofInt 26).toInt32 = oi 26 ∧ (Int8.ofInt 27).toInt32 = oi 27 ∧ (Int8.ofInt 31).toInt32 = oi 31 ∧ (Int8.ofInt 32).toInt32 = oi 32 ∧ (Int8.ofInt 39).toInt32 = oi 39 ∧ (Int8.ofInt 40).toInt32 = oi 40 ∧ (Int8.ofInt 54).toInt32 = oi 54 ∧ (Int8.ofInt 6).toInt32 = oi 6 ∧ (Int8.ofInt 60).toInt32 = oi 60 ∧ (Int8.ofInt 61).toInt32 = oi 61 ∧ (Int8.ofInt 64).toInt32 = oi 64 ∧ (Int8.ofInt 7).toInt32 = oi 7 ∧ (Int8.ofInt 8).toInt32 = oi 8 ∧ (Int16.ofInt 1200).toInt32 = oi 1200 ∧ (Int16.ofInt 256).toInt32 = oi 256 ∧ (Int16.ofInt 360).toInt32 = oi 360 ∧ (Int16.ofInt 5000).toInt32 = oi 5000 ∧ (Int16.ofInt 702).toInt32 = oi 702 ∧ (Int16.ofInt 720).toInt32 = oi 720 ∧ (Int16.ofInt 768).toInt32 = oi 768 := ⟨by decide +kernel, by decide +kernel, by decide +kernel, by decide +kernel, by decide +kernel, by decide +kernel, by decide +kernel, by decide +kernel, by decide +kernel, by decide +kernel, by decide +kernel, by decide +kernel, by decide +kernel, by decide +kernel, by decide +kernel, by decide +kernel, by decide +kernel, by decide +kernel, by decide +kernel, by decide +kernel, by decide +kernel, by decide +kernel, by decide +kernel, by decide +kernel, by decide +kernel⟩
end
section
/-! the class's own small methods -/
def thrw (E : Nat) (h : Hp) (sl : Nat) : Out := (.inr (h.1.length, E), (h.1 ++ [(10 + E, 0)], h.2), sl + 6)
theorem m_round {a n : Int} (ha : sm a) (hn : sm n) (h : Hp) (sl : Nat) (r : Out) : Ev (21, 0, [(0, .int (oi a)), (1, .int (oi n))], [], h, sl) r ↔ r = (.inl (some (.int (oi (rd a n)))), h, sl) := by
  obtain ⟨sh, gi, gl, gr⟩ := h
  rw [EvU_iff (fun _ => false) 20]
  unfold rd
  by_cases h1 : a < 0
  · simp [EvU, sx, stI, enI, caI, s_push, s_iload, s_aload, s_istore, s_astore, s_iinc, s_bin, s_div, s_i2l, s_lcmp, s_dup, s_dup2, s_pop, s_tab, s_look, s_get, s_put, s_iald, s_lald, s_aald, s_iast, s_last, s_aast, s_len, s_newa, s_new, s_thr, s_min, s_copy, s_obj, s_call, s_iret, s_aret, s_vret, go, ldI, lget, lput, lv_args, wsum, isB, va_rf, hnd, cvr, Value.category, oi_of, CN, D21, Z21, oi_lt0 ha, h1, oi_add]
  · by_cases h2 : n ≤ a
    · simp [EvU, sx, stI, enI, caI, s_push, s_iload, s_aload, s_istore, s_astore, s_iinc, s_bin, s_div, s_i2l, s_lcmp, s_dup, s_dup2, s_pop, s_tab, s_look, s_get, s_put, s_iald, s_lald, s_aald, s_iast, s_last, s_aast, s_len, s_newa, s_new, s_thr, s_min, s_copy, s_obj, s_call, s_iret, s_aret, s_vret, go, ldI, lget, lput, lv_args, wsum, isB, va_rf, hnd, cvr, Value.category, oi_of, CN, D21, Z21, oi_lt0 ha, oi_lt ha hn, oi_le hn ha, h1, h2, oi_sub, Int.not_lt.mpr h2]
    · simp [EvU, sx, stI, enI, caI, s_push, s_iload, s_aload, s_istore, s_astore, s_iinc, s_bin, s_div, s_i2l, s_lcmp, s_dup, s_dup2, s_pop, s_tab, s_look, s_get, s_put, s_iald, s_lald, s_aald, s_iast, s_last, s_aast, s_len, s_newa, s_new, s_thr, s_min, s_copy, s_obj, s_call, s_iret, s_aret, s_vret, go, ldI, lget, lput, lv_args, wsum, isB, va_rf, hnd, cvr, Value.category, oi_of, CN, D21, Z21, oi_lt0 ha, oi_lt ha hn, oi_le hn ha, h1, h2, Int.not_le.mp h2]
theorem m_need_ok {a n : Int} (ha : sm a) (hn : sm n) (h0 : 0 ≤ a) (h1 : a < n) (h : Hp) (sl : Nat) (r : Out) : Ev (34, 0, [(0, .int (oi a)), (1, .int (oi n))], [], h, sl) r ↔ r = (.inl none, h, sl) := by
  obtain ⟨sh, gi, gl, gr⟩ := h
  rw [EvU_iff (fun _ => false) 20]
  simp [EvU, sx, stI, enI, caI, s_push, s_iload, s_aload, s_istore, s_astore, s_iinc, s_bin, s_div, s_i2l, s_lcmp, s_dup, s_dup2, s_pop, s_tab, s_look, s_get, s_put, s_iald, s_lald, s_aald, s_iast, s_last, s_aast, s_len, s_newa, s_new, s_thr, s_min, s_copy, s_obj, s_call, s_iret, s_aret, s_vret, go, ldI, lget, lput, lv_args, wsum, isB, va_rf, hnd, cvr, Value.category, oi_of, CN, D34, Z34, oi_lt0 ha, oi_lt ha hn, oi_le hn ha, Int.not_lt.mpr h0, Int.not_le.mpr h1, h1]
theorem m_need_no {a n : Int} (ha : sm a) (hn : sm n) (h0 : ¬ (0 ≤ a ∧ a < n)) (h : Hp) (sl : Nat) (r : Out) (hC : h.1.length ≤ mxC) (hS : sl + 6 ≤ mxS) : Ev (34, 0, [(0, .int (oi a)), (1, .int (oi n))], [], h, sl) r ↔ r = thrw 2 h sl := by
  obtain ⟨sh, gi, gl, gr⟩ := h
  rw [EvU_iff (fun _ => false) 20]
  unfold thrw
  by_cases h1 : a < 0
  · simp [EvU, sx, stI, enI, caI, s_push, s_iload, s_aload, s_istore, s_astore, s_iinc, s_bin, s_div, s_i2l, s_lcmp, s_dup, s_dup2, s_pop, s_tab, s_look, s_get, s_put, s_iald, s_lald, s_aald, s_iast, s_last, s_aast, s_len, s_newa, s_new, s_thr, s_min, s_copy, s_obj, s_call, s_iret, s_aret, s_vret, go, ldI, lget, lput, lv_args, wsum, isB, va_rf, hnd, cvr, Value.category, oi_of, CN, D34, Z34, oi_lt0 ha, h1, Nat.not_lt.mpr hC, Nat.not_lt.mpr hS]
  · have h2 : n ≤ a := by omega
    simp [EvU, sx, stI, enI, caI, s_push, s_iload, s_aload, s_istore, s_astore, s_iinc, s_bin, s_div, s_i2l, s_lcmp, s_dup, s_dup2, s_pop, s_tab, s_look, s_get, s_put, s_iald, s_lald, s_aald, s_iast, s_last, s_aast, s_len, s_newa, s_new, s_thr, s_min, s_copy, s_obj, s_call, s_iret, s_aret, s_vret, go, ldI, lget, lput, lv_args, wsum, isB, va_rf, hnd, cvr, Value.category, oi_of, CN, D34, Z34, oi_lt0 ha, oi_lt ha hn, oi_le hn ha, h1, h2, Int.not_lt.mpr h2, Nat.not_lt.mpr hC, Nat.not_lt.mpr hS]
end
