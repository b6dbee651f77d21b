/-! the tables, checked -/
def zipA : List Cond → List Nat → Bool
  | [], _ => true
  | v :: t, p :: ps => wAt p v && okw v && zipA t ps
  | _ :: _, [] => false
theorem zipA_spec : ∀ (vs : List Cond) (ps : List Nat), zipA vs ps = true → ∀ v ∈ vs, v ∈ lw_tbl ∧ okw v = true
  | [], _, _, v, hv => by cases hv
  | x :: t, [], h, _, _ => by cases h
  | x :: t, p :: ps, h, v, hv => by
    unfold zipA at h
    rw [Bool.and_eq_true, Bool.and_eq_true] at h
    rcases List.mem_cons.mp hv with rfl | hv
    · exact ⟨List.mem_of_getElem? (of_decide_eq_true h.1.1), h.1.2⟩
    · exact zipA_spec t ps h.2 v hv
theorem tb_E : ∀ E, E < 3 → zipA (exWs E) (exQl.getD E []) = true := by decide +kernel
theorem tb_B : okB = true := by decide +kernel
theorem tb_K : ∀ x, x < 10 → okK x = true := by decide +kernel
theorem tb_A : zipA [.arrayClass .int, .arrayClass .boolean, .arrayClass .long] acP = true := by decide +kernel
theorem tbM1 : okM 1 = true := by decide +kernel
theorem tbM2 : okM 2 = true := by decide +kernel
theorem tbM3 : okM 3 = true := by decide +kernel
theorem tbM4 : okM 4 = true := by decide +kernel
theorem tbM5 : okM 5 = true := by decide +kernel
theorem tbM6 : okM 6 = true := by decide +kernel
theorem tbM7 : okM 7 = true := by decide +kernel
theorem tbM8 : okM 8 = true := by decide +kernel
theorem tbM9 : okM 9 = true := by decide +kernel
theorem tbM10 : okM 10 = true := by decide +kernel
theorem tbM11 : okM 11 = true := by decide +kernel
theorem tbM12 : okM 12 = true := by decide +kernel
theorem tbM13 : okM 13 = true := by decide +kernel
theorem tbM14 : okM 14 = true := by decide +kernel
theorem tbM15 : okM 15 = true := by decide +kernel
theorem tbM16 : okM 16 = true := by decide +kernel
theorem tbM17 : okM 17 = true := by decide +kernel
theorem tbM18 : okM 18 = true := by decide +kernel
theorem tbM19 : okM 19 = true := by decide +kernel
theorem tbM20 : okM 20 = true := by decide +kernel
theorem tbM21 : okM 21 = true := by decide +kernel
theorem tbM22 : okM 22 = true := by decide +kernel
theorem tbM23 : okM 23 = true := by decide +kernel
theorem tbM24 : okM 24 = true := by decide +kernel
theorem tbM25 : okM 25 = true := by decide +kernel
theorem tbM26 : okM 26 = true := by decide +kernel
theorem tbM27 : okM 27 = true := by decide +kernel
theorem tbM28 : okM 28 = true := by decide +kernel
theorem tbM29 : okM 29 = true := by decide +kernel
theorem tbM30 : okM 30 = true := by decide +kernel
theorem tbM31 : okM 31 = true := by decide +kernel
theorem tbM32 : okM 32 = true := by decide +kernel
theorem tbM33 : okM 33 = true := by decide +kernel
theorem tbM34 : okM 34 = true := by decide +kernel
theorem tbM35 : okM 35 = true := by decide +kernel
theorem tbM36 : okM 36 = true := by decide +kernel
theorem tbM37 : okM 37 = true := by decide +kernel
theorem tbM38 : okM 38 = true := by decide +kernel
theorem tbM39 : okM 39 = true := by decide +kernel
theorem tbM40 : okM 40 = true := by decide +kernel
theorem tbM41 : okM 41 = true := by decide +kernel
theorem tbM42 : okM 42 = true := by decide +kernel
theorem tbM43 : okM 43 = true := by decide +kernel
theorem tbM44 : okM 44 = true := by decide +kernel
theorem tbM45 : okM 45 = true := by decide +kernel
theorem tbM46 : okM 46 = true := by decide +kernel
theorem tbM47 : okM 47 = true := by decide +kernel
theorem tbM48 : okM 48 = true := by decide +kernel
theorem tbM49 : okM 49 = true := by decide +kernel
theorem tbM50 : okM 50 = true := by decide +kernel
theorem tbM51 : okM 51 = true := by decide +kernel
theorem tbM52 : okM 52 = true := by decide +kernel
theorem tbM53 : okM 53 = true := by decide +kernel
theorem tbM54 : okM 54 = true := by decide +kernel
theorem tbM55 : okM 55 = true := by decide +kernel
theorem tbM56 : okM 56 = true := by decide +kernel
theorem tbM57 : okM 57 = true := by decide +kernel
theorem tbM58 : okM 58 = true := by decide +kernel
theorem tbM59 : okM 59 = true := by decide +kernel
theorem tbM60 : okM 60 = true := by decide +kernel
theorem tbM61 : okM 61 = true := by decide +kernel
theorem tbM62 : okM 62 = true := by decide +kernel
theorem tbM63 : okM 63 = true := by decide +kernel
theorem tbM64 : okM 64 = true := by decide +kernel
theorem tbM65 : okM 65 = true := by decide +kernel
theorem tbM66 : okM 66 = true := by decide +kernel
theorem tbM67 : okM 67 = true := by decide +kernel
theorem tbM68 : okM 68 = true := by decide +kernel
theorem tbM69 : okM 69 = true := by decide +kernel
theorem tbM70 : okM 70 = true := by decide +kernel
theorem tbM71 : okM 71 = true := by decide +kernel
theorem tbM72 : okM 72 = true := by decide +kernel
theorem tbM73 : okM 73 = true := by decide +kernel
theorem tbM74 : okM 74 = true := by decide +kernel
theorem tbM75 : okM 75 = true := by decide +kernel
theorem tbM76 : okM 76 = true := by decide +kernel
theorem tbM77 : okM 77 = true := by decide +kernel
theorem tbM78 : okM 78 = true := by decide +kernel
theorem tbM79 : okM 79 = true := by decide +kernel
theorem tbM80 : okM 80 = true := by decide +kernel
theorem tbM81 : okM 81 = true := by decide +kernel
theorem tbM82 : okM 82 = true := by decide +kernel
theorem tbM83 : okM 83 = true := by decide +kernel
theorem tbM84 : okM 84 = true := by decide +kernel
theorem tbM85 : okM 85 = true := by decide +kernel
theorem tbM86 : okM 86 = true := by decide +kernel
theorem tbM87 : okM 87 = true := by decide +kernel
theorem tbM88 : okM 88 = true := by decide +kernel
theorem tbM89 : okM 89 = true := by decide +kernel
theorem tbM90 : okM 90 = true := by decide +kernel
theorem tbM91 : okM 91 = true := by decide +kernel
theorem tbM92 : okM 92 = true := by decide +kernel
theorem tbM93 : okM 93 = true := by decide +kernel
theorem tbM94 : okM 94 = true := by decide +kernel
theorem tbM95 : okM 95 = true := by decide +kernel
theorem tbM96 : okM 96 = true := by decide +kernel
theorem tbM97 : okM 97 = true := by decide +kernel
theorem tbM98 : okM 98 = true := by decide +kernel
theorem tbM99 : okM 99 = true := by decide +kernel
theorem tbM100 : okM 100 = true := by decide +kernel
theorem tbM101 : okM 101 = true := by decide +kernel
theorem tbM102 : okM 102 = true := by decide +kernel
theorem tbM103 : okM 103 = true := by decide +kernel
theorem tbM104 : okM 104 = true := by decide +kernel
theorem tbM105 : okM 105 = true := by decide +kernel
theorem tbM106 : okM 106 = true := by decide +kernel
theorem tbM107 : okM 107 = true := by decide +kernel
theorem tbM108 : okM 108 = true := by decide +kernel
theorem tbM109 : okM 109 = true := by decide +kernel
theorem tbM110 : okM 110 = true := by decide +kernel
theorem tbM111 : okM 111 = true := by decide +kernel
theorem tbM112 : okM 112 = true := by decide +kernel
theorem tbM113 : okM 113 = true := by decide +kernel
theorem tbM114 : okM 114 = true := by decide +kernel
theorem tbM115 : okM 115 = true := by decide +kernel
theorem tbM116 : okM 116 = true := by decide +kernel
theorem tbM117 : okM 117 = true := by decide +kernel
theorem tbM118 : okM 118 = true := by decide +kernel
theorem tbM119 : okM 119 = true := by decide +kernel
theorem tbM120 : okM 120 = true := by decide +kernel
theorem tbM121 : okM 121 = true := by decide +kernel
theorem tbM122 : okM 122 = true := by decide +kernel
theorem tbM123 : okM 123 = true := by decide +kernel
theorem tbM124 : okM 124 = true := by decide +kernel
theorem tbM125 : okM 125 = true := by decide +kernel
theorem tbM126 : okM 126 = true := by decide +kernel
theorem tbM127 : okM 127 = true := by decide +kernel
theorem tbM128 : okM 128 = true := by decide +kernel
theorem tbM129 : okM 129 = true := by decide +kernel
theorem tbM130 : okM 130 = true := by decide +kernel
theorem tbM131 : okM 131 = true := by decide +kernel
theorem tbM132 : okM 132 = true := by decide +kernel
theorem tbM133 : okM 133 = true := by decide +kernel
theorem tbM134 : okM 134 = true := by decide +kernel
theorem tbM135 : okM 135 = true := by decide +kernel
theorem tbM136 : okM 136 = true := by decide +kernel
theorem tbM137 : okM 137 = true := by decide +kernel
theorem tbM138 : okM 138 = true := by decide +kernel
theorem tbM139 : okM 139 = true := by decide +kernel
theorem tbM140 : okM 140 = true := by decide +kernel
theorem tbM141 : okM 141 = true := by decide +kernel
theorem tbM142 : okM 142 = true := by decide +kernel
theorem tbM143 : okM 143 = true := by decide +kernel
theorem tbM144 : okM 144 = true := by decide +kernel
theorem tbM145 : okM 145 = true := by decide +kernel
theorem tbM146 : okM 146 = true := by decide +kernel
theorem tbM147 : okM 147 = true := by decide +kernel
theorem tbM148 : okM 148 = true := by decide +kernel
theorem tbM149 : okM 149 = true := by decide +kernel
theorem tbM150 : okM 150 = true := by decide +kernel
theorem tbM151 : okM 151 = true := by decide +kernel
theorem tbM152 : okM 152 = true := by decide +kernel
theorem tbM153 : okM 153 = true := by decide +kernel
theorem tbM154 : okM 154 = true := by decide +kernel
theorem tbM155 : okM 155 = true := by decide +kernel
theorem tbM156 : okM 156 = true := by decide +kernel
theorem tbM157 : okM 157 = true := by decide +kernel
theorem tbM158 : okM 158 = true := by decide +kernel
theorem tbM159 : okM 159 = true := by decide +kernel
theorem tbM160 : okM 160 = true := by decide +kernel
theorem tbM161 : okM 161 = true := by decide +kernel
theorem tbM162 : okM 162 = true := by decide +kernel
theorem tbM163 : okM 163 = true := by decide +kernel
theorem tbM164 : okM 164 = true := by decide +kernel
theorem tbM165 : okM 165 = true := by decide +kernel
theorem tbQ0_0 : ∀ z ∈ c0_0, okQ 0 z = true := by decide +kernel
theorem tbQ0_1 : ∀ z ∈ c0_1, okQ 0 z = true := by decide +kernel
theorem tbQ0_2 : ∀ z ∈ c0_2, okQ 0 z = true := by decide +kernel
theorem tbQ0_3 : ∀ z ∈ c0_3, okQ 0 z = true := by decide +kernel
theorem tbQ0_4 : ∀ z ∈ c0_4, okQ 0 z = true := by decide +kernel
theorem tbQ0_5 : ∀ z ∈ c0_5, okQ 0 z = true := by decide +kernel
theorem tbQ0_6 : ∀ z ∈ c0_6, okQ 0 z = true := by decide +kernel
theorem tbQ0_7 : ∀ z ∈ c0_7, okQ 0 z = true := by decide +kernel
theorem tbQ0_8 : ∀ z ∈ c0_8, okQ 0 z = true := by decide +kernel
theorem tbQ0_9 : ∀ z ∈ c0_9, okQ 0 z = true := by decide +kernel
theorem tbQ0_10 : ∀ z ∈ c0_10, okQ 0 z = true := by decide +kernel
theorem tbQ0_11 : ∀ z ∈ c0_11, okQ 0 z = true := by decide +kernel
theorem tbQ0_12 : ∀ z ∈ c0_12, okQ 0 z = true := by decide +kernel
theorem tbQ0_13 : ∀ z ∈ c0_13, okQ 0 z = true := by decide +kernel
theorem tbQ0_14 : ∀ z ∈ c0_14, okQ 0 z = true := by decide +kernel
theorem tbQ0_15 : ∀ z ∈ c0_15, okQ 0 z = true := by decide +kernel
theorem tbQ0_16 : ∀ z ∈ c0_16, okQ 0 z = true := by decide +kernel
theorem tbQ0_17 : ∀ z ∈ c0_17, okQ 0 z = true := by decide +kernel
theorem tbQ0_18 : ∀ z ∈ c0_18, okQ 0 z = true := by decide +kernel
theorem tbQ0_19 : ∀ z ∈ c0_19, okQ 0 z = true := by decide +kernel
theorem tbQ0_20 : ∀ z ∈ c0_20, okQ 0 z = true := by decide +kernel
theorem tbQ0_21 : ∀ z ∈ c0_21, okQ 0 z = true := by decide +kernel
theorem tbQ0_22 : ∀ z ∈ c0_22, okQ 0 z = true := by decide +kernel
theorem tbQ0_23 : ∀ z ∈ c0_23, okQ 0 z = true := by decide +kernel
theorem tbQ0_24 : ∀ z ∈ c0_24, okQ 0 z = true := by decide +kernel
theorem tbQ0_25 : ∀ z ∈ c0_25, okQ 0 z = true := by decide +kernel
theorem tbQ0_26 : ∀ z ∈ c0_26, okQ 0 z = true := by decide +kernel
theorem tbQ0 : ∀ z ∈ c0, okQ 0 z = true := List.forall_mem_append.mpr ⟨tbQ0_0, List.forall_mem_append.mpr ⟨tbQ0_1, List.forall_mem_append.mpr ⟨tbQ0_2, List.forall_mem_append.mpr ⟨tbQ0_3, List.forall_mem_append.mpr ⟨tbQ0_4, List.forall_mem_append.mpr ⟨tbQ0_5, List.forall_mem_append.mpr ⟨tbQ0_6, List.forall_mem_append.mpr ⟨tbQ0_7, List.forall_mem_append.mpr ⟨tbQ0_8, List.forall_mem_append.mpr ⟨tbQ0_9, List.forall_mem_append.mpr ⟨tbQ0_10, List.forall_mem_append.mpr ⟨tbQ0_11, List.forall_mem_append.mpr ⟨tbQ0_12, List.forall_mem_append.mpr ⟨tbQ0_13, List.forall_mem_append.mpr ⟨tbQ0_14, List.forall_mem_append.mpr ⟨tbQ0_15, List.forall_mem_append.mpr ⟨tbQ0_16, List.forall_mem_append.mpr ⟨tbQ0_17, List.forall_mem_append.mpr ⟨tbQ0_18, List.forall_mem_append.mpr ⟨tbQ0_19, List.forall_mem_append.mpr ⟨tbQ0_20, List.forall_mem_append.mpr ⟨tbQ0_21, List.forall_mem_append.mpr ⟨tbQ0_22, List.forall_mem_append.mpr ⟨tbQ0_23, List.forall_mem_append.mpr ⟨tbQ0_24, List.forall_mem_append.mpr ⟨tbQ0_25, tbQ0_26⟩⟩⟩⟩⟩⟩⟩⟩⟩⟩⟩⟩⟩⟩⟩⟩⟩⟩⟩⟩⟩⟩⟩⟩⟩⟩
theorem tbQ1 : ∀ z ∈ c1, okQ 1 z = true := by decide +kernel
theorem tbQ2_0 : ∀ z ∈ c2_0, okQ 2 z = true := by decide +kernel
theorem tbQ2_1 : ∀ z ∈ c2_1, okQ 2 z = true := by decide +kernel
theorem tbQ2 : ∀ z ∈ c2, okQ 2 z = true := List.forall_mem_append.mpr ⟨tbQ2_0, tbQ2_1⟩
theorem tbQ3 : ∀ z ∈ c3, okQ 3 z = true := by decide +kernel
theorem tbQ4 : ∀ z ∈ c4, okQ 4 z = true := by decide +kernel
theorem tbQ5 : ∀ z ∈ c5, okQ 5 z = true := by decide +kernel
theorem tbQ6 : ∀ z ∈ c6, okQ 6 z = true := by decide +kernel
theorem tbQ7 : ∀ z ∈ c7, okQ 7 z = true := by decide +kernel
theorem tbQ8 : ∀ z ∈ c8, okQ 8 z = true := by decide +kernel
theorem tbQ9 : ∀ z ∈ c9, okQ 9 z = true := by decide +kernel
theorem tbQ10_0 : ∀ z ∈ c10_0, okQ 10 z = true := by decide +kernel
theorem tbQ10_1 : ∀ z ∈ c10_1, okQ 10 z = true := by decide +kernel
theorem tbQ10 : ∀ z ∈ c10, okQ 10 z = true := List.forall_mem_append.mpr ⟨tbQ10_0, tbQ10_1⟩
theorem tbQ11 : ∀ z ∈ c11, okQ 11 z = true := by decide +kernel
theorem tbQ12 : ∀ z ∈ c12, okQ 12 z = true := by decide +kernel
theorem tbQ13 : ∀ z ∈ c13, okQ 13 z = true := by decide +kernel
theorem tbQ14 : ∀ z ∈ c14, okQ 14 z = true := by decide +kernel
theorem tbQ15 : ∀ z ∈ c15, okQ 15 z = true := by decide +kernel
theorem tbQ16 : ∀ z ∈ c16, okQ 16 z = true := by decide +kernel
theorem tbQ17 : ∀ z ∈ c17, okQ 17 z = true := by decide +kernel
theorem tbQ18 : ∀ z ∈ c18, okQ 18 z = true := by decide +kernel
theorem tbQ19 : ∀ z ∈ c19, okQ 19 z = true := by decide +kernel
theorem tbQ20 : ∀ z ∈ c20, okQ 20 z = true := by decide +kernel
theorem tbQ21 : ∀ z ∈ c21, okQ 21 z = true := by decide +kernel
theorem tbQ22 : ∀ z ∈ c22, okQ 22 z = true := by decide +kernel
theorem tbQ23 : ∀ z ∈ c23, okQ 23 z = true := by decide +kernel
theorem tbQ24 : ∀ z ∈ c24, okQ 24 z = true := by decide +kernel
theorem tbQ25 : ∀ z ∈ c25, okQ 25 z = true := by decide +kernel
theorem tbQ26 : ∀ z ∈ c26, okQ 26 z = true := by decide +kernel
theorem tbQ27 : ∀ z ∈ c27, okQ 27 z = true := by decide +kernel
theorem tbQ28 : ∀ z ∈ c28, okQ 28 z = true := by decide +kernel
theorem tbQ29 : ∀ z ∈ c29, okQ 29 z = true := by decide +kernel
theorem tbQ30 : ∀ z ∈ c30, okQ 30 z = true := by decide +kernel
theorem tbQ31 : ∀ z ∈ c31, okQ 31 z = true := by decide +kernel
theorem tbQ32 : ∀ z ∈ c32, okQ 32 z = true := by decide +kernel
theorem tbQ33 : ∀ z ∈ c33, okQ 33 z = true := by decide +kernel
theorem tbQ34 : ∀ z ∈ c34, okQ 34 z = true := by decide +kernel
theorem tbQ35 : ∀ z ∈ c35, okQ 35 z = true := by decide +kernel
theorem tbQ36 : ∀ z ∈ c36, okQ 36 z = true := by decide +kernel
theorem tbQ37 : ∀ z ∈ c37, okQ 37 z = true := by decide +kernel
theorem tbQ38 : ∀ z ∈ c38, okQ 38 z = true := by decide +kernel
theorem tbQ39 : ∀ z ∈ c39, okQ 39 z = true := by decide +kernel
theorem tbQ40 : ∀ z ∈ c40, okQ 40 z = true := by decide +kernel
theorem tbQ41 : ∀ z ∈ c41, okQ 41 z = true := by decide +kernel
theorem tbQ42 : ∀ z ∈ c42, okQ 42 z = true := by decide +kernel
theorem tbQ43 : ∀ z ∈ c43, okQ 43 z = true := by decide +kernel
theorem tbQ44 : ∀ z ∈ c44, okQ 44 z = true := by decide +kernel
theorem tbQ45 : ∀ z ∈ c45, okQ 45 z = true := by decide +kernel
theorem tbQ46 : ∀ z ∈ c46, okQ 46 z = true := by decide +kernel
theorem tbQ47 : ∀ z ∈ c47, okQ 47 z = true := by decide +kernel
theorem tbQ48 : ∀ z ∈ c48, okQ 48 z = true := by decide +kernel
theorem tbQ49 : ∀ z ∈ c49, okQ 49 z = true := by decide +kernel
theorem tbQ50 : ∀ z ∈ c50, okQ 50 z = true := by decide +kernel
theorem tbQ51 : ∀ z ∈ c51, okQ 51 z = true := by decide +kernel
theorem tbQ52 : ∀ z ∈ c52, okQ 52 z = true := by decide +kernel
theorem tbQ53 : ∀ z ∈ c53, okQ 53 z = true := by decide +kernel
theorem tbQ54 : ∀ z ∈ c54, okQ 54 z = true := by decide +kernel
theorem tbQ55 : ∀ z ∈ c55, okQ 55 z = true := by decide +kernel
theorem tbQ56 : ∀ z ∈ c56, okQ 56 z = true := by decide +kernel
theorem tbQ57 : ∀ z ∈ c57, okQ 57 z = true := by decide +kernel
theorem tbQ58 : ∀ z ∈ c58, okQ 58 z = true := by decide +kernel
theorem tbQ59 : ∀ z ∈ c59, okQ 59 z = true := by decide +kernel
theorem tbQ60 : ∀ z ∈ c60, okQ 60 z = true := by decide +kernel
theorem tbQ61 : ∀ z ∈ c61, okQ 61 z = true := by decide +kernel
theorem tbQ62 : ∀ z ∈ c62, okQ 62 z = true := by decide +kernel
theorem tbQ63 : ∀ z ∈ c63, okQ 63 z = true := by decide +kernel
theorem tbQ64 : ∀ z ∈ c64, okQ 64 z = true := by decide +kernel
theorem tbQ65 : ∀ z ∈ c65, okQ 65 z = true := by decide +kernel
theorem tbQ66 : ∀ z ∈ c66, okQ 66 z = true := by decide +kernel
theorem tbQ67 : ∀ z ∈ c67, okQ 67 z = true := by decide +kernel
theorem tbQ68 : ∀ z ∈ c68, okQ 68 z = true := by decide +kernel
theorem tbQ69 : ∀ z ∈ c69, okQ 69 z = true := by decide +kernel
theorem tbQ70 : ∀ z ∈ c70, okQ 70 z = true := by decide +kernel
theorem tbQ71 : ∀ z ∈ c71, okQ 71 z = true := by decide +kernel
theorem tbQ72 : ∀ z ∈ c72, okQ 72 z = true := by decide +kernel
theorem tbQ73 : ∀ z ∈ c73, okQ 73 z = true := by decide +kernel
theorem tbQ74 : ∀ z ∈ c74, okQ 74 z = true := by decide +kernel
theorem tbQ75_0 : ∀ z ∈ c75_0, okQ 75 z = true := by decide +kernel
theorem tbQ75_1 : ∀ z ∈ c75_1, okQ 75 z = true := by decide +kernel
theorem tbQ75 : ∀ z ∈ c75, okQ 75 z = true := List.forall_mem_append.mpr ⟨tbQ75_0, tbQ75_1⟩
theorem tbQ76 : ∀ z ∈ c76, okQ 76 z = true := by decide +kernel
theorem tbQ77 : ∀ z ∈ c77, okQ 77 z = true := by decide +kernel
theorem tbQ78_0 : ∀ z ∈ c78_0, okQ 78 z = true := by decide +kernel
theorem tbQ78_1 : ∀ z ∈ c78_1, okQ 78 z = true := by decide +kernel
theorem tbQ78 : ∀ z ∈ c78, okQ 78 z = true := List.forall_mem_append.mpr ⟨tbQ78_0, tbQ78_1⟩
theorem tbQ79 : ∀ z ∈ c79, okQ 79 z = true := by decide +kernel
theorem tbQ80 : ∀ z ∈ c80, okQ 80 z = true := by decide +kernel
theorem tbQ81 : ∀ z ∈ c81, okQ 81 z = true := by decide +kernel
theorem tbQ82 : ∀ z ∈ c82, okQ 82 z = true := by decide +kernel
theorem tbQ83 : ∀ z ∈ c83, okQ 83 z = true := by decide +kernel
theorem tbQ84 : ∀ z ∈ c84, okQ 84 z = true := by decide +kernel
theorem tbQ85 : ∀ z ∈ c85, okQ 85 z = true := by decide +kernel
theorem tbQ86 : ∀ z ∈ c86, okQ 86 z = true := by decide +kernel
theorem tbQ87 : ∀ z ∈ c87, okQ 87 z = true := by decide +kernel
theorem tbQ88 : ∀ z ∈ c88, okQ 88 z = true := by decide +kernel
theorem tbQ89 : ∀ z ∈ c89, okQ 89 z = true := by decide +kernel
theorem tbQ90 : ∀ z ∈ c90, okQ 90 z = true := by decide +kernel
theorem tbQ91 : ∀ z ∈ c91, okQ 91 z = true := by decide +kernel
theorem tbQ92 : ∀ z ∈ c92, okQ 92 z = true := by decide +kernel
theorem tbQ93 : ∀ z ∈ c93, okQ 93 z = true := by decide +kernel
theorem tbQ94 : ∀ z ∈ c94, okQ 94 z = true := by decide +kernel
theorem tbQ95 : ∀ z ∈ c95, okQ 95 z = true := by decide +kernel
theorem tbQ96 : ∀ z ∈ c96, okQ 96 z = true := by decide +kernel
theorem tbQ97 : ∀ z ∈ c97, okQ 97 z = true := by decide +kernel
theorem tbQ98 : ∀ z ∈ c98, okQ 98 z = true := by decide +kernel
theorem tbQ99 : ∀ z ∈ c99, okQ 99 z = true := by decide +kernel
theorem tbQ100 : ∀ z ∈ c100, okQ 100 z = true := by decide +kernel
theorem tbQ101 : ∀ z ∈ c101, okQ 101 z = true := by decide +kernel
theorem tbQ102 : ∀ z ∈ c102, okQ 102 z = true := by decide +kernel
theorem tbQ103 : ∀ z ∈ c103, okQ 103 z = true := by decide +kernel
theorem tbQ104 : ∀ z ∈ c104, okQ 104 z = true := by decide +kernel
theorem tbQ105 : ∀ z ∈ c105, okQ 105 z = true := by decide +kernel
theorem tbQ106 : ∀ z ∈ c106, okQ 106 z = true := by decide +kernel
theorem tbQ107 : ∀ z ∈ c107, okQ 107 z = true := by decide +kernel
theorem tbQ108 : ∀ z ∈ c108, okQ 108 z = true := by decide +kernel
theorem tbQ109 : ∀ z ∈ c109, okQ 109 z = true := by decide +kernel
theorem tbQ110 : ∀ z ∈ c110, okQ 110 z = true := by decide +kernel
theorem tbQ111 : ∀ z ∈ c111, okQ 111 z = true := by decide +kernel
theorem tbQ112 : ∀ z ∈ c112, okQ 112 z = true := by decide +kernel
theorem tbQ113_0 : ∀ z ∈ c113_0, okQ 113 z = true := by decide +kernel
theorem tbQ113_1 : ∀ z ∈ c113_1, okQ 113 z = true := by decide +kernel
theorem tbQ113 : ∀ z ∈ c113, okQ 113 z = true := List.forall_mem_append.mpr ⟨tbQ113_0, tbQ113_1⟩
theorem tbQ114_0 : ∀ z ∈ c114_0, okQ 114 z = true := by decide +kernel
theorem tbQ114_1 : ∀ z ∈ c114_1, okQ 114 z = true := by decide +kernel
theorem tbQ114_2 : ∀ z ∈ c114_2, okQ 114 z = true := by decide +kernel
theorem tbQ114 : ∀ z ∈ c114, okQ 114 z = true := List.forall_mem_append.mpr ⟨tbQ114_0, List.forall_mem_append.mpr ⟨tbQ114_1, tbQ114_2⟩⟩
theorem tbQ115 : ∀ z ∈ c115, okQ 115 z = true := by decide +kernel
theorem tbQ116 : ∀ z ∈ c116, okQ 116 z = true := by decide +kernel
theorem tbQ117 : ∀ z ∈ c117, okQ 117 z = true := by decide +kernel
theorem tbQ118_0 : ∀ z ∈ c118_0, okQ 118 z = true := by decide +kernel
theorem tbQ118_1 : ∀ z ∈ c118_1, okQ 118 z = true := by decide +kernel
theorem tbQ118 : ∀ z ∈ c118, okQ 118 z = true := List.forall_mem_append.mpr ⟨tbQ118_0, tbQ118_1⟩
theorem tbQ119 : ∀ z ∈ c119, okQ 119 z = true := by decide +kernel
theorem tbQ120 : ∀ z ∈ c120, okQ 120 z = true := by decide +kernel
theorem tbQ121 : ∀ z ∈ c121, okQ 121 z = true := by decide +kernel
theorem tbQ122 : ∀ z ∈ c122, okQ 122 z = true := by decide +kernel
theorem tbQ123_0 : ∀ z ∈ c123_0, okQ 123 z = true := by decide +kernel
theorem tbQ123_1 : ∀ z ∈ c123_1, okQ 123 z = true := by decide +kernel
theorem tbQ123 : ∀ z ∈ c123, okQ 123 z = true := List.forall_mem_append.mpr ⟨tbQ123_0, tbQ123_1⟩
theorem tbQ124_0 : ∀ z ∈ c124_0, okQ 124 z = true := by decide +kernel
theorem tbQ124_1 : ∀ z ∈ c124_1, okQ 124 z = true := by decide +kernel
theorem tbQ124 : ∀ z ∈ c124, okQ 124 z = true := List.forall_mem_append.mpr ⟨tbQ124_0, tbQ124_1⟩
theorem tbQ125 : ∀ z ∈ c125, okQ 125 z = true := by decide +kernel
theorem tbQ126 : ∀ z ∈ c126, okQ 126 z = true := by decide +kernel
theorem tbQ127 : ∀ z ∈ c127, okQ 127 z = true := by decide +kernel
theorem tbQ128 : ∀ z ∈ c128, okQ 128 z = true := by decide +kernel
theorem tbQ129 : ∀ z ∈ c129, okQ 129 z = true := by decide +kernel
theorem tbQ130 : ∀ z ∈ c130, okQ 130 z = true := by decide +kernel
theorem tbQ131 : ∀ z ∈ c131, okQ 131 z = true := by decide +kernel
theorem tbQ132 : ∀ z ∈ c132, okQ 132 z = true := by decide +kernel
theorem tbQ133 : ∀ z ∈ c133, okQ 133 z = true := by decide +kernel
theorem tbQ134 : ∀ z ∈ c134, okQ 134 z = true := by decide +kernel
theorem tbQ135 : ∀ z ∈ c135, okQ 135 z = true := by decide +kernel
theorem tbQ136_0 : ∀ z ∈ c136_0, okQ 136 z = true := by decide +kernel
theorem tbQ136_1 : ∀ z ∈ c136_1, okQ 136 z = true := by decide +kernel
theorem tbQ136 : ∀ z ∈ c136, okQ 136 z = true := List.forall_mem_append.mpr ⟨tbQ136_0, tbQ136_1⟩
theorem tbQ137 : ∀ z ∈ c137, okQ 137 z = true := by decide +kernel
theorem tbQ138_0 : ∀ z ∈ c138_0, okQ 138 z = true := by decide +kernel
theorem tbQ138_1 : ∀ z ∈ c138_1, okQ 138 z = true := by decide +kernel
theorem tbQ138_2 : ∀ z ∈ c138_2, okQ 138 z = true := by decide +kernel
theorem tbQ138 : ∀ z ∈ c138, okQ 138 z = true := List.forall_mem_append.mpr ⟨tbQ138_0, List.forall_mem_append.mpr ⟨tbQ138_1, tbQ138_2⟩⟩
theorem tbQ139_0 : ∀ z ∈ c139_0, okQ 139 z = true := by decide +kernel
theorem tbQ139_1 : ∀ z ∈ c139_1, okQ 139 z = true := by decide +kernel
theorem tbQ139 : ∀ z ∈ c139, okQ 139 z = true := List.forall_mem_append.mpr ⟨tbQ139_0, tbQ139_1⟩
theorem tbQ140 : ∀ z ∈ c140, okQ 140 z = true := by decide +kernel
theorem tbQ141 : ∀ z ∈ c141, okQ 141 z = true := by decide +kernel
theorem tbQ142 : ∀ z ∈ c142, okQ 142 z = true := by decide +kernel
theorem tbQ143 : ∀ z ∈ c143, okQ 143 z = true := by decide +kernel
theorem tbQ144 : ∀ z ∈ c144, okQ 144 z = true := by decide +kernel
theorem tbQ145 : ∀ z ∈ c145, okQ 145 z = true := by decide +kernel
theorem tbQ146 : ∀ z ∈ c146, okQ 146 z = true := by decide +kernel
theorem tbQ147 : ∀ z ∈ c147, okQ 147 z = true := by decide +kernel
theorem tbQ148 : ∀ z ∈ c148, okQ 148 z = true := by decide +kernel
theorem tbQ149_0 : ∀ z ∈ c149_0, okQ 149 z = true := by decide +kernel
theorem tbQ149_1 : ∀ z ∈ c149_1, okQ 149 z = true := by decide +kernel
theorem tbQ149 : ∀ z ∈ c149, okQ 149 z = true := List.forall_mem_append.mpr ⟨tbQ149_0, tbQ149_1⟩
theorem tbQ150 : ∀ z ∈ c150, okQ 150 z = true := by decide +kernel
theorem tbQ151 : ∀ z ∈ c151, okQ 151 z = true := by decide +kernel
theorem tbQ152 : ∀ z ∈ c152, okQ 152 z = true := by decide +kernel
theorem tbQ153 : ∀ z ∈ c153, okQ 153 z = true := by decide +kernel
theorem tbQ154 : ∀ z ∈ c154, okQ 154 z = true := by decide +kernel
theorem tbQ155 : ∀ z ∈ c155, okQ 155 z = true := by decide +kernel
theorem tbQ156 : ∀ z ∈ c156, okQ 156 z = true := by decide +kernel
theorem tbQ157 : ∀ z ∈ c157, okQ 157 z = true := by decide +kernel
theorem tbQ158 : ∀ z ∈ c158, okQ 158 z = true := by decide +kernel
theorem tbQ159 : ∀ z ∈ c159, okQ 159 z = true := by decide +kernel
theorem tbQ160 : ∀ z ∈ c160, okQ 160 z = true := by decide +kernel
theorem tbQ161 : ∀ z ∈ c161, okQ 161 z = true := by decide +kernel
theorem tbQ162 : ∀ z ∈ c162, okQ 162 z = true := by decide +kernel
theorem tbQ163_0 : ∀ z ∈ c163_0, okQ 163 z = true := by decide +kernel
theorem tbQ163_1 : ∀ z ∈ c163_1, okQ 163 z = true := by decide +kernel
theorem tbQ163_2 : ∀ z ∈ c163_2, okQ 163 z = true := by decide +kernel
theorem tbQ163 : ∀ z ∈ c163, okQ 163 z = true := List.forall_mem_append.mpr ⟨tbQ163_0, List.forall_mem_append.mpr ⟨tbQ163_1, tbQ163_2⟩⟩
theorem tbQ164_0 : ∀ z ∈ c164_0, okQ 164 z = true := by decide +kernel
theorem tbQ164_1 : ∀ z ∈ c164_1, okQ 164 z = true := by decide +kernel
theorem tbQ164_2 : ∀ z ∈ c164_2, okQ 164 z = true := by decide +kernel
theorem tbQ164 : ∀ z ∈ c164, okQ 164 z = true := List.forall_mem_append.mpr ⟨tbQ164_0, List.forall_mem_append.mpr ⟨tbQ164_1, tbQ164_2⟩⟩
theorem tbQ165 : ∀ z ∈ c165, okQ 165 z = true := by decide +kernel
def allL {α : Type} (P : Nat → α → Prop) : Nat → List α → Prop
  | _, [] => True
  | k, x :: t => P k x ∧ allL P (k + 1) t
theorem allL_spec {α : Type} {P : Nat → α → Prop} : ∀ (l : List α) (k i : Nat) (x : α), allL P k l → l[i]? = some x → P (k + i) x
  | [], _, i, x, _, h => by cases i <;> cases h
  | y :: t, k, 0, x, ha, h => by cases h; exact ha.1
  | y :: t, k, i + 1, x, ha, h => by
    have := allL_spec t (k + 1) i x ha.2 h
    rw [show k + (i + 1) = k + 1 + i by omega]
    exact this
theorem tbQa : allL (fun k l => ∀ z ∈ l, okQ k z = true) 0 cds := ⟨tbQ0, tbQ1, tbQ2, tbQ3, tbQ4, tbQ5, tbQ6, tbQ7, tbQ8, tbQ9, tbQ10, tbQ11, tbQ12, tbQ13, tbQ14, tbQ15, tbQ16, tbQ17, tbQ18, tbQ19, tbQ20, tbQ21, tbQ22, tbQ23, tbQ24, tbQ25, tbQ26, tbQ27, tbQ28, tbQ29, tbQ30, tbQ31, tbQ32, tbQ33, tbQ34, tbQ35, tbQ36, tbQ37, tbQ38, tbQ39, tbQ40, tbQ41, tbQ42, tbQ43, tbQ44, tbQ45, tbQ46, tbQ47, tbQ48, tbQ49, tbQ50, tbQ51, tbQ52, tbQ53, tbQ54, tbQ55, tbQ56, tbQ57, tbQ58, tbQ59, tbQ60, tbQ61, tbQ62, tbQ63, tbQ64, tbQ65, tbQ66, tbQ67, tbQ68, tbQ69, tbQ70, tbQ71, tbQ72, tbQ73, tbQ74, tbQ75, tbQ76, tbQ77, tbQ78, tbQ79, tbQ80, tbQ81, tbQ82, tbQ83, tbQ84, tbQ85, tbQ86, tbQ87, tbQ88, tbQ89, tbQ90, tbQ91, tbQ92, tbQ93, tbQ94, tbQ95, tbQ96, tbQ97, tbQ98, tbQ99, tbQ100, tbQ101, tbQ102, tbQ103, tbQ104, tbQ105, tbQ106, tbQ107, tbQ108, tbQ109, tbQ110, tbQ111, tbQ112, tbQ113, tbQ114, tbQ115, tbQ116, tbQ117, tbQ118, tbQ119, tbQ120, tbQ121, tbQ122, tbQ123, tbQ124, tbQ125, tbQ126, tbQ127, tbQ128, tbQ129, tbQ130, tbQ131, tbQ132, tbQ133, tbQ134, tbQ135, tbQ136, tbQ137, tbQ138, tbQ139, tbQ140, tbQ141, tbQ142, tbQ143, tbQ144, tbQ145, tbQ146, tbQ147, tbQ148, tbQ149, tbQ150, tbQ151, tbQ152, tbQ153, tbQ154, tbQ155, tbQ156, tbQ157, tbQ158, tbQ159, tbQ160, tbQ161, tbQ162, tbQ163, tbQ164, tbQ165, trivial⟩
theorem tbMa : allL (fun k (_ : MethodName) => 0 < k → okM k = true) 0 mYl := ⟨fun h => absurd h (Nat.lt_irrefl 0), fun _ => tbM1, fun _ => tbM2, fun _ => tbM3, fun _ => tbM4, fun _ => tbM5, fun _ => tbM6, fun _ => tbM7, fun _ => tbM8, fun _ => tbM9, fun _ => tbM10, fun _ => tbM11, fun _ => tbM12, fun _ => tbM13, fun _ => tbM14, fun _ => tbM15, fun _ => tbM16, fun _ => tbM17, fun _ => tbM18, fun _ => tbM19, fun _ => tbM20, fun _ => tbM21, fun _ => tbM22, fun _ => tbM23, fun _ => tbM24, fun _ => tbM25, fun _ => tbM26, fun _ => tbM27, fun _ => tbM28, fun _ => tbM29, fun _ => tbM30, fun _ => tbM31, fun _ => tbM32, fun _ => tbM33, fun _ => tbM34, fun _ => tbM35, fun _ => tbM36, fun _ => tbM37, fun _ => tbM38, fun _ => tbM39, fun _ => tbM40, fun _ => tbM41, fun _ => tbM42, fun _ => tbM43, fun _ => tbM44, fun _ => tbM45, fun _ => tbM46, fun _ => tbM47, fun _ => tbM48, fun _ => tbM49, fun _ => tbM50, fun _ => tbM51, fun _ => tbM52, fun _ => tbM53, fun _ => tbM54, fun _ => tbM55, fun _ => tbM56, fun _ => tbM57, fun _ => tbM58, fun _ => tbM59, fun _ => tbM60, fun _ => tbM61, fun _ => tbM62, fun _ => tbM63, fun _ => tbM64, fun _ => tbM65, fun _ => tbM66, fun _ => tbM67, fun _ => tbM68, fun _ => tbM69, fun _ => tbM70, fun _ => tbM71, fun _ => tbM72, fun _ => tbM73, fun _ => tbM74, fun _ => tbM75, fun _ => tbM76, fun _ => tbM77, fun _ => tbM78, fun _ => tbM79, fun _ => tbM80, fun _ => tbM81, fun _ => tbM82, fun _ => tbM83, fun _ => tbM84, fun _ => tbM85, fun _ => tbM86, fun _ => tbM87, fun _ => tbM88, fun _ => tbM89, fun _ => tbM90, fun _ => tbM91, fun _ => tbM92, fun _ => tbM93, fun _ => tbM94, fun _ => tbM95, fun _ => tbM96, fun _ => tbM97, fun _ => tbM98, fun _ => tbM99, fun _ => tbM100, fun _ => tbM101, fun _ => tbM102, fun _ => tbM103, fun _ => tbM104, fun _ => tbM105, fun _ => tbM106, fun _ => tbM107, fun _ => tbM108, fun _ => tbM109, fun _ => tbM110, fun _ => tbM111, fun _ => tbM112, fun _ => tbM113, fun _ => tbM114, fun _ => tbM115, fun _ => tbM116, fun _ => tbM117, fun _ => tbM118, fun _ => tbM119, fun _ => tbM120, fun _ => tbM121, fun _ => tbM122, fun _ => tbM123, fun _ => tbM124, fun _ => tbM125, fun _ => tbM126, fun _ => tbM127, fun _ => tbM128, fun _ => tbM129, fun _ => tbM130, fun _ => tbM131, fun _ => tbM132, fun _ => tbM133, fun _ => tbM134, fun _ => tbM135, fun _ => tbM136, fun _ => tbM137, fun _ => tbM138, fun _ => tbM139, fun _ => tbM140, fun _ => tbM141, fun _ => tbM142, fun _ => tbM143, fun _ => tbM144, fun _ => tbM145, fun _ => tbM146, fun _ => tbM147, fun _ => tbM148, fun _ => tbM149, fun _ => tbM150, fun _ => tbM151, fun _ => tbM152, fun _ => tbM153, fun _ => tbM154, fun _ => tbM155, fun _ => tbM156, fun _ => tbM157, fun _ => tbM158, fun _ => tbM159, fun _ => tbM160, fun _ => tbM161, fun _ => tbM162, fun _ => tbM163, fun _ => tbM164, fun _ => tbM165, trivial⟩
theorem tb_M : ∀ a, a < mYl.length → 0 < a → okM a = true := fun a ha h0 => by
  have h := allL_spec mYl 0 a mYl[a] tbMa (List.getElem?_eq_getElem ha)
  rw [Nat.zero_add] at h
  exact h h0
theorem tb_Q : ∀ k, k < mYl.length → ∀ z ∈ cds.getD k [], okQ k z = true := fun k hk z hz => by
  have hl : k < cds.length := hk
  have h := allL_spec cds 0 k cds[k] tbQa (List.getElem?_eq_getElem hl)
  rw [Nat.zero_add] at h
  rw [List.getD_eq_getElem?_getD, List.getElem?_eq_getElem hl] at hz
  exact h z hz
theorem tb_all : TB := by
  refine ⟨tb_Q, tb_K, fun E hE v hv => zipA_spec _ _ (tb_E E hE) v hv, tb_B, fun x hx => ?_, fun j hj => ?_, tb_M, fun _ => rfl, rfl, rfl⟩
  · refine (zipA_spec _ _ tb_A _ ?_).1
    rcases List.mem_cons.mp hx with rfl | hx
    · exact List.mem_cons_self
    · rcases List.mem_cons.mp hx with rfl | hx
      · exact List.mem_cons_of_mem _ List.mem_cons_self
      · rcases List.mem_cons.mp hx with rfl | hx
        · exact List.mem_cons_of_mem _ (List.mem_cons_of_mem _ List.mem_cons_self)
        · cases hx
  · have hj3 : j < 3 := hj
    obtain rfl | rfl | rfl : j = 0 ∨ j = 1 ∨ j = 2 := by omega
    · exact ⟨by decide, _, rfl, rfl⟩
    · exact ⟨by decide, _, rfl, rfl⟩
    · exact ⟨by decide, _, rfl, rfl⟩
theorem aoP_in : ∀ j, j < arN.length → Cond.arrayOver (.object (arN.getD j "")) ∈ lw_tbl := by
  intro j hj
  have hj3 : j < 3 := hj
  have h : zipA ((List.range 3).map (fun j => Cond.arrayOver (.object (arN.getD j "")))) aoP = true := by decide +kernel
  exact (zipA_spec _ _ h _ (List.mem_map.mpr ⟨j, List.mem_range.mpr hj3, rfl⟩)).1
