theorem tw_A : fTW 98 102 "java/lang/IllegalArgumentException" := ⟨⟨by decide +kernel, by decide +kernel⟩, List.mem_of_getElem? (i := 628) (by decide +kernel), List.mem_of_getElem? (i := 148) (by decide +kernel), by decide +kernel, by decide +kernel⟩
theorem tw_I : fTW 184 188 "java/lang/IndexOutOfBoundsException" := ⟨⟨by decide +kernel, by decide +kernel⟩, List.mem_of_getElem? (i := 910) (by decide +kernel), List.mem_of_getElem? (i := 156) (by decide +kernel), by decide +kernel, by decide +kernel⟩
theorem tw_S : fTW 340 344 "java/lang/IllegalStateException" := ⟨⟨by decide +kernel, by decide +kernel⟩, List.mem_of_getElem? (i := 957) (by decide +kernel), List.mem_of_getElem? (i := 158) (by decide +kernel), by decide +kernel, by decide +kernel⟩
abbrev rxN : ByteArray := prog_31_method_4_code
theorem tw_N : fTWX 329 333 "java/util/NoSuchElementException" 13 rxN := ⟨⟨by decide +kernel, by decide +kernel⟩, List.mem_of_getElem? (i := 860) (by decide +kernel), List.mem_of_getElem? (i := 155) (by decide +kernel), by decide +kernel, by decide +kernel⟩
theorem rxN_0 : decode rxN 0 = .ok (.aload_n 0, 1) := by decide +kernel
theorem rxN_1 : decode rxN 1 = .ok (.aload_n 1, 1) := by decide +kernel
theorem rxN_2 : decode rxN 2 = .ok (.invokespecial 13, 3) := by decide +kernel
theorem rxN_5 : decode rxN 5 = .ok (.return_, 1) := by decide +kernel
theorem fstr_m {q : Nat × String} (i : Nat) (h : fstr[i]? = some q) : q ∈ fstr := List.mem_of_getElem? h
