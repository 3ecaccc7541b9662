abbrev mJ0_length_8abf5 : fMT := (yJ0_length_8abf5, cJ0_length_8abf5, 1, some .int, [])
theorem cc_J0_length_8abf5 : fCC 0 mJ0_length_8abf5 := ⟨⟨by decide +kernel, by decide +kernel⟩, by decide +kernel, by decide +kernel, by decide +kernel, List.mem_of_getElem? (i := 722) (by decide +kernel)⟩
theorem im_J0_length_8abf5 : Cond.instanceMethod mJ0_length_8abf5.1 ∈ lw_tbl := List.mem_of_getElem? (i := 720) (by decide +kernel)
theorem sw_J0_length_8abf5 : Cond.selects RJ0 mJ0_length_8abf5.1 mJ0_length_8abf5.1 ∈ lw_tbl := List.mem_of_getElem? (i := 721) (by decide +kernel)
abbrev mJ0_coder_7d493 : fMT := (yJ0_coder_7d493, cJ0_coder_7d493, 1, some .byte, [])
theorem cc_J0_coder_7d493 : fCC 0 mJ0_coder_7d493 := ⟨⟨by decide +kernel, by decide +kernel⟩, by decide +kernel, by decide +kernel, by decide +kernel, List.mem_of_getElem? (i := 726) (by decide +kernel)⟩
theorem im_J0_coder_7d493 : Cond.instanceMethod mJ0_coder_7d493.1 ∈ lw_tbl := List.mem_of_getElem? (i := 724) (by decide +kernel)
theorem sw_J0_coder_7d493 : Cond.selects RJ0 mJ0_coder_7d493.1 mJ0_coder_7d493.1 ∈ lw_tbl := List.mem_of_getElem? (i := 725) (by decide +kernel)
abbrev mJ0_charAt_5068e : fMT := (yJ0_charAt_5068e, cJ0_charAt_5068e, 2, some .char, [])
theorem cc_J0_charAt_5068e : fCC 1 mJ0_charAt_5068e := ⟨⟨by decide +kernel, by decide +kernel⟩, by decide +kernel, by decide +kernel, by decide +kernel, List.mem_of_getElem? (i := 732) (by decide +kernel)⟩
theorem im_J0_charAt_5068e : Cond.instanceMethod mJ0_charAt_5068e.1 ∈ lw_tbl := List.mem_of_getElem? (i := 730) (by decide +kernel)
theorem sw_J0_charAt_5068e : Cond.selects RJ0 mJ0_charAt_5068e.1 mJ0_charAt_5068e.1 ∈ lw_tbl := List.mem_of_getElem? (i := 731) (by decide +kernel)
abbrev mJ0_isLatin1_aae02 : fMT := (yJ0_isLatin1_aae02, cJ0_isLatin1_aae02, 1, some .boolean, [])
theorem cc_J0_isLatin1_aae02 : fCC 0 mJ0_isLatin1_aae02 := ⟨⟨by decide +kernel, by decide +kernel⟩, by decide +kernel, by decide +kernel, by decide +kernel, List.mem_of_getElem? (i := 736) (by decide +kernel)⟩
theorem im_J0_isLatin1_aae02 : Cond.instanceMethod mJ0_isLatin1_aae02.1 ∈ lw_tbl := List.mem_of_getElem? (i := 734) (by decide +kernel)
theorem sw_J0_isLatin1_aae02 : Cond.selects RJ0 mJ0_isLatin1_aae02.1 mJ0_isLatin1_aae02.1 ∈ lw_tbl := List.mem_of_getElem? (i := 735) (by decide +kernel)
abbrev mJ1_charAt_3b067 : fMT := (yJ1_charAt_3b067, cJ1_charAt_3b067, 2, some .char, [])
theorem cc_J1_charAt_3b067 : fCC 2 mJ1_charAt_3b067 := ⟨⟨by decide +kernel, by decide +kernel⟩, by decide +kernel, by decide +kernel, by decide +kernel, List.mem_of_getElem? (i := 739) (by decide +kernel)⟩
theorem st_J1_charAt_3b067 : Cond.static mJ1_charAt_3b067.1 ∈ lw_tbl := List.mem_of_getElem? (i := 738) (by decide +kernel)
abbrev mJ0_checkIndex_df160 : fMT := (yJ0_checkIndex_df160, cJ0_checkIndex_df160, 2, none, [])
theorem cc_J0_checkIndex_df160 : fCC 2 mJ0_checkIndex_df160 := ⟨⟨by decide +kernel, by decide +kernel⟩, by decide +kernel, by decide +kernel, by decide +kernel, List.mem_of_getElem? (i := 742) (by decide +kernel)⟩
theorem st_J0_checkIndex_df160 : Cond.static mJ0_checkIndex_df160.1 ∈ lw_tbl := List.mem_of_getElem? (i := 741) (by decide +kernel)
abbrev mJ3_checkIndex_8e157 : fMT := (yJ3_checkIndex_8e157, cJ3_checkIndex_8e157, 3, some .int, [])
theorem cc_J3_checkIndex_8e157 : fCC 3 mJ3_checkIndex_8e157 := ⟨⟨by decide +kernel, by decide +kernel⟩, by decide +kernel, by decide +kernel, by decide +kernel, List.mem_of_getElem? (i := 747) (by decide +kernel)⟩
theorem st_J3_checkIndex_8e157 : Cond.static mJ3_checkIndex_8e157.1 ∈ lw_tbl := List.mem_of_getElem? (i := 746) (by decide +kernel)
theorem lw_RX5_90 : Cond.methodLink RX5 90 yJ0_length_8abf5 ∈ lw_tbl := List.mem_of_getElem? (i := 719) (by decide +kernel)
theorem lk_RX5_90 : fLK RX5 90 yJ0_length_8abf5 := Or.inl lw_RX5_90
theorem lw_RJ0_335 : Cond.methodLink RJ0 335 yJ0_coder_7d493 ∈ lw_tbl := List.mem_of_getElem? (i := 723) (by decide +kernel)
theorem lk_RJ0_335 : fLK RJ0 335 yJ0_coder_7d493 := Or.inl lw_RJ0_335
theorem lw_RX5_94 : Cond.methodLink RX5 94 yJ0_charAt_5068e ∈ lw_tbl := List.mem_of_getElem? (i := 729) (by decide +kernel)
theorem lk_RX5_94 : fLK RX5 94 yJ0_charAt_5068e := Or.inl lw_RX5_94
theorem lw_RJ0_492 : Cond.methodLink RJ0 492 yJ0_isLatin1_aae02 ∈ lw_tbl := List.mem_of_getElem? (i := 733) (by decide +kernel)
theorem lk_RJ0_492 : fLK RJ0 492 yJ0_isLatin1_aae02 := Or.inl lw_RJ0_492
theorem lw_RJ0_495 : Cond.methodLink RJ0 495 yJ1_charAt_3b067 ∈ lw_tbl := List.mem_of_getElem? (i := 737) (by decide +kernel)
theorem lk_RJ0_495 : fLK RJ0 495 yJ1_charAt_3b067 := Or.inl lw_RJ0_495
theorem lw_RJ1_9 : Cond.methodLink RJ1 9 yJ0_checkIndex_df160 ∈ lw_tbl := List.mem_of_getElem? (i := 740) (by decide +kernel)
theorem lk_RJ1_9 : fLK RJ1 9 yJ0_checkIndex_df160 := Or.inl lw_RJ1_9
theorem lw_RJ0_1059 : Cond.methodLink RJ0 1059 yJ3_checkIndex_8e157 ∈ lw_tbl := List.mem_of_getElem? (i := 745) (by decide +kernel)
theorem lk_RJ0_1059 : fLK RJ0 1059 yJ3_checkIndex_8e157 := Or.inl lw_RJ0_1059
theorem lw_RJ2_414 : Cond.methodLink RJ2 414 yJ0_checkIndex_df160 ∈ lw_tbl := List.mem_of_getElem? (i := 757) (by decide +kernel)
theorem lk_RJ2_414 : fLK RJ2 414 yJ0_checkIndex_df160 := Or.inl lw_RJ2_414
theorem fw_RJ0_38 : Cond.fieldLink RJ0 38 RJ0 "COMPACT_STRINGS" "Z" ∈ lw_tbl := List.mem_of_getElem? (i := 727) (by decide +kernel)
theorem fw_RJ0_1053 : Cond.fieldLink RJ0 1053 RJ3 "SIOOBE_FORMATTER" "Ljava/util/function/BiFunction;" ∈ lw_tbl := List.mem_of_getElem? (i := 743) (by decide +kernel)
theorem fw_RJ0_9 : Cond.fieldLink RJ0 9 RJ0 "value" "[B" ∈ lw_tbl := List.mem_of_getElem? (i := 1740) (by decide +kernel)
theorem fw_RJ0_15 : Cond.fieldLink RJ0 15 RJ0 "coder" "B" ∈ lw_tbl := List.mem_of_getElem? (i := 1741) (by decide +kernel)
