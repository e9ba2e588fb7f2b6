section
theorem bg_800 : (.static yX11_holds : Cond) ∈ bg := bgf (tb_2 _ (List.mem_of_getElem? (i := 182) (by decide +kernel))) (by rfl)
theorem bg_801 : (.fieldLink RX11 69 "ClassGate" "kept" "LClassGate$ClassFile;" : Cond) ∈ bg := bgf (tb_1 _ (List.mem_of_getElem? (i := 40) (by decide +kernel))) (by rfl)
theorem bg_802 : (.fieldLink RX11 73 "ClassGate$Verdict" "wrongAt" "I" : Cond) ∈ bg := bgf (tb_1 _ (List.mem_of_getElem? (i := 219) (by decide +kernel))) (by rfl)
theorem bg_803 : (.fieldLink RX11 76 "ClassGate$Verdict" "rule" "I" : Cond) ∈ bg := bgf (tb_1 _ (List.mem_of_getElem? (i := 217) (by decide +kernel))) (by rfl)
theorem bg_804 : (.classLink RX11 79 RX9 : Cond) ∈ bg := bgf (tb_1 _ (List.mem_of_getElem? (i := 228) (by decide +kernel))) (by rfl)
theorem bg_805 : (.instantiable RX9 5 : Cond) ∈ bg := bgf (tb_1 _ (List.mem_of_getElem? (i := 229) (by decide +kernel))) (by rfl)
theorem bg_806 : (.methodLink RX11 81 yX9_init : Cond) ∈ bg := bgf (tb_1 _ (List.mem_of_getElem? (i := 230) (by decide +kernel))) (by rfl)
theorem bg_807 : (.instanceMethod yX9_init : Cond) ∈ bg := bgf (tb_1 _ (List.mem_of_getElem? (i := 231) (by decide +kernel))) (by rfl)
theorem bg_808 : (.methodLink RX11 84 yX9_takesHead : Cond) ∈ bg := bgf (tb_2 _ (List.mem_of_getElem? (i := 10) (by decide +kernel))) (by rfl)
theorem bg_809 : (.instanceMethod yX9_takesHead : Cond) ∈ bg := bgf (tb_2 _ (List.mem_of_getElem? (i := 11) (by decide +kernel))) (by rfl)
theorem bg_810 : (.selects RX9 yX9_takesHead yX9_takesHead : Cond) ∈ bg := bgf (tb_2 _ (List.mem_of_getElem? (i := 12) (by decide +kernel))) (by rfl)
theorem bg_811 : (.methodLink RX11 88 yX9_takesPool : Cond) ∈ bg := bgf (tb_2 _ (List.mem_of_getElem? (i := 39) (by decide +kernel))) (by rfl)
theorem bg_812 : (.instanceMethod yX9_takesPool : Cond) ∈ bg := bgf (tb_2 _ (List.mem_of_getElem? (i := 40) (by decide +kernel))) (by rfl)
theorem bg_813 : (.selects RX9 yX9_takesPool yX9_takesPool : Cond) ∈ bg := bgf (tb_2 _ (List.mem_of_getElem? (i := 41) (by decide +kernel))) (by rfl)
theorem bg_814 : (.methodLink RX11 91 yX9_takesClass : Cond) ∈ bg := bgf (tb_2 _ (List.mem_of_getElem? (i := 93) (by decide +kernel))) (by rfl)
theorem bg_815 : (.instanceMethod yX9_takesClass : Cond) ∈ bg := bgf (tb_2 _ (List.mem_of_getElem? (i := 94) (by decide +kernel))) (by rfl)
theorem bg_816 : (.selects RX9 yX9_takesClass yX9_takesClass : Cond) ∈ bg := bgf (tb_2 _ (List.mem_of_getElem? (i := 95) (by decide +kernel))) (by rfl)
theorem bg_817 : (.methodLink RX11 94 yX9_takesFields : Cond) ∈ bg := bgf (tb_2 _ (List.mem_of_getElem? (i := 97) (by decide +kernel))) (by rfl)
theorem bg_818 : (.instanceMethod yX9_takesFields : Cond) ∈ bg := bgf (tb_2 _ (List.mem_of_getElem? (i := 98) (by decide +kernel))) (by rfl)
theorem bg_819 : (.selects RX9 yX9_takesFields yX9_takesFields : Cond) ∈ bg := bgf (tb_2 _ (List.mem_of_getElem? (i := 99) (by decide +kernel))) (by rfl)
theorem bg_820 : (.methodLink RX11 97 yX9_takesMethods : Cond) ∈ bg := bgf (tb_2 _ (List.mem_of_getElem? (i := 173) (by decide +kernel))) (by rfl)
theorem bg_821 : (.instanceMethod yX9_takesMethods : Cond) ∈ bg := bgf (tb_2 _ (List.mem_of_getElem? (i := 174) (by decide +kernel))) (by rfl)
theorem bg_822 : (.selects RX9 yX9_takesMethods yX9_takesMethods : Cond) ∈ bg := bgf (tb_2 _ (List.mem_of_getElem? (i := 175) (by decide +kernel))) (by rfl)
theorem bg_823 : (.methodLink RX11 100 yX9_takesEnd : Cond) ∈ bg := bgf (tb_2 _ (List.mem_of_getElem? (i := 177) (by decide +kernel))) (by rfl)
theorem bg_824 : (.instanceMethod yX9_takesEnd : Cond) ∈ bg := bgf (tb_2 _ (List.mem_of_getElem? (i := 178) (by decide +kernel))) (by rfl)
theorem bg_825 : (.selects RX9 yX9_takesEnd yX9_takesEnd : Cond) ∈ bg := bgf (tb_2 _ (List.mem_of_getElem? (i := 179) (by decide +kernel))) (by rfl)
theorem bg_826 : (.fieldLink RX11 103 "ClassGate$ClassFile" "pool" "LClassGate$Pool;" : Cond) ∈ bg := bgf (tb_1 _ (List.mem_of_getElem? (i := 133) (by decide +kernel))) (by rfl)
theorem bg_827 : (.methodLink RX11 107 yX7_describeTexts : Cond) ∈ bg := bgf (tb_2 _ (List.mem_of_getElem? (i := 184) (by decide +kernel))) (by rfl)
theorem bg_828 : (.instanceMethod yX7_describeTexts : Cond) ∈ bg := bgf (tb_2 _ (List.mem_of_getElem? (i := 185) (by decide +kernel))) (by rfl)
theorem bg_829 : (.selects RX7 yX7_describeTexts yX7_describeTexts : Cond) ∈ bg := bgf (tb_2 _ (List.mem_of_getElem? (i := 186) (by decide +kernel))) (by rfl)
theorem bg_830 : (.classLink RX11 112 RX8 : Cond) ∈ bg := bgf (tb_2 _ (List.mem_of_getElem? (i := 207) (by decide +kernel))) (by rfl)
theorem bg_831 : (.instantiable RX8 3 : Cond) ∈ bg := bgf (tb_2 _ (List.mem_of_getElem? (i := 208) (by decide +kernel))) (by rfl)
theorem bg_832 : (.methodLink RX11 114 yX8_init : Cond) ∈ bg := bgf (tb_2 _ (List.mem_of_getElem? (i := 209) (by decide +kernel))) (by rfl)
theorem bg_833 : (.instanceMethod yX8_init : Cond) ∈ bg := bgf (tb_2 _ (List.mem_of_getElem? (i := 210) (by decide +kernel))) (by rfl)
theorem bg_834 : (.classLink RX11 115 RX0 : Cond) ∈ bg := bgf (tb_2 _ (List.mem_of_getElem? (i := 223) (by decide +kernel))) (by rfl)
theorem bg_835 : (.instantiable RX0 5 : Cond) ∈ bg := bgf (tb_2 _ (List.mem_of_getElem? (i := 224) (by decide +kernel))) (by rfl)
theorem bg_836 : (.methodLink RX11 117 yX0_init : Cond) ∈ bg := bgf (tb_2 _ (List.mem_of_getElem? (i := 225) (by decide +kernel))) (by rfl)
theorem bg_837 : (.instanceMethod yX0_init : Cond) ∈ bg := bgf (tb_2 _ (List.mem_of_getElem? (i := 226) (by decide +kernel))) (by rfl)
theorem bg_838 : (.classLink RX11 118 RX2 : Cond) ∈ bg := bgf (tb_3 _ (List.mem_of_getElem? (i := 5) (by decide +kernel))) (by rfl)
theorem bg_839 : (.instantiable RX2 5 : Cond) ∈ bg := bgf (tb_3 _ (List.mem_of_getElem? (i := 6) (by decide +kernel))) (by rfl)
theorem bg_840 : (.methodLink RX11 120 yX2_init : Cond) ∈ bg := bgf (tb_3 _ (List.mem_of_getElem? (i := 7) (by decide +kernel))) (by rfl)
theorem bg_841 : (.instanceMethod yX2_init : Cond) ∈ bg := bgf (tb_3 _ (List.mem_of_getElem? (i := 8) (by decide +kernel))) (by rfl)
theorem bg_842 : (.methodLink RX11 123 yX8_entriesHold : Cond) ∈ bg := bgf (tb_3 _ (List.mem_of_getElem? (i := 27) (by decide +kernel))) (by rfl)
theorem bg_843 : (.instanceMethod yX8_entriesHold : Cond) ∈ bg := bgf (tb_3 _ (List.mem_of_getElem? (i := 28) (by decide +kernel))) (by rfl)
theorem bg_844 : (.selects RX8 yX8_entriesHold yX8_entriesHold : Cond) ∈ bg := bgf (tb_3 _ (List.mem_of_getElem? (i := 29) (by decide +kernel))) (by rfl)
theorem bg_845 : (.methodLink RX11 126 yX2_headHolds : Cond) ∈ bg := bgf (tb_3 _ (List.mem_of_getElem? (i := 179) (by decide +kernel))) (by rfl)
theorem bg_846 : (.instanceMethod yX2_headHolds : Cond) ∈ bg := bgf (tb_3 _ (List.mem_of_getElem? (i := 180) (by decide +kernel))) (by rfl)
theorem bg_847 : (.selects RX2 yX2_headHolds yX2_headHolds : Cond) ∈ bg := bgf (tb_3 _ (List.mem_of_getElem? (i := 181) (by decide +kernel))) (by rfl)
theorem bg_848 : (.methodLink RX11 129 yX2_interfacesHold : Cond) ∈ bg := bgf (tb_3 _ (List.mem_of_getElem? (i := 204) (by decide +kernel))) (by rfl)
theorem bg_849 : (.instanceMethod yX2_interfacesHold : Cond) ∈ bg := bgf (tb_3 _ (List.mem_of_getElem? (i := 205) (by decide +kernel))) (by rfl)
theorem bg_850 : (.selects RX2 yX2_interfacesHold yX2_interfacesHold : Cond) ∈ bg := bgf (tb_3 _ (List.mem_of_getElem? (i := 206) (by decide +kernel))) (by rfl)
theorem bg_851 : (.methodLink RX11 132 yX2_fieldsHold : Cond) ∈ bg := bgf (tb_3 _ (List.mem_of_getElem? (i := 212) (by decide +kernel))) (by rfl)
theorem bg_852 : (.instanceMethod yX2_fieldsHold : Cond) ∈ bg := bgf (tb_3 _ (List.mem_of_getElem? (i := 213) (by decide +kernel))) (by rfl)
theorem bg_853 : (.selects RX2 yX2_fieldsHold yX2_fieldsHold : Cond) ∈ bg := bgf (tb_3 _ (List.mem_of_getElem? (i := 214) (by decide +kernel))) (by rfl)
theorem bg_854 : (.methodLink RX11 135 yX2_methodsHold : Cond) ∈ bg := bgf (tb_4 _ (List.mem_of_getElem? (i := 55) (by decide +kernel))) (by rfl)
theorem bg_855 : (.instanceMethod yX2_methodsHold : Cond) ∈ bg := bgf (tb_4 _ (List.mem_of_getElem? (i := 56) (by decide +kernel))) (by rfl)
theorem bg_856 : (.selects RX2 yX2_methodsHold yX2_methodsHold : Cond) ∈ bg := bgf (tb_4 _ (List.mem_of_getElem? (i := 57) (by decide +kernel))) (by rfl)
theorem bg_857 : (.methodLink RX11 138 yX0_ofClass : Cond) ∈ bg := bgf (tb_4 _ (List.mem_of_getElem? (i := 226) (by decide +kernel))) (by rfl)
theorem bg_858 : (.instanceMethod yX0_ofClass : Cond) ∈ bg := bgf (tb_4 _ (List.mem_of_getElem? (i := 227) (by decide +kernel))) (by rfl)
theorem bg_859 : (.selects RX0 yX0_ofClass yX0_ofClass : Cond) ∈ bg := bgf (tb_4 _ (List.mem_of_getElem? (i := 228) (by decide +kernel))) (by rfl)
theorem bg_860 : (.fieldLink RX11 141 "ClassGate$ClassFile" "bootstrapCount" "I" : Cond) ∈ bg := bgf (tb_1 _ (List.mem_of_getElem? (i := 163) (by decide +kernel))) (by rfl)
theorem bg_861 : (.methodLink RX11 144 yX8_bootstrapsHold : Cond) ∈ bg := bgf (tb_5 _ (List.mem_of_getElem? (i := 22) (by decide +kernel))) (by rfl)
theorem bg_862 : (.instanceMethod yX8_bootstrapsHold : Cond) ∈ bg := bgf (tb_5 _ (List.mem_of_getElem? (i := 23) (by decide +kernel))) (by rfl)
theorem bg_863 : (.selects RX8 yX8_bootstrapsHold yX8_bootstrapsHold : Cond) ∈ bg := bgf (tb_5 _ (List.mem_of_getElem? (i := 24) (by decide +kernel))) (by rfl)
theorem bg_864 : (.code yX11_place cX11_place 1 (some .int) : Cond) ∈ bg := bgf (tb_5 _ (List.mem_of_getElem? (i := 29) (by rfl))) (by rfl)
theorem bg_865 : (.code yX11_count cX11_count 2 (some .int) : Cond) ∈ bg := bgf (tb_6 _ (List.mem_of_getElem? (i := 90) (by rfl))) (by rfl)
theorem bg_866 : (.methodLink RX11 150 yX3_number : Cond) ∈ bg := bgf (tb_6 _ (List.mem_of_getElem? (i := 92) (by decide +kernel))) (by rfl)
theorem bg_867 : (.instanceMethod yX3_number : Cond) ∈ bg := bgf (tb_6 _ (List.mem_of_getElem? (i := 93) (by decide +kernel))) (by rfl)
theorem bg_868 : (.selects RX3 yX3_number yX3_number : Cond) ∈ bg := bgf (tb_6 _ (List.mem_of_getElem? (i := 94) (by decide +kernel))) (by rfl)
theorem bg_869 : (.code yX11_entry cX11_entry 3 (some .int) : Cond) ∈ bg := bgf (tb_6 _ (List.mem_of_getElem? (i := 106) (by rfl))) (by rfl)
theorem bg_870 : (.fieldLink RX11 156 "ClassGate$Pool" "size" "I" : Cond) ∈ bg := bgf (tb_1 _ (List.mem_of_getElem? (i := 90) (by decide +kernel))) (by rfl)
theorem bg_871 : (.methodLink RX11 159 yX7_tagOf : Cond) ∈ bg := bgf (tb_5 _ (List.mem_of_getElem? (i := 34) (by decide +kernel))) (by rfl)
theorem bg_872 : (.methodLink RX11 162 yX7_firstIndex : Cond) ∈ bg := bgf (tb_6 _ (List.mem_of_getElem? (i := 108) (by decide +kernel))) (by rfl)
theorem bg_873 : (.methodLink RX11 165 yX7_secondIndex : Cond) ∈ bg := bgf (tb_6 _ (List.mem_of_getElem? (i := 109) (by decide +kernel))) (by rfl)
theorem bg_874 : (.code yX11_bits cX11_bits 4 (some .long) : Cond) ∈ bg := bgf (tb_5 _ (List.mem_of_getElem? (i := 33) (by rfl))) (by rfl)
theorem bg_875 : (.methodLink RX11 168 yX7_tagPlace : Cond) ∈ bg := bgf (tb_5 _ (List.mem_of_getElem? (i := 35) (by decide +kernel))) (by rfl)
theorem bg_876 : (.fieldLink RX11 171 "ClassGate$ClassFile" "bytes" "LClassGate$Bytes;" : Cond) ∈ bg := bgf (tb_1 _ (List.mem_of_getElem? (i := 126) (by decide +kernel))) (by rfl)
theorem bg_877 : (.methodLink RX11 175 yX1_u4 : Cond) ∈ bg := bgf (tb_5 _ (List.mem_of_getElem? (i := 36) (by decide +kernel))) (by rfl)
theorem bg_878 : (.constantLong RX11 178 4294967295 : Cond) ∈ bg := bgf (tb_5 _ (List.mem_of_getElem? (i := 37) (by decide +kernel))) (by rfl)
theorem bg_879 : (.code yX11_character cX11_character 3 (some .int) : Cond) ∈ bg := bgf (tb_5 _ (List.mem_of_getElem? (i := 41) (by rfl))) (by rfl)
theorem bg_880 : (.methodLink RX11 180 yX7_characterAt : Cond) ∈ bg := bgf (tb_5 _ (List.mem_of_getElem? (i := 42) (by decide +kernel))) (by rfl)
theorem bg_881 : (.code yX11_places cX11_places 2 (some .int) : Cond) ∈ bg := bgf (tb_5 _ (List.mem_of_getElem? (i := 46) (by rfl))) (by rfl)
theorem bg_882 : (.methodLink RX11 184 yX7_placesTold : Cond) ∈ bg := bgf (tb_5 _ (List.mem_of_getElem? (i := 47) (by decide +kernel))) (by rfl)
theorem bg_883 : (.code yX11_member cX11_member 5 (some .int) : Cond) ∈ bg := bgf (tb_6 _ (List.mem_of_getElem? (i := 116) (by rfl))) (by rfl)
theorem bg_884 : (.methodLink RX11 189 yX3_memberAt : Cond) ∈ bg := bgf (tb_5 _ (List.mem_of_getElem? (i := 72) (by decide +kernel))) (by rfl)
theorem bg_885 : (.instanceMethod yX3_memberAt : Cond) ∈ bg := bgf (tb_5 _ (List.mem_of_getElem? (i := 73) (by decide +kernel))) (by rfl)
theorem bg_886 : (.selects RX3 yX3_memberAt yX3_memberAt : Cond) ∈ bg := bgf (tb_5 _ (List.mem_of_getElem? (i := 74) (by decide +kernel))) (by rfl)
theorem bg_887 : (.methodLink RX11 193 yX6_number : Cond) ∈ bg := bgf (tb_6 _ (List.mem_of_getElem? (i := 118) (by decide +kernel))) (by rfl)
theorem bg_888 : (.instanceMethod yX6_number : Cond) ∈ bg := bgf (tb_6 _ (List.mem_of_getElem? (i := 119) (by decide +kernel))) (by rfl)
theorem bg_889 : (.selects RX6 yX6_number yX6_number : Cond) ∈ bg := bgf (tb_6 _ (List.mem_of_getElem? (i := 120) (by decide +kernel))) (by rfl)
theorem bg_890 : (.code yX11_find cX11_find 5 (some .int) : Cond) ∈ bg := bgf (tb_5 _ (List.mem_of_getElem? (i := 54) (by rfl))) (by rfl)
theorem bg_891 : (.fieldLink RX11 198 "ClassGate$ClassFile" "methods" "[LClassGate$Member;" : Cond) ∈ bg := bgf (tb_1 _ (List.mem_of_getElem? (i := 155) (by decide +kernel))) (by rfl)
theorem bg_892 : (.fieldLink RX11 202 "ClassGate$ClassFile" "fields" "[LClassGate$Member;" : Cond) ∈ bg := bgf (tb_1 _ (List.mem_of_getElem? (i := 151) (by decide +kernel))) (by rfl)
theorem bg_893 : (.methodLink RX11 205 yX7_sameMember : Cond) ∈ bg := bgf (tb_5 _ (List.mem_of_getElem? (i := 55) (by decide +kernel))) (by rfl)
theorem bg_894 : (.code yX11_row cX11_row 5 (some .int) : Cond) ∈ bg := bgf (tb_6 _ (List.mem_of_getElem? (i := 132) (by rfl))) (by rfl)
theorem bg_895 : (.methodLink RX11 211 yX11_codeOf : Cond) ∈ bg := bgf (tb_5 _ (List.mem_of_getElem? (i := 68) (by decide +kernel))) (by rfl)
theorem bg_896 : (.code yX11_codeOf cX11_codeOf 3 (some (.object "ClassGate$Code")) : Cond) ∈ bg := bgf (tb_5 _ (List.mem_of_getElem? (i := 71) (by rfl))) (by rfl)
theorem bg_897 : (.instanceMethod yX11_codeOf : Cond) ∈ bg := bgf (tb_5 _ (List.mem_of_getElem? (i := 70) (by decide +kernel))) (by rfl)
theorem bg_898 : (.selects RX11 yX11_codeOf yX11_codeOf : Cond) ∈ bg := bgf (List.mem_of_getElem? (i := 49) (by decide +kernel)) (by rfl)
theorem bg_899 : (.fieldLink RX11 215 "ClassGate$Code" "rowCount" "I" : Cond) ∈ bg := bgf (tb_4 _ (List.mem_of_getElem? (i := 177) (by decide +kernel))) (by rfl)
theorem bg_900 : (.fieldLink RX11 220 "ClassGate$Code" "rowsAt" "I" : Cond) ∈ bg := bgf (tb_4 _ (List.mem_of_getElem? (i := 173) (by decide +kernel))) (by rfl)
theorem bg_901 : (.methodLink RX11 223 yX1_u2 : Cond) ∈ bg := bgf (tb_6 _ (List.mem_of_getElem? (i := 134) (by decide +kernel))) (by rfl)
theorem bg_902 : (.fieldLink RX11 226 "ClassGate$Member" "code" "LClassGate$Code;" : Cond) ∈ bg := bgf (tb_2 _ (List.mem_of_getElem? (i := 147) (by decide +kernel))) (by rfl)
theorem bg_903 : (.code yX11_bootstrap cX11_bootstrap 3 (some .int) : Cond) ∈ bg := bgf (tb_5 _ (List.mem_of_getElem? (i := 59) (by rfl))) (by rfl)
theorem bg_904 : (.methodLink RX11 230 yX3_bootstrapPart : Cond) ∈ bg := bgf (tb_5 _ (List.mem_of_getElem? (i := 60) (by decide +kernel))) (by rfl)
theorem bg_905 : (.instanceMethod yX3_bootstrapPart : Cond) ∈ bg := bgf (tb_5 _ (List.mem_of_getElem? (i := 61) (by decide +kernel))) (by rfl)
theorem bg_906 : (.selects RX3 yX3_bootstrapPart yX3_bootstrapPart : Cond) ∈ bg := bgf (tb_5 _ (List.mem_of_getElem? (i := 62) (by decide +kernel))) (by rfl)
theorem bg_907 : (.code yX11_cut cX11_cut 3 (some .int) : Cond) ∈ bg := bgf (tb_5 _ (List.mem_of_getElem? (i := 67) (by rfl))) (by rfl)
theorem bg_908 : (.methodLink RX11 233 yX4_cutUp : Cond) ∈ bg := bgf (tb_5 _ (List.mem_of_getElem? (i := 76) (by decide +kernel))) (by rfl)
theorem bg_909 : (.instanceMethod yX4_cutUp : Cond) ∈ bg := bgf (tb_5 _ (List.mem_of_getElem? (i := 77) (by decide +kernel))) (by rfl)
theorem bg_910 : (.selects RX4 yX4_cutUp yX4_cutUp : Cond) ∈ bg := bgf (tb_5 _ (List.mem_of_getElem? (i := 78) (by decide +kernel))) (by rfl)
theorem bg_911 : (.code yX11_instruction cX11_instruction 5 (some .int) : Cond) ∈ bg := bgf (tb_6 _ (List.mem_of_getElem? (i := 141) (by rfl))) (by rfl)
theorem bg_912 : (.methodLink RX11 239 yX4_number : Cond) ∈ bg := bgf (tb_6 _ (List.mem_of_getElem? (i := 143) (by decide +kernel))) (by rfl)
theorem bg_913 : (.instanceMethod yX4_number : Cond) ∈ bg := bgf (tb_6 _ (List.mem_of_getElem? (i := 144) (by decide +kernel))) (by rfl)
theorem bg_914 : (.selects RX4 yX4_number yX4_number : Cond) ∈ bg := bgf (tb_6 _ (List.mem_of_getElem? (i := 145) (by decide +kernel))) (by rfl)
theorem bg_915 : (.code yX11_jump cX11_jump 6 (some .int) : Cond) ∈ bg := bgf (tb_5 _ (List.mem_of_getElem? (i := 196) (by rfl))) (by rfl)
theorem bg_916 : (.methodLink RX11 241 yX4_switchPlace : Cond) ∈ bg := bgf (tb_5 _ (List.mem_of_getElem? (i := 197) (by decide +kernel))) (by rfl)
theorem bg_917 : (.instanceMethod yX4_switchPlace : Cond) ∈ bg := bgf (tb_5 _ (List.mem_of_getElem? (i := 198) (by decide +kernel))) (by rfl)
theorem bg_918 : (.selects RX4 yX4_switchPlace yX4_switchPlace : Cond) ∈ bg := bgf (tb_5 _ (List.mem_of_getElem? (i := 199) (by decide +kernel))) (by rfl)
theorem bg_919 : (.code yX12_thrown cX12_thrown 1 (some .int) : Cond) ∈ bg := bgf (tb_6 _ (List.mem_of_getElem? (i := 154) (by rfl))) (by rfl)
theorem bg_920 : (.fieldLink RX12 1 "ClassGateModel" "thrown" "I" : Cond) ∈ bg := bgf (tb_6 _ (List.mem_of_getElem? (i := 194) (by decide +kernel))) (by rfl)
theorem bg_921 : (.code yX12_init cX12_init 1 none : Cond) ∈ bg := bgf (tb_6 _ (List.mem_of_getElem? (i := 159) (by rfl))) (by rfl)
theorem bg_922 : (.methodLink RX12 7 objectInit : Cond) ∈ bg := bgf (tb_6 _ (List.mem_of_getElem? (i := 160) (by decide +kernel))) (by rfl)
theorem bg_923 : (.constant RX12 13 66000 : Cond) ∈ bg := bgf (tb_6 _ (List.mem_of_getElem? (i := 161) (by decide +kernel))) (by rfl)
theorem bg_924 : (.fieldLink RX12 14 "ClassGateModel" "chars" "[C" : Cond) ∈ bg := bgf (tb_6 _ (List.mem_of_getElem? (i := 195) (by decide +kernel))) (by rfl)
theorem bg_925 : (.fieldLink RX12 18 "ClassGateModel" "cut" "[C" : Cond) ∈ bg := bgf (tb_6 _ (List.mem_of_getElem? (i := 196) (by decide +kernel))) (by rfl)
theorem bg_926 : (.fieldLink RX12 21 "ClassGateModel" "symAt" "[I" : Cond) ∈ bg := bgf (tb_6 _ (List.mem_of_getElem? (i := 198) (by decide +kernel))) (by rfl)
theorem bg_927 : (.fieldLink RX12 25 "ClassGateModel" "symLen" "[I" : Cond) ∈ bg := bgf (tb_6 _ (List.mem_of_getElem? (i := 199) (by decide +kernel))) (by rfl)
theorem bg_928 : (.fieldLink RX12 28 "ClassGateModel" "symNext" "[I" : Cond) ∈ bg := bgf (tb_6 _ (List.mem_of_getElem? (i := 200) (by decide +kernel))) (by rfl)
theorem bg_929 : (.fieldLink RX12 31 "ClassGateModel" "symHead" "[I" : Cond) ∈ bg := bgf (tb_6 _ (List.mem_of_getElem? (i := 201) (by decide +kernel))) (by rfl)
theorem bg_930 : (.constant RX12 34 65600 : Cond) ∈ bg := bgf (tb_6 _ (List.mem_of_getElem? (i := 162) (by decide +kernel))) (by rfl)
theorem bg_931 : (.fieldLink RX12 35 "ClassGateModel" "files" "[B" : Cond) ∈ bg := bgf (tb_6 _ (List.mem_of_getElem? (i := 206) (by decide +kernel))) (by rfl)
theorem bg_932 : (.constant RX12 39 65560 : Cond) ∈ bg := bgf (tb_6 _ (List.mem_of_getElem? (i := 163) (by decide +kernel))) (by rfl)
theorem bg_933 : (.fieldLink RX12 40 "ClassGateModel" "file" "[B" : Cond) ∈ bg := bgf (tb_6 _ (List.mem_of_getElem? (i := 207) (by decide +kernel))) (by rfl)
theorem bg_934 : (.fieldLink RX12 43 "ClassGateModel" "kept" "[B" : Cond) ∈ bg := bgf (tb_6 _ (List.mem_of_getElem? (i := 208) (by decide +kernel))) (by rfl)
theorem bg_935 : (.fieldLink RX12 46 "ClassGateModel" "came" "[B" : Cond) ∈ bg := bgf (tb_6 _ (List.mem_of_getElem? (i := 209) (by decide +kernel))) (by rfl)
theorem bg_936 : (.fieldLink RX12 49 "ClassGateModel" "keptN" "I" : Cond) ∈ bg := bgf (tb_6 _ (List.mem_of_getElem? (i := 212) (by decide +kernel))) (by rfl)
theorem bg_937 : (.constant RX12 52 65540 : Cond) ∈ bg := bgf (tb_6 _ (List.mem_of_getElem? (i := 164) (by decide +kernel))) (by rfl)
theorem bg_938 : (.fieldLink RX12 53 "ClassGateModel" "pAt" "[I" : Cond) ∈ bg := bgf (tb_6 _ (List.mem_of_getElem? (i := 215) (by decide +kernel))) (by rfl)
theorem bg_939 : (.fieldLink RX12 56 "ClassGateModel" "pSym" "[I" : Cond) ∈ bg := bgf (tb_6 _ (List.mem_of_getElem? (i := 216) (by decide +kernel))) (by rfl)
theorem bg_940 : (.fieldLink RX12 59 "ClassGateModel" "pState" "[I" : Cond) ∈ bg := bgf (tb_6 _ (List.mem_of_getElem? (i := 217) (by decide +kernel))) (by rfl)
theorem bg_941 : (.fieldLink RX12 62 "ClassGateModel" "pObj" "[I" : Cond) ∈ bg := bgf (tb_6 _ (List.mem_of_getElem? (i := 218) (by decide +kernel))) (by rfl)
theorem bg_942 : (.fieldLink RX12 65 "ClassGateModel" "fFlags" "[I" : Cond) ∈ bg := bgf (tb_6 _ (List.mem_of_getElem? (i := 221) (by decide +kernel))) (by rfl)
theorem bg_943 : (.fieldLink RX12 68 "ClassGateModel" "fName" "[I" : Cond) ∈ bg := bgf (tb_6 _ (List.mem_of_getElem? (i := 222) (by decide +kernel))) (by rfl)
theorem bg_944 : (.fieldLink RX12 71 "ClassGateModel" "fDesc" "[I" : Cond) ∈ bg := bgf (tb_6 _ (List.mem_of_getElem? (i := 223) (by decide +kernel))) (by rfl)
theorem bg_945 : (.fieldLink RX12 74 "ClassGateModel" "fConst" "[I" : Cond) ∈ bg := bgf (tb_6 _ (List.mem_of_getElem? (i := 224) (by decide +kernel))) (by rfl)
theorem bg_946 : (.fieldLink RX12 77 "ClassGateModel" "fKnown" "[I" : Cond) ∈ bg := bgf (tb_6 _ (List.mem_of_getElem? (i := 225) (by decide +kernel))) (by rfl)
theorem bg_947 : (.fieldLink RX12 80 "ClassGateModel" "fNameAt" "[I" : Cond) ∈ bg := bgf (tb_6 _ (List.mem_of_getElem? (i := 226) (by decide +kernel))) (by rfl)
theorem bg_948 : (.fieldLink RX12 83 "ClassGateModel" "fDescAt" "[I" : Cond) ∈ bg := bgf (tb_6 _ (List.mem_of_getElem? (i := 227) (by decide +kernel))) (by rfl)
theorem bg_949 : (.fieldLink RX12 86 "ClassGateModel" "mFlags" "[I" : Cond) ∈ bg := bgf (tb_6 _ (List.mem_of_getElem? (i := 228) (by decide +kernel))) (by rfl)
theorem bg_950 : (.fieldLink RX12 89 "ClassGateModel" "mName" "[I" : Cond) ∈ bg := bgf (tb_6 _ (List.mem_of_getElem? (i := 229) (by decide +kernel))) (by rfl)
theorem bg_951 : (.fieldLink RX12 92 "ClassGateModel" "mDesc" "[I" : Cond) ∈ bg := bgf (tb_6 _ (List.mem_of_getElem? (i := 230) (by decide +kernel))) (by rfl)
theorem bg_952 : (.fieldLink RX12 95 "ClassGateModel" "mCode" "[I" : Cond) ∈ bg := bgf (tb_6 _ (List.mem_of_getElem? (i := 231) (by decide +kernel))) (by rfl)
theorem bg_953 : (.fieldLink RX12 98 "ClassGateModel" "mLen" "[I" : Cond) ∈ bg := bgf (tb_6 _ (List.mem_of_getElem? (i := 232) (by decide +kernel))) (by rfl)
theorem bg_954 : (.fieldLink RX12 101 "ClassGateModel" "mStack" "[I" : Cond) ∈ bg := bgf (tb_6 _ (List.mem_of_getElem? (i := 233) (by decide +kernel))) (by rfl)
theorem bg_955 : (.fieldLink RX12 104 "ClassGateModel" "mLocals" "[I" : Cond) ∈ bg := bgf (tb_6 _ (List.mem_of_getElem? (i := 234) (by decide +kernel))) (by rfl)
theorem bg_956 : (.fieldLink RX12 107 "ClassGateModel" "mRows" "[I" : Cond) ∈ bg := bgf (tb_6 _ (List.mem_of_getElem? (i := 235) (by decide +kernel))) (by rfl)
theorem bg_957 : (.fieldLink RX12 110 "ClassGateModel" "mRowN" "[I" : Cond) ∈ bg := bgf (tb_6 _ (List.mem_of_getElem? (i := 236) (by decide +kernel))) (by rfl)
theorem bg_958 : (.fieldLink RX12 113 "ClassGateModel" "mKnown" "[I" : Cond) ∈ bg := bgf (tb_6 _ (List.mem_of_getElem? (i := 237) (by decide +kernel))) (by rfl)
theorem bg_959 : (.fieldLink RX12 116 "ClassGateModel" "mThrows" "[I" : Cond) ∈ bg := bgf (tb_6 _ (List.mem_of_getElem? (i := 238) (by decide +kernel))) (by rfl)
theorem bg_960 : (.fieldLink RX12 119 "ClassGateModel" "mNameAt" "[I" : Cond) ∈ bg := bgf (tb_6 _ (List.mem_of_getElem? (i := 239) (by decide +kernel))) (by rfl)
theorem bg_961 : (.fieldLink RX12 122 "ClassGateModel" "mDescAt" "[I" : Cond) ∈ bg := bgf (tb_7 _ (List.mem_of_getElem? (i := 0) (by decide +kernel))) (by rfl)
theorem bg_962 : (.classLink RX12 125 RJ0 : Cond) ∈ bg := bgf (tb_6 _ (List.mem_of_getElem? (i := 165) (by decide +kernel))) (by rfl)
theorem bg_963 : (.fieldLink RX12 147 "ClassGateModel" "KNOWN" "[Ljava/lang/String;" : Cond) ∈ bg := bgf (tb_7 _ (List.mem_of_getElem? (i := 16) (by decide +kernel))) (by rfl)
theorem bg_964 : (.fieldLink RX12 151 "ClassGateModel" "KNOWN_IN" "[I" : Cond) ∈ bg := bgf (tb_7 _ (List.mem_of_getElem? (i := 17) (by decide +kernel))) (by rfl)
theorem bg_965 : (.fieldLink RX12 154 "ClassGateModel" "KNOWN_FROM" "[I" : Cond) ∈ bg := bgf (tb_7 _ (List.mem_of_getElem? (i := 18) (by decide +kernel))) (by rfl)
theorem bg_966 : (.fieldLink RX12 157 "ClassGateModel" "lastPlace" "I" : Cond) ∈ bg := bgf (tb_7 _ (List.mem_of_getElem? (i := 27) (by decide +kernel))) (by rfl)
theorem bg_967 : (.fieldLink RX12 160 "ClassGateModel" "cutOf" "I" : Cond) ∈ bg := bgf (tb_7 _ (List.mem_of_getElem? (i := 28) (by decide +kernel))) (by rfl)
theorem bg_968 : (.fieldLink RX12 163 "ClassGateModel" "begins" "[I" : Cond) ∈ bg := bgf (tb_7 _ (List.mem_of_getElem? (i := 34) (by decide +kernel))) (by rfl)
theorem bg_969 : (.fieldLink RX12 166 "ClassGateModel" "which" "[I" : Cond) ∈ bg := bgf (tb_7 _ (List.mem_of_getElem? (i := 35) (by decide +kernel))) (by rfl)
theorem bg_970 : (.methodLink RX12 169 yX12_clear : Cond) ∈ bg := bgf (tb_6 _ (List.mem_of_getElem? (i := 177) (by decide +kernel))) (by rfl)
theorem bg_971 : (.code yX12_clear cX12_clear 2 none : Cond) ∈ bg := bgf (tb_6 _ (List.mem_of_getElem? (i := 180) (by rfl))) (by rfl)
theorem bg_972 : (.instanceMethod yX12_clear : Cond) ∈ bg := bgf (tb_6 _ (List.mem_of_getElem? (i := 179) (by decide +kernel))) (by rfl)
theorem bg_973 : (.selects RX12 yX12_clear yX12_clear : Cond) ∈ bg := bgf (List.mem_of_getElem? (i := 74) (by decide +kernel)) (by rfl)
theorem bg_974 : (.initialized RX12 : Cond) ∈ bg := bgf (tb_1 _ (List.mem_of_getElem? (i := 2) (by decide +kernel))) (by rfl)
theorem bg_975 : (.fieldLink RX12 172 "ClassGateModel" "charsN" "I" : Cond) ∈ bg := bgf (tb_6 _ (List.mem_of_getElem? (i := 197) (by decide +kernel))) (by rfl)
theorem bg_976 : (.fieldLink RX12 175 "ClassGateModel" "syms" "I" : Cond) ∈ bg := bgf (tb_6 _ (List.mem_of_getElem? (i := 202) (by decide +kernel))) (by rfl)
theorem bg_977 : (.methodLink RX12 179 yX12_symbol : Cond) ∈ bg := bgf (tb_6 _ (List.mem_of_getElem? (i := 182) (by decide +kernel))) (by rfl)
theorem bg_978 : (.code yX12_symbol cX12_symbol 3 (some .int) : Cond) ∈ bg := bgf (tb_6 _ (List.mem_of_getElem? (i := 185) (by rfl))) (by rfl)
theorem bg_979 : (.instanceMethod yX12_symbol : Cond) ∈ bg := bgf (tb_6 _ (List.mem_of_getElem? (i := 184) (by decide +kernel))) (by rfl)
theorem bg_980 : (.selects RX12 yX12_symbol yX12_symbol : Cond) ∈ bg := bgf (List.mem_of_getElem? (i := 75) (by decide +kernel)) (by rfl)
theorem bg_981 : (.fieldLink RX12 183 "ClassGateModel" "S_INIT" "I" : Cond) ∈ bg := bgf (tb_6 _ (List.mem_of_getElem? (i := 203) (by decide +kernel))) (by rfl)
theorem bg_982 : (.fieldLink RX12 188 "ClassGateModel" "S_CLINIT" "I" : Cond) ∈ bg := bgf (tb_6 _ (List.mem_of_getElem? (i := 204) (by decide +kernel))) (by rfl)
theorem bg_983 : (.fieldLink RX12 192 "ClassGateModel" "S_OBJECT" "I" : Cond) ∈ bg := bgf (tb_6 _ (List.mem_of_getElem? (i := 205) (by decide +kernel))) (by rfl)
theorem bg_984 : (.fieldLink RX12 195 "ClassGateModel" "pool" "I" : Cond) ∈ bg := bgf (tb_6 _ (List.mem_of_getElem? (i := 214) (by decide +kernel))) (by rfl)
theorem bg_985 : (.fieldLink RX12 198 "ClassGateModel" "fields" "I" : Cond) ∈ bg := bgf (tb_6 _ (List.mem_of_getElem? (i := 219) (by decide +kernel))) (by rfl)
theorem bg_986 : (.fieldLink RX12 201 "ClassGateModel" "methods" "I" : Cond) ∈ bg := bgf (tb_6 _ (List.mem_of_getElem? (i := 220) (by decide +kernel))) (by rfl)
theorem bg_987 : (.methodLink RX12 204 yJ0_length_8abf5 : Cond) ∈ bg := bgf (tb_6 _ (List.mem_of_getElem? (i := 186) (by decide +kernel))) (by rfl)
theorem bg_988 : (.methodLink RX12 208 yJ0_charAt_5068e : Cond) ∈ bg := bgf (tb_6 _ (List.mem_of_getElem? (i := 187) (by decide +kernel))) (by rfl)
theorem bg_989 : (.methodLink RX12 212 yX12_symbol_ : Cond) ∈ bg := bgf (tb_6 _ (List.mem_of_getElem? (i := 188) (by decide +kernel))) (by rfl)
theorem bg_990 : (.code yX12_symbol_ cX12_symbol_ 6 (some .int) : Cond) ∈ bg := bgf (tb_6 _ (List.mem_of_getElem? (i := 191) (by rfl))) (by rfl)
theorem bg_991 : (.instanceMethod yX12_symbol_ : Cond) ∈ bg := bgf (tb_6 _ (List.mem_of_getElem? (i := 190) (by decide +kernel))) (by rfl)
theorem bg_992 : (.selects RX12 yX12_symbol_ yX12_symbol_ : Cond) ∈ bg := bgf (List.mem_of_getElem? (i := 76) (by decide +kernel)) (by rfl)
theorem bg_993 : (.code yX12_length cX12_length 2 (some .int) : Cond) ∈ bg := bgf (tb_8 _ (List.mem_of_getElem? (i := 59) (by rfl))) (by rfl)
theorem bg_994 : (.code yX12_at cX12_at 3 (some .char) : Cond) ∈ bg := bgf (tb_8 _ (List.mem_of_getElem? (i := 63) (by rfl))) (by rfl)
theorem bg_995 : (.code yX12_is cX12_is 4 (some .boolean) : Cond) ∈ bg := bgf (tb_8 _ (List.mem_of_getElem? (i := 127) (by rfl))) (by rfl)
theorem bg_996 : (.methodLink RX12 215 yX12_length : Cond) ∈ bg := bgf (tb_8 _ (List.mem_of_getElem? (i := 56) (by decide +kernel))) (by rfl)
theorem bg_997 : (.instanceMethod yX12_length : Cond) ∈ bg := bgf (tb_8 _ (List.mem_of_getElem? (i := 58) (by decide +kernel))) (by rfl)
theorem bg_998 : (.selects RX12 yX12_length yX12_length : Cond) ∈ bg := bgf (List.mem_of_getElem? (i := 97) (by decide +kernel)) (by rfl)
theorem bg_999 : (.methodLink RX12 217 yX12_at : Cond) ∈ bg := bgf (tb_8 _ (List.mem_of_getElem? (i := 60) (by decide +kernel))) (by rfl)
theorem bg_1000 : (.instanceMethod yX12_at : Cond) ∈ bg := bgf (tb_8 _ (List.mem_of_getElem? (i := 62) (by decide +kernel))) (by rfl)
theorem bg_1001 : (.selects RX12 yX12_at yX12_at : Cond) ∈ bg := bgf (List.mem_of_getElem? (i := 98) (by decide +kernel)) (by rfl)
theorem bg_1002 : (.code yX12_u1 cX12_u1 2 (some .int) : Cond) ∈ bg := bgf (tb_8 _ (List.mem_of_getElem? (i := 13) (by rfl))) (by rfl)
theorem bg_1003 : (.fieldLink RX12 221 "ClassGateModel" "base" "I" : Cond) ∈ bg := bgf (tb_7 _ (List.mem_of_getElem? (i := 3) (by decide +kernel))) (by rfl)
theorem bg_1004 : (.code yX12_u2 cX12_u2 2 (some .int) : Cond) ∈ bg := bgf (tb_8 _ (List.mem_of_getElem? (i := 9) (by rfl))) (by rfl)
theorem bg_1005 : (.methodLink RX12 224 yX12_u1 : Cond) ∈ bg := bgf (tb_8 _ (List.mem_of_getElem? (i := 10) (by decide +kernel))) (by rfl)
theorem bg_1006 : (.instanceMethod yX12_u1 : Cond) ∈ bg := bgf (tb_8 _ (List.mem_of_getElem? (i := 12) (by decide +kernel))) (by rfl)
theorem bg_1007 : (.selects RX12 yX12_u1 yX12_u1 : Cond) ∈ bg := bgf (List.mem_of_getElem? (i := 86) (by decide +kernel)) (by rfl)
theorem bg_1008 : (.code yX12_u4 cX12_u4 2 (some .long) : Cond) ∈ bg := bgf (tb_8 _ (List.mem_of_getElem? (i := 5) (by rfl))) (by rfl)
theorem bg_1009 : (.methodLink RX12 227 yX12_u2 : Cond) ∈ bg := bgf (tb_8 _ (List.mem_of_getElem? (i := 6) (by decide +kernel))) (by rfl)
theorem bg_1010 : (.instanceMethod yX12_u2 : Cond) ∈ bg := bgf (tb_8 _ (List.mem_of_getElem? (i := 8) (by decide +kernel))) (by rfl)
theorem bg_1011 : (.selects RX12 yX12_u2 yX12_u2 : Cond) ∈ bg := bgf (List.mem_of_getElem? (i := 85) (by decide +kernel)) (by rfl)
theorem bg_1012 : (.code yX12_wrong cX12_wrong 3 (some .boolean) : Cond) ∈ bg := bgf (tb_8 _ (List.mem_of_getElem? (i := 1) (by rfl))) (by rfl)
theorem bg_1013 : (.fieldLink RX12 230 "ClassGateModel" "rule" "I" : Cond) ∈ bg := bgf (tb_7 _ (List.mem_of_getElem? (i := 1) (by decide +kernel))) (by rfl)
theorem bg_1014 : (.fieldLink RX12 233 "ClassGateModel" "wrongAt" "I" : Cond) ∈ bg := bgf (tb_7 _ (List.mem_of_getElem? (i := 2) (by decide +kernel))) (by rfl)
theorem bg_1015 : (.code yX12_item cX12_item 3 (some .boolean) : Cond) ∈ bg := bgf (tb_7 _ (List.mem_of_getElem? (i := 237) (by rfl))) (by rfl)
theorem bg_1016 : (.fieldLink RX12 236 "ClassGateModel" "pos" "I" : Cond) ∈ bg := bgf (tb_7 _ (List.mem_of_getElem? (i := 4) (by decide +kernel))) (by rfl)
theorem bg_1017 : (.fieldLink RX12 239 "ClassGateModel" "size" "I" : Cond) ∈ bg := bgf (tb_6 _ (List.mem_of_getElem? (i := 210) (by decide +kernel))) (by rfl)
theorem bg_1018 : (.methodLink RX12 242 yX12_wrong : Cond) ∈ bg := bgf (tb_7 _ (List.mem_of_getElem? (i := 238) (by decide +kernel))) (by rfl)
theorem bg_1019 : (.instanceMethod yX12_wrong : Cond) ∈ bg := bgf (tb_8 _ (List.mem_of_getElem? (i := 0) (by decide +kernel))) (by rfl)
theorem bg_1020 : (.selects RX12 yX12_wrong yX12_wrong : Cond) ∈ bg := bgf (List.mem_of_getElem? (i := 83) (by decide +kernel)) (by rfl)
theorem bg_1021 : (.code yX12_tag cX12_tag 2 (some .int) : Cond) ∈ bg := bgf (tb_8 _ (List.mem_of_getElem? (i := 47) (by rfl))) (by rfl)
theorem bg_1022 : (.fieldLink RX12 246 "ClassGateModel" "cpN" "I" : Cond) ∈ bg := bgf (tb_7 _ (List.mem_of_getElem? (i := 6) (by decide +kernel))) (by rfl)
theorem bg_1023 : (.fieldLink RX12 249 "ClassGateModel" "cpBase" "I" : Cond) ∈ bg := bgf (tb_7 _ (List.mem_of_getElem? (i := 5) (by decide +kernel))) (by rfl)
theorem bg_1024 : (.code yX12_index cX12_index 3 (some .int) : Cond) ∈ bg := bgf (tb_8 _ (List.mem_of_getElem? (i := 43) (by rfl))) (by rfl)
theorem bg_1025 : (.code yX12_symOf cX12_symOf 2 (some .int) : Cond) ∈ bg := bgf (tb_8 _ (List.mem_of_getElem? (i := 51) (by rfl))) (by rfl)
theorem bg_1026 : (.code yX12_readFile cX12_readFile 3 (some .boolean) : Cond) ∈ bg := bgf (tb_7 _ (List.mem_of_getElem? (i := 232) (by rfl))) (by rfl)
theorem bg_1027 : (.constantLong RX12 252 4 : Cond) ∈ bg := bgf (tb_7 _ (List.mem_of_getElem? (i := 233) (by decide +kernel))) (by rfl)
theorem bg_1028 : (.methodLink RX12 254 yX12_item : Cond) ∈ bg := bgf (tb_7 _ (List.mem_of_getElem? (i := 234) (by decide +kernel))) (by rfl)
theorem bg_1029 : (.instanceMethod yX12_item : Cond) ∈ bg := bgf (tb_7 _ (List.mem_of_getElem? (i := 236) (by decide +kernel))) (by rfl)
theorem bg_1030 : (.selects RX12 yX12_item yX12_item : Cond) ∈ bg := bgf (List.mem_of_getElem? (i := 82) (by decide +kernel)) (by rfl)
theorem bg_1031 : (.methodLink RX12 258 yX12_u4 : Cond) ∈ bg := bgf (tb_8 _ (List.mem_of_getElem? (i := 2) (by decide +kernel))) (by rfl)
theorem bg_1032 : (.instanceMethod yX12_u4 : Cond) ∈ bg := bgf (tb_8 _ (List.mem_of_getElem? (i := 4) (by decide +kernel))) (by rfl)
theorem bg_1033 : (.selects RX12 yX12_u4 yX12_u4 : Cond) ∈ bg := bgf (List.mem_of_getElem? (i := 84) (by decide +kernel)) (by rfl)
theorem bg_1034 : (.constantLong RX12 262 3405691582 : Cond) ∈ bg := bgf (tb_8 _ (List.mem_of_getElem? (i := 14) (by decide +kernel))) (by rfl)
theorem bg_1035 : (.constantLong RX12 264 2 : Cond) ∈ bg := bgf (tb_8 _ (List.mem_of_getElem? (i := 15) (by decide +kernel))) (by rfl)
theorem bg_1036 : (.fieldLink RX12 266 "ClassGateModel" "major" "I" : Cond) ∈ bg := bgf (tb_7 _ (List.mem_of_getElem? (i := 7) (by decide +kernel))) (by rfl)
theorem bg_1037 : (.methodLink RX12 269 yX12_readPool : Cond) ∈ bg := bgf (tb_8 _ (List.mem_of_getElem? (i := 16) (by decide +kernel))) (by rfl)
theorem bg_1038 : (.code yX12_readPool cX12_readPool 6 (some .boolean) : Cond) ∈ bg := bgf (tb_8 _ (List.mem_of_getElem? (i := 19) (by rfl))) (by rfl)
theorem bg_1039 : (.instanceMethod yX12_readPool : Cond) ∈ bg := bgf (tb_8 _ (List.mem_of_getElem? (i := 18) (by decide +kernel))) (by rfl)
theorem bg_1040 : (.selects RX12 yX12_readPool yX12_readPool : Cond) ∈ bg := bgf (List.mem_of_getElem? (i := 87) (by decide +kernel)) (by rfl)
theorem bg_1041 : (.fieldLink RX12 273 "ClassGateModel" "headAt" "I" : Cond) ∈ bg := bgf (tb_7 _ (List.mem_of_getElem? (i := 8) (by decide +kernel))) (by rfl)
theorem bg_1042 : (.fieldLink RX12 276 "ClassGateModel" "fieldsAt" "I" : Cond) ∈ bg := bgf (tb_7 _ (List.mem_of_getElem? (i := 9) (by decide +kernel))) (by rfl)
theorem bg_1043 : (.methodLink RX12 279 yX12_members : Cond) ∈ bg := bgf (tb_8 _ (List.mem_of_getElem? (i := 24) (by decide +kernel))) (by rfl)
theorem bg_1044 : (.code yX12_members cX12_members 4 (some .boolean) : Cond) ∈ bg := bgf (tb_8 _ (List.mem_of_getElem? (i := 27) (by rfl))) (by rfl)
theorem bg_1045 : (.instanceMethod yX12_members : Cond) ∈ bg := bgf (tb_8 _ (List.mem_of_getElem? (i := 26) (by decide +kernel))) (by rfl)
theorem bg_1046 : (.selects RX12 yX12_members yX12_members : Cond) ∈ bg := bgf (List.mem_of_getElem? (i := 89) (by decide +kernel)) (by rfl)
theorem bg_1047 : (.fieldLink RX12 282 "ClassGateModel" "methodsAt" "I" : Cond) ∈ bg := bgf (tb_7 _ (List.mem_of_getElem? (i := 10) (by decide +kernel))) (by rfl)
theorem bg_1048 : (.fieldLink RX12 285 "ClassGateModel" "attributesAt" "I" : Cond) ∈ bg := bgf (tb_7 _ (List.mem_of_getElem? (i := 11) (by decide +kernel))) (by rfl)
theorem bg_1049 : (.methodLink RX12 288 yX12_attributes : Cond) ∈ bg := bgf (tb_8 _ (List.mem_of_getElem? (i := 28) (by decide +kernel))) (by rfl)
theorem bg_1050 : (.code yX12_attributes cX12_attributes 5 (some .boolean) : Cond) ∈ bg := bgf (tb_8 _ (List.mem_of_getElem? (i := 31) (by rfl))) (by rfl)
theorem bg_1051 : (.instanceMethod yX12_attributes : Cond) ∈ bg := bgf (tb_8 _ (List.mem_of_getElem? (i := 30) (by decide +kernel))) (by rfl)
theorem bg_1052 : (.selects RX12 yX12_attributes yX12_attributes : Cond) ∈ bg := bgf (List.mem_of_getElem? (i := 90) (by decide +kernel)) (by rfl)
theorem bg_1053 : (.methodLink RX12 291 yX12_utf8 : Cond) ∈ bg := bgf (tb_8 _ (List.mem_of_getElem? (i := 20) (by decide +kernel))) (by rfl)
theorem bg_1054 : (.code yX12_utf8 cX12_utf8 10 (some .boolean) : Cond) ∈ bg := bgf (tb_8 _ (List.mem_of_getElem? (i := 23) (by rfl))) (by rfl)
theorem bg_1055 : (.instanceMethod yX12_utf8 : Cond) ∈ bg := bgf (tb_8 _ (List.mem_of_getElem? (i := 22) (by decide +kernel))) (by rfl)
theorem bg_1056 : (.selects RX12 yX12_utf8 yX12_utf8 : Cond) ∈ bg := bgf (List.mem_of_getElem? (i := 88) (by decide +kernel)) (by rfl)
theorem bg_1057 : (.code yX12_unqualified cX12_unqualified 6 (some .boolean) : Cond) ∈ bg := bgf (tb_8 _ (List.mem_of_getElem? (i := 75) (by rfl))) (by rfl)
theorem bg_1058 : (.code yX12_classText cX12_classText 2 (some .boolean) : Cond) ∈ bg := bgf (tb_8 _ (List.mem_of_getElem? (i := 55) (by rfl))) (by rfl)
theorem bg_1059 : (.methodLink RX12 295 yX12_fieldText : Cond) ∈ bg := bgf (tb_8 _ (List.mem_of_getElem? (i := 64) (by decide +kernel))) (by rfl)
theorem bg_1060 : (.code yX12_fieldText cX12_fieldText 7 (some .int) : Cond) ∈ bg := bgf (tb_8 _ (List.mem_of_getElem? (i := 67) (by rfl))) (by rfl)
theorem bg_1061 : (.instanceMethod yX12_fieldText : Cond) ∈ bg := bgf (tb_8 _ (List.mem_of_getElem? (i := 66) (by decide +kernel))) (by rfl)
theorem bg_1062 : (.selects RX12 yX12_fieldText yX12_fieldText : Cond) ∈ bg := bgf (List.mem_of_getElem? (i := 99) (by decide +kernel)) (by rfl)
theorem bg_1063 : (.methodLink RX12 299 yX12_nameText : Cond) ∈ bg := bgf (tb_8 _ (List.mem_of_getElem? (i := 68) (by decide +kernel))) (by rfl)
theorem bg_1064 : (.code yX12_nameText cX12_nameText 7 (some .boolean) : Cond) ∈ bg := bgf (tb_8 _ (List.mem_of_getElem? (i := 71) (by rfl))) (by rfl)
theorem bg_1065 : (.instanceMethod yX12_nameText : Cond) ∈ bg := bgf (tb_8 _ (List.mem_of_getElem? (i := 70) (by decide +kernel))) (by rfl)
theorem bg_1066 : (.selects RX12 yX12_nameText yX12_nameText : Cond) ∈ bg := bgf (List.mem_of_getElem? (i := 100) (by decide +kernel)) (by rfl)
theorem bg_1067 : (.code yX12_isField cX12_isField 2 (some .boolean) : Cond) ∈ bg := bgf (tb_8 _ (List.mem_of_getElem? (i := 79) (by rfl))) (by rfl)
theorem bg_1068 : (.code yX12_isMethod cX12_isMethod 4 (some .boolean) : Cond) ∈ bg := bgf (tb_8 _ (List.mem_of_getElem? (i := 83) (by rfl))) (by rfl)
theorem bg_1069 : (.methodLink RX12 302 yX12_places0 : Cond) ∈ bg := bgf (tb_8 _ (List.mem_of_getElem? (i := 84) (by decide +kernel))) (by rfl)
theorem bg_1070 : (.code yX12_places0 cX12_places0 5 (some .int) : Cond) ∈ bg := bgf (tb_8 _ (List.mem_of_getElem? (i := 87) (by rfl))) (by rfl)
theorem bg_1071 : (.instanceMethod yX12_places0 : Cond) ∈ bg := bgf (tb_8 _ (List.mem_of_getElem? (i := 86) (by decide +kernel))) (by rfl)
theorem bg_1072 : (.selects RX12 yX12_places0 yX12_places0 : Cond) ∈ bg := bgf (List.mem_of_getElem? (i := 104) (by decide +kernel)) (by rfl)
theorem bg_1073 : (.code yX12_endsV cX12_endsV 2 (some .boolean) : Cond) ∈ bg := bgf (tb_8 _ (List.mem_of_getElem? (i := 95) (by rfl))) (by rfl)
theorem bg_1074 : (.code yX12_checkPool cX12_checkPool 8 (some .boolean) : Cond) ∈ bg := bgf (tb_8 _ (List.mem_of_getElem? (i := 35) (by rfl))) (by rfl)
theorem bg_1075 : (.methodLink RX12 305 yX12_indexes : Cond) ∈ bg := bgf (tb_8 _ (List.mem_of_getElem? (i := 36) (by decide +kernel))) (by rfl)
theorem bg_1076 : (.code yX12_indexes cX12_indexes 5 (some .boolean) : Cond) ∈ bg := bgf (tb_8 _ (List.mem_of_getElem? (i := 39) (by rfl))) (by rfl)
theorem bg_1077 : (.instanceMethod yX12_indexes : Cond) ∈ bg := bgf (tb_8 _ (List.mem_of_getElem? (i := 38) (by decide +kernel))) (by rfl)
theorem bg_1078 : (.selects RX12 yX12_indexes yX12_indexes : Cond) ∈ bg := bgf (List.mem_of_getElem? (i := 92) (by decide +kernel)) (by rfl)
theorem bg_1079 : (.methodLink RX12 309 yX12_index : Cond) ∈ bg := bgf (tb_8 _ (List.mem_of_getElem? (i := 40) (by decide +kernel))) (by rfl)
theorem bg_1080 : (.instanceMethod yX12_index : Cond) ∈ bg := bgf (tb_8 _ (List.mem_of_getElem? (i := 42) (by decide +kernel))) (by rfl)
theorem bg_1081 : (.selects RX12 yX12_index yX12_index : Cond) ∈ bg := bgf (List.mem_of_getElem? (i := 93) (by decide +kernel)) (by rfl)
theorem bg_1082 : (.methodLink RX12 312 yX12_symOf : Cond) ∈ bg := bgf (tb_8 _ (List.mem_of_getElem? (i := 48) (by decide +kernel))) (by rfl)
theorem bg_1083 : (.instanceMethod yX12_symOf : Cond) ∈ bg := bgf (tb_8 _ (List.mem_of_getElem? (i := 50) (by decide +kernel))) (by rfl)
theorem bg_1084 : (.selects RX12 yX12_symOf yX12_symOf : Cond) ∈ bg := bgf (List.mem_of_getElem? (i := 95) (by decide +kernel)) (by rfl)
theorem bg_1085 : (.methodLink RX12 315 yX12_classText : Cond) ∈ bg := bgf (tb_8 _ (List.mem_of_getElem? (i := 52) (by decide +kernel))) (by rfl)
theorem bg_1086 : (.instanceMethod yX12_classText : Cond) ∈ bg := bgf (tb_8 _ (List.mem_of_getElem? (i := 54) (by decide +kernel))) (by rfl)
theorem bg_1087 : (.selects RX12 yX12_classText yX12_classText : Cond) ∈ bg := bgf (List.mem_of_getElem? (i := 96) (by decide +kernel)) (by rfl)
theorem bg_1088 : (.methodLink RX12 319 yX12_unqualified : Cond) ∈ bg := bgf (tb_8 _ (List.mem_of_getElem? (i := 72) (by decide +kernel))) (by rfl)
theorem bg_1089 : (.instanceMethod yX12_unqualified : Cond) ∈ bg := bgf (tb_8 _ (List.mem_of_getElem? (i := 74) (by decide +kernel))) (by rfl)
theorem bg_1090 : (.selects RX12 yX12_unqualified yX12_unqualified : Cond) ∈ bg := bgf (List.mem_of_getElem? (i := 101) (by decide +kernel)) (by rfl)
theorem bg_1091 : (.methodLink RX12 323 yX12_isField : Cond) ∈ bg := bgf (tb_8 _ (List.mem_of_getElem? (i := 76) (by decide +kernel))) (by rfl)
theorem bg_1092 : (.instanceMethod yX12_isField : Cond) ∈ bg := bgf (tb_8 _ (List.mem_of_getElem? (i := 78) (by decide +kernel))) (by rfl)
theorem bg_1093 : (.selects RX12 yX12_isField yX12_isField : Cond) ∈ bg := bgf (List.mem_of_getElem? (i := 102) (by decide +kernel)) (by rfl)
theorem bg_1094 : (.methodLink RX12 326 yX12_isMethod : Cond) ∈ bg := bgf (tb_8 _ (List.mem_of_getElem? (i := 80) (by decide +kernel))) (by rfl)
theorem bg_1095 : (.instanceMethod yX12_isMethod : Cond) ∈ bg := bgf (tb_8 _ (List.mem_of_getElem? (i := 82) (by decide +kernel))) (by rfl)
theorem bg_1096 : (.selects RX12 yX12_isMethod yX12_isMethod : Cond) ∈ bg := bgf (List.mem_of_getElem? (i := 103) (by decide +kernel)) (by rfl)
theorem bg_1097 : (.methodLink RX12 329 yX12_angles : Cond) ∈ bg := bgf (tb_8 _ (List.mem_of_getElem? (i := 88) (by decide +kernel))) (by rfl)
theorem bg_1098 : (.code yX12_angles cX12_angles 3 (some .boolean) : Cond) ∈ bg := bgf (tb_8 _ (List.mem_of_getElem? (i := 91) (by rfl))) (by rfl)
theorem bg_1099 : (.instanceMethod yX12_angles : Cond) ∈ bg := bgf (tb_8 _ (List.mem_of_getElem? (i := 90) (by decide +kernel))) (by rfl)
theorem bg_1100 : (.selects RX12 yX12_angles yX12_angles : Cond) ∈ bg := bgf (List.mem_of_getElem? (i := 105) (by decide +kernel)) (by rfl)
theorem bg_1101 : (.methodLink RX12 332 yX12_endsV : Cond) ∈ bg := bgf (tb_8 _ (List.mem_of_getElem? (i := 92) (by decide +kernel))) (by rfl)
theorem bg_1102 : (.instanceMethod yX12_endsV : Cond) ∈ bg := bgf (tb_8 _ (List.mem_of_getElem? (i := 94) (by decide +kernel))) (by rfl)
theorem bg_1103 : (.selects RX12 yX12_endsV yX12_endsV : Cond) ∈ bg := bgf (List.mem_of_getElem? (i := 106) (by decide +kernel)) (by rfl)
theorem bg_1104 : (.methodLink RX12 335 yX12_handleEntry : Cond) ∈ bg := bgf (tb_8 _ (List.mem_of_getElem? (i := 96) (by decide +kernel))) (by rfl)
theorem bg_1105 : (.code yX12_handleEntry cX12_handleEntry 6 (some .boolean) : Cond) ∈ bg := bgf (tb_8 _ (List.mem_of_getElem? (i := 99) (by rfl))) (by rfl)
theorem bg_1106 : (.instanceMethod yX12_handleEntry : Cond) ∈ bg := bgf (tb_8 _ (List.mem_of_getElem? (i := 98) (by decide +kernel))) (by rfl)
theorem bg_1107 : (.selects RX12 yX12_handleEntry yX12_handleEntry : Cond) ∈ bg := bgf (List.mem_of_getElem? (i := 107) (by decide +kernel)) (by rfl)
theorem bg_1108 : (.methodLink RX12 338 yX12_tag : Cond) ∈ bg := bgf (tb_8 _ (List.mem_of_getElem? (i := 44) (by decide +kernel))) (by rfl)
theorem bg_1109 : (.instanceMethod yX12_tag : Cond) ∈ bg := bgf (tb_8 _ (List.mem_of_getElem? (i := 46) (by decide +kernel))) (by rfl)
theorem bg_1110 : (.selects RX12 yX12_tag yX12_tag : Cond) ∈ bg := bgf (List.mem_of_getElem? (i := 94) (by decide +kernel)) (by rfl)
theorem bg_1111 : (.code yX12_className cX12_className 2 (some .int) : Cond) ∈ bg := bgf (tb_8 _ (List.mem_of_getElem? (i := 112) (by rfl))) (by rfl)
theorem bg_1112 : (.code yX12_plainClass cX12_plainClass 2 (some .boolean) : Cond) ∈ bg := bgf (tb_8 _ (List.mem_of_getElem? (i := 108) (by rfl))) (by rfl)
theorem bg_1113 : (.methodLink RX12 341 yX12_className : Cond) ∈ bg := bgf (tb_8 _ (List.mem_of_getElem? (i := 109) (by decide +kernel))) (by rfl)
theorem bg_1114 : (.instanceMethod yX12_className : Cond) ∈ bg := bgf (tb_8 _ (List.mem_of_getElem? (i := 111) (by decide +kernel))) (by rfl)
theorem bg_1115 : (.selects RX12 yX12_className yX12_className : Cond) ∈ bg := bgf (List.mem_of_getElem? (i := 110) (by decide +kernel)) (by rfl)
theorem bg_1116 : (.code yX12_checkClass cX12_checkClass 8 (some .boolean) : Cond) ∈ bg := bgf (tb_8 _ (List.mem_of_getElem? (i := 103) (by rfl))) (by rfl)
theorem bg_1117 : (.fieldLink RX12 344 "ClassGateModel" "newFlags" "I" : Cond) ∈ bg := bgf (tb_7 _ (List.mem_of_getElem? (i := 12) (by decide +kernel))) (by rfl)
theorem bg_1118 : (.methodLink RX12 348 yX12_plainClass : Cond) ∈ bg := bgf (tb_8 _ (List.mem_of_getElem? (i := 105) (by decide +kernel))) (by rfl)
theorem bg_1119 : (.instanceMethod yX12_plainClass : Cond) ∈ bg := bgf (tb_8 _ (List.mem_of_getElem? (i := 107) (by decide +kernel))) (by rfl)
theorem bg_1120 : (.selects RX12 yX12_plainClass yX12_plainClass : Cond) ∈ bg := bgf (List.mem_of_getElem? (i := 109) (by decide +kernel)) (by rfl)
theorem bg_1121 : (.fieldLink RX12 351 "ClassGateModel" "newName" "I" : Cond) ∈ bg := bgf (tb_7 _ (List.mem_of_getElem? (i := 13) (by decide +kernel))) (by rfl)
theorem bg_1122 : (.fieldLink RX12 354 "ClassGateModel" "newSuper" "I" : Cond) ∈ bg := bgf (tb_7 _ (List.mem_of_getElem? (i := 14) (by decide +kernel))) (by rfl)
theorem bg_1123 : (.fieldLink RX12 357 "ClassGateModel" "newIfs" "I" : Cond) ∈ bg := bgf (tb_7 _ (List.mem_of_getElem? (i := 15) (by decide +kernel))) (by rfl)
theorem bg_1124 : (.code yX12_several cX12_several 4 (some .boolean) : Cond) ∈ bg := bgf (tb_8 _ (List.mem_of_getElem? (i := 119) (by rfl))) (by rfl)
theorem bg_1125 : (.code yX12_checkFields cX12_checkFields 8 (some .boolean) : Cond) ∈ bg := bgf (tb_8 _ (List.mem_of_getElem? (i := 116) (by rfl))) (by rfl)
theorem bg_1126 : (.methodLink RX12 360 yX12_several : Cond) ∈ bg := bgf (tb_8 _ (List.mem_of_getElem? (i := 117) (by decide +kernel))) (by rfl)
theorem bg_1127 : (.static yX12_several : Cond) ∈ bg := bgf (tb_8 _ (List.mem_of_getElem? (i := 118) (by decide +kernel))) (by rfl)
theorem bg_1128 : (.methodLink RX12 364 yX12_checkAttributes : Cond) ∈ bg := bgf (tb_8 _ (List.mem_of_getElem? (i := 120) (by decide +kernel))) (by rfl)
theorem bg_1129 : (.code yX12_checkAttributes cX12_checkAttributes 12 (some .int) : Cond) ∈ bg := bgf (tb_8 _ (List.mem_of_getElem? (i := 123) (by rfl))) (by rfl)
theorem bg_1130 : (.instanceMethod yX12_checkAttributes : Cond) ∈ bg := bgf (tb_8 _ (List.mem_of_getElem? (i := 122) (by decide +kernel))) (by rfl)
theorem bg_1131 : (.selects RX12 yX12_checkAttributes yX12_checkAttributes : Cond) ∈ bg := bgf (List.mem_of_getElem? (i := 112) (by decide +kernel)) (by rfl)
theorem bg_1132 : (.code yX12_checkMethods cX12_checkMethods 14 (some .boolean) : Cond) ∈ bg := bgf (tb_8 _ (List.mem_of_getElem? (i := 149) (by rfl))) (by rfl)
theorem bg_1133 : (.methodLink RX12 368 yX12_flagsFit : Cond) ∈ bg := bgf (tb_8 _ (List.mem_of_getElem? (i := 150) (by decide +kernel))) (by rfl)
theorem bg_1134 : (.code yX12_flagsFit cX12_flagsFit 5 (some .boolean) : Cond) ∈ bg := bgf (tb_8 _ (List.mem_of_getElem? (i := 153) (by rfl))) (by rfl)
theorem bg_1135 : (.instanceMethod yX12_flagsFit : Cond) ∈ bg := bgf (tb_8 _ (List.mem_of_getElem? (i := 152) (by decide +kernel))) (by rfl)
theorem bg_1136 : (.selects RX12 yX12_flagsFit yX12_flagsFit : Cond) ∈ bg := bgf (List.mem_of_getElem? (i := 119) (by decide +kernel)) (by rfl)
theorem bg_1137 : (.methodLink RX12 372 yX12_is : Cond) ∈ bg := bgf (tb_8 _ (List.mem_of_getElem? (i := 124) (by decide +kernel))) (by rfl)
theorem bg_1138 : (.instanceMethod yX12_is : Cond) ∈ bg := bgf (tb_8 _ (List.mem_of_getElem? (i := 126) (by decide +kernel))) (by rfl)
theorem bg_1139 : (.selects RX12 yX12_is yX12_is : Cond) ∈ bg := bgf (List.mem_of_getElem? (i := 113) (by decide +kernel)) (by rfl)
theorem bg_1140 : (.fieldLink RX12 376 "ClassGateModel" "newKnown" "I" : Cond) ∈ bg := bgf (tb_7 _ (List.mem_of_getElem? (i := 20) (by decide +kernel))) (by rfl)
theorem bg_1141 : (.methodLink RX12 379 yX12_attribute : Cond) ∈ bg := bgf (tb_8 _ (List.mem_of_getElem? (i := 128) (by decide +kernel))) (by rfl)
theorem bg_1142 : (.code yX12_attribute cX12_attribute 11 (some .int) : Cond) ∈ bg := bgf (tb_8 _ (List.mem_of_getElem? (i := 131) (by rfl))) (by rfl)
theorem bg_1143 : (.instanceMethod yX12_attribute : Cond) ∈ bg := bgf (tb_8 _ (List.mem_of_getElem? (i := 130) (by decide +kernel))) (by rfl)
theorem bg_1144 : (.selects RX12 yX12_attribute yX12_attribute : Cond) ∈ bg := bgf (List.mem_of_getElem? (i := 114) (by decide +kernel)) (by rfl)
theorem bg_1145 : (.methodLink RX12 385 yX12_code : Cond) ∈ bg := bgf (tb_8 _ (List.mem_of_getElem? (i := 133) (by decide +kernel))) (by rfl)
theorem bg_1146 : (.code yX12_code cX12_code 15 (some .int) : Cond) ∈ bg := bgf (tb_8 _ (List.mem_of_getElem? (i := 136) (by rfl))) (by rfl)
theorem bg_1147 : (.instanceMethod yX12_code : Cond) ∈ bg := bgf (tb_8 _ (List.mem_of_getElem? (i := 135) (by decide +kernel))) (by rfl)
theorem bg_1148 : (.selects RX12 yX12_code yX12_code : Cond) ∈ bg := bgf (List.mem_of_getElem? (i := 115) (by decide +kernel)) (by rfl)
theorem bg_1149 : (.fieldLink RX12 389 "ClassGateModel" "newMembers" "I" : Cond) ∈ bg := bgf (tb_7 _ (List.mem_of_getElem? (i := 22) (by decide +kernel))) (by rfl)
theorem bg_1150 : (.fieldLink RX12 392 "ClassGateModel" "newPermitted" "I" : Cond) ∈ bg := bgf (tb_7 _ (List.mem_of_getElem? (i := 23) (by decide +kernel))) (by rfl)
theorem bg_1151 : (.fieldLink RX12 395 "ClassGateModel" "newInners" "I" : Cond) ∈ bg := bgf (tb_7 _ (List.mem_of_getElem? (i := 19) (by decide +kernel))) (by rfl)
theorem bg_1152 : (.methodLink RX12 398 yX12_bootstraps : Cond) ∈ bg := bgf (tb_8 _ (List.mem_of_getElem? (i := 138) (by decide +kernel))) (by rfl)
theorem bg_1153 : (.code yX12_bootstraps cX12_bootstraps 8 (some .int) : Cond) ∈ bg := bgf (tb_8 _ (List.mem_of_getElem? (i := 141) (by rfl))) (by rfl)
theorem bg_1154 : (.instanceMethod yX12_bootstraps : Cond) ∈ bg := bgf (tb_8 _ (List.mem_of_getElem? (i := 140) (by decide +kernel))) (by rfl)
theorem bg_1155 : (.selects RX12 yX12_bootstraps yX12_bootstraps : Cond) ∈ bg := bgf (List.mem_of_getElem? (i := 116) (by decide +kernel)) (by rfl)
theorem bg_1156 : (.fieldLink RX12 401 "ClassGateModel" "newHost" "I" : Cond) ∈ bg := bgf (tb_7 _ (List.mem_of_getElem? (i := 21) (by decide +kernel))) (by rfl)
theorem bg_1157 : (.methodLink RX12 404 yX12_components : Cond) ∈ bg := bgf (tb_8 _ (List.mem_of_getElem? (i := 142) (by decide +kernel))) (by rfl)
theorem bg_1158 : (.code yX12_components cX12_components 8 (some .int) : Cond) ∈ bg := bgf (tb_8 _ (List.mem_of_getElem? (i := 145) (by rfl))) (by rfl)
theorem bg_1159 : (.instanceMethod yX12_components : Cond) ∈ bg := bgf (tb_8 _ (List.mem_of_getElem? (i := 144) (by decide +kernel))) (by rfl)
theorem bg_1160 : (.selects RX12 yX12_components yX12_components : Cond) ∈ bg := bgf (List.mem_of_getElem? (i := 117) (by decide +kernel)) (by rfl)
theorem bg_1161 : (.fieldLink RX12 407 "ClassGateModel" "newBoot" "I" : Cond) ∈ bg := bgf (tb_7 _ (List.mem_of_getElem? (i := 24) (by decide +kernel))) (by rfl)
theorem bg_1162 : (.fieldLink RX12 410 "ClassGateModel" "newBootN" "I" : Cond) ∈ bg := bgf (tb_7 _ (List.mem_of_getElem? (i := 25) (by decide +kernel))) (by rfl)
theorem bg_1163 : (.fieldLink RX12 413 "ClassGateModel" "newRecord" "I" : Cond) ∈ bg := bgf (tb_7 _ (List.mem_of_getElem? (i := 26) (by decide +kernel))) (by rfl)
theorem bg_1164 : (.constantLong RX12 416 65535 : Cond) ∈ bg := bgf (tb_8 _ (List.mem_of_getElem? (i := 137) (by decide +kernel))) (by rfl)
theorem bg_1165 : (.code yX12_checkFile cX12_checkFile 3 (some .boolean) : Cond) ∈ bg := bgf (tb_7 _ (List.mem_of_getElem? (i := 228) (by rfl))) (by rfl)
theorem bg_1166 : (.methodLink RX12 418 yX12_readFile : Cond) ∈ bg := bgf (tb_7 _ (List.mem_of_getElem? (i := 229) (by decide +kernel))) (by rfl)
theorem bg_1167 : (.instanceMethod yX12_readFile : Cond) ∈ bg := bgf (tb_7 _ (List.mem_of_getElem? (i := 231) (by decide +kernel))) (by rfl)
theorem bg_1168 : (.selects RX12 yX12_readFile yX12_readFile : Cond) ∈ bg := bgf (List.mem_of_getElem? (i := 81) (by decide +kernel)) (by rfl)
theorem bg_1169 : (.methodLink RX12 421 yX12_checkPool : Cond) ∈ bg := bgf (tb_8 _ (List.mem_of_getElem? (i := 32) (by decide +kernel))) (by rfl)
theorem bg_1170 : (.instanceMethod yX12_checkPool : Cond) ∈ bg := bgf (tb_8 _ (List.mem_of_getElem? (i := 34) (by decide +kernel))) (by rfl)
theorem bg_1171 : (.selects RX12 yX12_checkPool yX12_checkPool : Cond) ∈ bg := bgf (List.mem_of_getElem? (i := 91) (by decide +kernel)) (by rfl)
theorem bg_1172 : (.methodLink RX12 424 yX12_checkClass : Cond) ∈ bg := bgf (tb_8 _ (List.mem_of_getElem? (i := 100) (by decide +kernel))) (by rfl)
theorem bg_1173 : (.instanceMethod yX12_checkClass : Cond) ∈ bg := bgf (tb_8 _ (List.mem_of_getElem? (i := 102) (by decide +kernel))) (by rfl)
theorem bg_1174 : (.selects RX12 yX12_checkClass yX12_checkClass : Cond) ∈ bg := bgf (List.mem_of_getElem? (i := 108) (by decide +kernel)) (by rfl)
theorem bg_1175 : (.methodLink RX12 427 yX12_checkFields : Cond) ∈ bg := bgf (tb_8 _ (List.mem_of_getElem? (i := 113) (by decide +kernel))) (by rfl)
theorem bg_1176 : (.instanceMethod yX12_checkFields : Cond) ∈ bg := bgf (tb_8 _ (List.mem_of_getElem? (i := 115) (by decide +kernel))) (by rfl)
theorem bg_1177 : (.selects RX12 yX12_checkFields yX12_checkFields : Cond) ∈ bg := bgf (List.mem_of_getElem? (i := 111) (by decide +kernel)) (by rfl)
theorem bg_1178 : (.methodLink RX12 430 yX12_checkMethods : Cond) ∈ bg := bgf (tb_8 _ (List.mem_of_getElem? (i := 146) (by decide +kernel))) (by rfl)
theorem bg_1179 : (.instanceMethod yX12_checkMethods : Cond) ∈ bg := bgf (tb_8 _ (List.mem_of_getElem? (i := 148) (by decide +kernel))) (by rfl)
theorem bg_1180 : (.selects RX12 yX12_checkMethods yX12_checkMethods : Cond) ∈ bg := bgf (List.mem_of_getElem? (i := 118) (by decide +kernel)) (by rfl)
theorem bg_1181 : (.code yX12_feed cX12_feed 6 (some .int) : Cond) ∈ bg := bgf (tb_7 _ (List.mem_of_getElem? (i := 204) (by rfl))) (by rfl)
theorem bg_1182 : (.fieldLink RX12 433 "ClassGateModel" "cameN" "I" : Cond) ∈ bg := bgf (tb_6 _ (List.mem_of_getElem? (i := 213) (by decide +kernel))) (by rfl)
theorem bg_1183 : (.methodLink RX12 436 yX12_four : Cond) ∈ bg := bgf (tb_7 _ (List.mem_of_getElem? (i := 205) (by decide +kernel))) (by rfl)
theorem bg_1184 : (.code yX12_four cX12_four 3 none : Cond) ∈ bg := bgf (tb_7 _ (List.mem_of_getElem? (i := 208) (by rfl))) (by rfl)
theorem bg_1185 : (.instanceMethod yX12_four : Cond) ∈ bg := bgf (tb_7 _ (List.mem_of_getElem? (i := 207) (by decide +kernel))) (by rfl)
theorem bg_1186 : (.selects RX12 yX12_four yX12_four : Cond) ∈ bg := bgf (List.mem_of_getElem? (i := 77) (by decide +kernel)) (by rfl)
theorem bg_1187 : (.code yX12_bad cX12_bad 1 (some .int) : Cond) ∈ bg := bgf (tb_7 _ (List.mem_of_getElem? (i := 216) (by rfl))) (by rfl)
theorem bg_1188 : (.code yX12_end cX12_end 3 (some .int) : Cond) ∈ bg := bgf (tb_7 _ (List.mem_of_getElem? (i := 212) (by rfl))) (by rfl)
theorem bg_1189 : (.methodLink RX12 440 yX12_bad : Cond) ∈ bg := bgf (tb_7 _ (List.mem_of_getElem? (i := 213) (by decide +kernel))) (by rfl)
theorem bg_1190 : (.instanceMethod yX12_bad : Cond) ∈ bg := bgf (tb_7 _ (List.mem_of_getElem? (i := 215) (by decide +kernel))) (by rfl)
theorem bg_1191 : (.selects RX12 yX12_bad yX12_bad : Cond) ∈ bg := bgf (List.mem_of_getElem? (i := 78) (by decide +kernel)) (by rfl)
theorem bg_1192 : (.fieldLink RX12 443 "ClassGateModel" "fileN" "I" : Cond) ∈ bg := bgf (tb_6 _ (List.mem_of_getElem? (i := 211) (by decide +kernel))) (by rfl)
theorem bg_1193 : (.code yX12_read cX12_read 4 (some .int) : Cond) ∈ bg := bgf (tb_7 _ (List.mem_of_getElem? (i := 220) (by rfl))) (by rfl)
theorem bg_1194 : (.methodLink RX12 446 yX12_parse : Cond) ∈ bg := bgf (tb_7 _ (List.mem_of_getElem? (i := 221) (by decide +kernel))) (by rfl)
theorem bg_1195 : (.code yX12_parse cX12_parse 4 (some .boolean) : Cond) ∈ bg := bgf (tb_7 _ (List.mem_of_getElem? (i := 224) (by rfl))) (by rfl)
theorem bg_1196 : (.instanceMethod yX12_parse : Cond) ∈ bg := bgf (tb_7 _ (List.mem_of_getElem? (i := 223) (by decide +kernel))) (by rfl)
theorem bg_1197 : (.selects RX12 yX12_parse yX12_parse : Cond) ∈ bg := bgf (List.mem_of_getElem? (i := 79) (by decide +kernel)) (by rfl)
theorem bg_1198 : (.methodLink RX12 450 yX12_checkFile : Cond) ∈ bg := bgf (tb_7 _ (List.mem_of_getElem? (i := 225) (by decide +kernel))) (by rfl)
theorem bg_1199 : (.instanceMethod yX12_checkFile : Cond) ∈ bg := bgf (tb_7 _ (List.mem_of_getElem? (i := 227) (by decide +kernel))) (by rfl)
end
section
theorem bg_1200 : (.selects RX12 yX12_checkFile yX12_checkFile : Cond) ∈ bg := bgf (List.mem_of_getElem? (i := 80) (by decide +kernel)) (by rfl)
theorem bg_1201 : (.code yX12_place cX12_place 1 (some .int) : Cond) ∈ bg := bgf (tb_8 _ (List.mem_of_getElem? (i := 157) (by rfl))) (by rfl)
theorem bg_1202 : (.code yX12_count cX12_count 4 (some .int) : Cond) ∈ bg := bgf (tb_8 _ (List.mem_of_getElem? (i := 161) (by rfl))) (by rfl)
theorem bg_1203 : (.code yX12_entry cX12_entry 4 (some .int) : Cond) ∈ bg := bgf (tb_8 _ (List.mem_of_getElem? (i := 165) (by rfl))) (by rfl)
theorem bg_1204 : (.code yX12_bits cX12_bits 3 (some .long) : Cond) ∈ bg := bgf (tb_8 _ (List.mem_of_getElem? (i := 169) (by rfl))) (by rfl)
theorem bg_1205 : (.code yX12_character cX12_character 3 (some .int) : Cond) ∈ bg := bgf (tb_8 _ (List.mem_of_getElem? (i := 173) (by rfl))) (by rfl)
theorem bg_1206 : (.code yX12_member cX12_member 4 (some .int) : Cond) ∈ bg := bgf (tb_8 _ (List.mem_of_getElem? (i := 177) (by rfl))) (by rfl)
theorem bg_1207 : (.code yX12_find cX12_find 7 (some .int) : Cond) ∈ bg := bgf (tb_8 _ (List.mem_of_getElem? (i := 181) (by rfl))) (by rfl)
theorem bg_1208 : (.code yX12_row cX12_row 4 (some .int) : Cond) ∈ bg := bgf (tb_8 _ (List.mem_of_getElem? (i := 185) (by rfl))) (by rfl)
theorem bg_1209 : (.code yX12_bootstrap cX12_bootstrap 5 (some .int) : Cond) ∈ bg := bgf (tb_8 _ (List.mem_of_getElem? (i := 189) (by rfl))) (by rfl)
theorem bg_1210 : (.code yX12_places cX12_places 5 (some .int) : Cond) ∈ bg := bgf (tb_8 _ (List.mem_of_getElem? (i := 193) (by rfl))) (by rfl)
theorem bg_1211 : (.methodLink RX12 453 yX12_wide : Cond) ∈ bg := bgf (tb_8 _ (List.mem_of_getElem? (i := 194) (by decide +kernel))) (by rfl)
theorem bg_1212 : (.code yX12_wide cX12_wide 3 (some .boolean) : Cond) ∈ bg := bgf (tb_8 _ (List.mem_of_getElem? (i := 197) (by rfl))) (by rfl)
theorem bg_1213 : (.instanceMethod yX12_wide : Cond) ∈ bg := bgf (tb_8 _ (List.mem_of_getElem? (i := 196) (by decide +kernel))) (by rfl)
theorem bg_1214 : (.selects RX12 yX12_wide yX12_wide : Cond) ∈ bg := bgf (List.mem_of_getElem? (i := 120) (by decide +kernel)) (by rfl)
theorem bg_1215 : (.code yX12_b1 cX12_b1 2 (some .int) : Cond) ∈ bg := bgf (tb_8 _ (List.mem_of_getElem? (i := 213) (by rfl))) (by rfl)
theorem bg_1216 : (.fieldLink RX12 456 "ClassGateModel" "codeAt" "I" : Cond) ∈ bg := bgf (tb_7 _ (List.mem_of_getElem? (i := 31) (by decide +kernel))) (by rfl)
theorem bg_1217 : (.code yX12_b2 cX12_b2 2 (some .int) : Cond) ∈ bg := bgf (tb_8 _ (List.mem_of_getElem? (i := 239) (by rfl))) (by rfl)
theorem bg_1218 : (.code yX12_s2 cX12_s2 2 (some .int) : Cond) ∈ bg := bgf (tb_9 _ (List.mem_of_getElem? (i := 15) (by rfl))) (by rfl)
theorem bg_1219 : (.methodLink RX12 459 yX12_b2 : Cond) ∈ bg := bgf (tb_8 _ (List.mem_of_getElem? (i := 236) (by decide +kernel))) (by rfl)
theorem bg_1220 : (.instanceMethod yX12_b2 : Cond) ∈ bg := bgf (tb_8 _ (List.mem_of_getElem? (i := 238) (by decide +kernel))) (by rfl)
theorem bg_1221 : (.selects RX12 yX12_b2 yX12_b2 : Cond) ∈ bg := bgf (List.mem_of_getElem? (i := 128) (by decide +kernel)) (by rfl)
theorem bg_1222 : (.code yX12_b4 cX12_b4 2 (some .int) : Cond) ∈ bg := bgf (tb_8 _ (List.mem_of_getElem? (i := 224) (by rfl))) (by rfl)
theorem bg_1223 : (.code yX12_pad cX12_pad 1 (some .int) : Cond) ∈ bg := bgf (tb_8 _ (List.mem_of_getElem? (i := 220) (by rfl))) (by rfl)
theorem bg_1224 : (.code yX12_noCode cX12_noCode 2 (some .boolean) : Cond) ∈ bg := bgf (tb_8 _ (List.mem_of_getElem? (i := 205) (by rfl))) (by rfl)
theorem bg_1225 : (.code yX12_cuts cX12_cuts 5 (some .boolean) : Cond) ∈ bg := bgf (tb_8 _ (List.mem_of_getElem? (i := 209) (by rfl))) (by rfl)
theorem bg_1226 : (.fieldLink RX12 462 "ClassGateModel" "wrongCode" "I" : Cond) ∈ bg := bgf (tb_7 _ (List.mem_of_getElem? (i := 30) (by decide +kernel))) (by rfl)
theorem bg_1227 : (.fieldLink RX12 465 "ClassGateModel" "codeLen" "I" : Cond) ∈ bg := bgf (tb_7 _ (List.mem_of_getElem? (i := 32) (by decide +kernel))) (by rfl)
theorem bg_1228 : (.fieldLink RX12 468 "ClassGateModel" "maxL" "I" : Cond) ∈ bg := bgf (tb_7 _ (List.mem_of_getElem? (i := 33) (by decide +kernel))) (by rfl)
theorem bg_1229 : (.fieldLink RX12 471 "ClassGateModel" "many" "I" : Cond) ∈ bg := bgf (tb_7 _ (List.mem_of_getElem? (i := 29) (by decide +kernel))) (by rfl)
theorem bg_1230 : (.methodLink RX12 474 yX12_b1 : Cond) ∈ bg := bgf (tb_8 _ (List.mem_of_getElem? (i := 210) (by decide +kernel))) (by rfl)
theorem bg_1231 : (.instanceMethod yX12_b1 : Cond) ∈ bg := bgf (tb_8 _ (List.mem_of_getElem? (i := 212) (by decide +kernel))) (by rfl)
theorem bg_1232 : (.selects RX12 yX12_b1 yX12_b1 : Cond) ∈ bg := bgf (List.mem_of_getElem? (i := 123) (by decide +kernel)) (by rfl)
theorem bg_1233 : (.methodLink RX12 477 yX12_formed : Cond) ∈ bg := bgf (tb_8 _ (List.mem_of_getElem? (i := 214) (by decide +kernel))) (by rfl)
theorem bg_1234 : (.code yX12_formed cX12_formed 7 (some .int) : Cond) ∈ bg := bgf (tb_8 _ (List.mem_of_getElem? (i := 217) (by rfl))) (by rfl)
theorem bg_1235 : (.instanceMethod yX12_formed : Cond) ∈ bg := bgf (tb_8 _ (List.mem_of_getElem? (i := 216) (by decide +kernel))) (by rfl)
theorem bg_1236 : (.selects RX12 yX12_formed yX12_formed : Cond) ∈ bg := bgf (List.mem_of_getElem? (i := 124) (by decide +kernel)) (by rfl)
theorem bg_1237 : (.methodLink RX12 482 yX12_operands : Cond) ∈ bg := bgf (tb_8 _ (List.mem_of_getElem? (i := 228) (by decide +kernel))) (by rfl)
theorem bg_1238 : (.code yX12_operands cX12_operands 6 (some .boolean) : Cond) ∈ bg := bgf (tb_8 _ (List.mem_of_getElem? (i := 231) (by rfl))) (by rfl)
theorem bg_1239 : (.instanceMethod yX12_operands : Cond) ∈ bg := bgf (tb_8 _ (List.mem_of_getElem? (i := 230) (by decide +kernel))) (by rfl)
theorem bg_1240 : (.selects RX12 yX12_operands yX12_operands : Cond) ∈ bg := bgf (List.mem_of_getElem? (i := 126) (by decide +kernel)) (by rfl)
theorem bg_1241 : (.methodLink RX12 485 yX12_aims : Cond) ∈ bg := bgf (tb_9 _ (List.mem_of_getElem? (i := 8) (by decide +kernel))) (by rfl)
theorem bg_1242 : (.code yX12_aims cX12_aims 4 (some .boolean) : Cond) ∈ bg := bgf (tb_9 _ (List.mem_of_getElem? (i := 11) (by rfl))) (by rfl)
theorem bg_1243 : (.instanceMethod yX12_aims : Cond) ∈ bg := bgf (tb_9 _ (List.mem_of_getElem? (i := 10) (by decide +kernel))) (by rfl)
theorem bg_1244 : (.selects RX12 yX12_aims yX12_aims : Cond) ∈ bg := bgf (List.mem_of_getElem? (i := 131) (by decide +kernel)) (by rfl)
theorem bg_1245 : (.methodLink RX12 488 yX12_pad : Cond) ∈ bg := bgf (tb_8 _ (List.mem_of_getElem? (i := 218) (by decide +kernel))) (by rfl)
theorem bg_1246 : (.static yX12_pad : Cond) ∈ bg := bgf (tb_8 _ (List.mem_of_getElem? (i := 219) (by decide +kernel))) (by rfl)
theorem bg_1247 : (.methodLink RX12 491 yX12_b4 : Cond) ∈ bg := bgf (tb_8 _ (List.mem_of_getElem? (i := 221) (by decide +kernel))) (by rfl)
theorem bg_1248 : (.instanceMethod yX12_b4 : Cond) ∈ bg := bgf (tb_8 _ (List.mem_of_getElem? (i := 223) (by decide +kernel))) (by rfl)
theorem bg_1249 : (.selects RX12 yX12_b4 yX12_b4 : Cond) ∈ bg := bgf (List.mem_of_getElem? (i := 125) (by decide +kernel)) (by rfl)
theorem bg_1250 : (.constantLong RX12 494 12 : Cond) ∈ bg := bgf (tb_8 _ (List.mem_of_getElem? (i := 225) (by decide +kernel))) (by rfl)
theorem bg_1251 : (.constantLong RX12 496 8 : Cond) ∈ bg := bgf (tb_8 _ (List.mem_of_getElem? (i := 226) (by decide +kernel))) (by rfl)
theorem bg_1252 : (.code yX12_local cX12_local 3 (some .boolean) : Cond) ∈ bg := bgf (tb_8 _ (List.mem_of_getElem? (i := 235) (by rfl))) (by rfl)
theorem bg_1253 : (.code yX12_nameOf cX12_nameOf 2 (some .int) : Cond) ∈ bg := bgf (tb_9 _ (List.mem_of_getElem? (i := 7) (by rfl))) (by rfl)
theorem bg_1254 : (.code yX12_descOf cX12_descOf 2 (some .int) : Cond) ∈ bg := bgf (tb_9 _ (List.mem_of_getElem? (i := 3) (by rfl))) (by rfl)
theorem bg_1255 : (.methodLink RX12 498 yX12_local : Cond) ∈ bg := bgf (tb_8 _ (List.mem_of_getElem? (i := 232) (by decide +kernel))) (by rfl)
theorem bg_1256 : (.instanceMethod yX12_local : Cond) ∈ bg := bgf (tb_8 _ (List.mem_of_getElem? (i := 234) (by decide +kernel))) (by rfl)
theorem bg_1257 : (.selects RX12 yX12_local yX12_local : Cond) ∈ bg := bgf (List.mem_of_getElem? (i := 127) (by decide +kernel)) (by rfl)
theorem bg_1258 : (.methodLink RX12 501 yX12_descOf : Cond) ∈ bg := bgf (tb_9 _ (List.mem_of_getElem? (i := 0) (by decide +kernel))) (by rfl)
theorem bg_1259 : (.instanceMethod yX12_descOf : Cond) ∈ bg := bgf (tb_9 _ (List.mem_of_getElem? (i := 2) (by decide +kernel))) (by rfl)
theorem bg_1260 : (.selects RX12 yX12_descOf yX12_descOf : Cond) ∈ bg := bgf (List.mem_of_getElem? (i := 129) (by decide +kernel)) (by rfl)
theorem bg_1261 : (.methodLink RX12 504 yX12_nameOf : Cond) ∈ bg := bgf (tb_9 _ (List.mem_of_getElem? (i := 4) (by decide +kernel))) (by rfl)
theorem bg_1262 : (.instanceMethod yX12_nameOf : Cond) ∈ bg := bgf (tb_9 _ (List.mem_of_getElem? (i := 6) (by decide +kernel))) (by rfl)
theorem bg_1263 : (.selects RX12 yX12_nameOf yX12_nameOf : Cond) ∈ bg := bgf (List.mem_of_getElem? (i := 130) (by decide +kernel)) (by rfl)
theorem bg_1264 : (.code yX12_starts cX12_starts 3 (some .boolean) : Cond) ∈ bg := bgf (tb_9 _ (List.mem_of_getElem? (i := 19) (by rfl))) (by rfl)
theorem bg_1265 : (.methodLink RX12 507 yX12_s2 : Cond) ∈ bg := bgf (tb_9 _ (List.mem_of_getElem? (i := 12) (by decide +kernel))) (by rfl)
theorem bg_1266 : (.instanceMethod yX12_s2 : Cond) ∈ bg := bgf (tb_9 _ (List.mem_of_getElem? (i := 14) (by decide +kernel))) (by rfl)
theorem bg_1267 : (.selects RX12 yX12_s2 yX12_s2 : Cond) ∈ bg := bgf (List.mem_of_getElem? (i := 132) (by decide +kernel)) (by rfl)
theorem bg_1268 : (.methodLink RX12 510 yX12_starts : Cond) ∈ bg := bgf (tb_9 _ (List.mem_of_getElem? (i := 16) (by decide +kernel))) (by rfl)
theorem bg_1269 : (.instanceMethod yX12_starts : Cond) ∈ bg := bgf (tb_9 _ (List.mem_of_getElem? (i := 18) (by decide +kernel))) (by rfl)
theorem bg_1270 : (.selects RX12 yX12_starts yX12_starts : Cond) ∈ bg := bgf (List.mem_of_getElem? (i := 133) (by decide +kernel)) (by rfl)
theorem bg_1271 : (.methodLink RX12 513 yX12_ways : Cond) ∈ bg := bgf (tb_9 _ (List.mem_of_getElem? (i := 20) (by decide +kernel))) (by rfl)
theorem bg_1272 : (.code yX12_ways cX12_ways 3 (some .int) : Cond) ∈ bg := bgf (tb_9 _ (List.mem_of_getElem? (i := 23) (by rfl))) (by rfl)
theorem bg_1273 : (.instanceMethod yX12_ways : Cond) ∈ bg := bgf (tb_9 _ (List.mem_of_getElem? (i := 22) (by decide +kernel))) (by rfl)
theorem bg_1274 : (.selects RX12 yX12_ways yX12_ways : Cond) ∈ bg := bgf (List.mem_of_getElem? (i := 134) (by decide +kernel)) (by rfl)
theorem bg_1275 : (.methodLink RX12 516 yX12_wayAt : Cond) ∈ bg := bgf (tb_9 _ (List.mem_of_getElem? (i := 24) (by decide +kernel))) (by rfl)
theorem bg_1276 : (.code yX12_wayAt cX12_wayAt 4 (some .int) : Cond) ∈ bg := bgf (tb_9 _ (List.mem_of_getElem? (i := 27) (by rfl))) (by rfl)
theorem bg_1277 : (.instanceMethod yX12_wayAt : Cond) ∈ bg := bgf (tb_9 _ (List.mem_of_getElem? (i := 26) (by decide +kernel))) (by rfl)
theorem bg_1278 : (.selects RX12 yX12_wayAt yX12_wayAt : Cond) ∈ bg := bgf (List.mem_of_getElem? (i := 135) (by decide +kernel)) (by rfl)
theorem bg_1279 : (.code yX12_cut cX12_cut 2 (some .int) : Cond) ∈ bg := bgf (tb_8 _ (List.mem_of_getElem? (i := 201) (by rfl))) (by rfl)
theorem bg_1280 : (.methodLink RX12 519 yX12_noCode : Cond) ∈ bg := bgf (tb_8 _ (List.mem_of_getElem? (i := 202) (by decide +kernel))) (by rfl)
theorem bg_1281 : (.instanceMethod yX12_noCode : Cond) ∈ bg := bgf (tb_8 _ (List.mem_of_getElem? (i := 204) (by decide +kernel))) (by rfl)
theorem bg_1282 : (.selects RX12 yX12_noCode yX12_noCode : Cond) ∈ bg := bgf (List.mem_of_getElem? (i := 121) (by decide +kernel)) (by rfl)
theorem bg_1283 : (.methodLink RX12 522 yX12_cuts : Cond) ∈ bg := bgf (tb_8 _ (List.mem_of_getElem? (i := 206) (by decide +kernel))) (by rfl)
theorem bg_1284 : (.instanceMethod yX12_cuts : Cond) ∈ bg := bgf (tb_8 _ (List.mem_of_getElem? (i := 208) (by decide +kernel))) (by rfl)
theorem bg_1285 : (.selects RX12 yX12_cuts yX12_cuts : Cond) ∈ bg := bgf (List.mem_of_getElem? (i := 122) (by decide +kernel)) (by rfl)
theorem bg_1286 : (.code yX12_instruction cX12_instruction 6 (some .int) : Cond) ∈ bg := bgf (tb_9 _ (List.mem_of_getElem? (i := 31) (by rfl))) (by rfl)
theorem bg_1287 : (.methodLink RX12 525 yX12_plain : Cond) ∈ bg := bgf (tb_9 _ (List.mem_of_getElem? (i := 32) (by decide +kernel))) (by rfl)
theorem bg_1288 : (.code yX12_plain cX12_plain 3 (some .int) : Cond) ∈ bg := bgf (tb_9 _ (List.mem_of_getElem? (i := 35) (by rfl))) (by rfl)
theorem bg_1289 : (.instanceMethod yX12_plain : Cond) ∈ bg := bgf (tb_9 _ (List.mem_of_getElem? (i := 34) (by decide +kernel))) (by rfl)
theorem bg_1290 : (.selects RX12 yX12_plain yX12_plain : Cond) ∈ bg := bgf (List.mem_of_getElem? (i := 136) (by decide +kernel)) (by rfl)
theorem bg_1291 : (.methodLink RX12 528 yX12_first : Cond) ∈ bg := bgf (tb_9 _ (List.mem_of_getElem? (i := 36) (by decide +kernel))) (by rfl)
theorem bg_1292 : (.code yX12_first cX12_first 3 (some .int) : Cond) ∈ bg := bgf (tb_9 _ (List.mem_of_getElem? (i := 39) (by rfl))) (by rfl)
theorem bg_1293 : (.instanceMethod yX12_first : Cond) ∈ bg := bgf (tb_9 _ (List.mem_of_getElem? (i := 38) (by decide +kernel))) (by rfl)
theorem bg_1294 : (.selects RX12 yX12_first yX12_first : Cond) ∈ bg := bgf (List.mem_of_getElem? (i := 137) (by decide +kernel)) (by rfl)
theorem bg_1295 : (.methodLink RX12 531 yX12_second : Cond) ∈ bg := bgf (tb_9 _ (List.mem_of_getElem? (i := 40) (by decide +kernel))) (by rfl)
theorem bg_1296 : (.code yX12_second cX12_second 3 (some .int) : Cond) ∈ bg := bgf (tb_9 _ (List.mem_of_getElem? (i := 43) (by rfl))) (by rfl)
theorem bg_1297 : (.instanceMethod yX12_second : Cond) ∈ bg := bgf (tb_9 _ (List.mem_of_getElem? (i := 42) (by decide +kernel))) (by rfl)
theorem bg_1298 : (.selects RX12 yX12_second yX12_second : Cond) ∈ bg := bgf (List.mem_of_getElem? (i := 138) (by decide +kernel)) (by rfl)
theorem bg_1299 : (.code yX12_jump cX12_jump 7 (some .int) : Cond) ∈ bg := bgf (tb_9 _ (List.mem_of_getElem? (i := 47) (by rfl))) (by rfl)
theorem bg_1300 : (.fieldLink RJ0 9 "java/lang/String" "value" "[B" : Cond) ∈ bg := bgf (tb_9 _ (List.mem_of_getElem? (i := 50) (by decide +kernel))) (by rfl)
theorem bg_1301 : (.methodLink RJ0 335 yJ0_coder_7d493 : Cond) ∈ bg := bgf (tb_3 _ (List.mem_of_getElem? (i := 121) (by decide +kernel))) (by rfl)
theorem bg_1302 : (.code yJ0_coder_7d493 cJ0_coder_7d493 1 (some .byte) : Cond) ∈ bg := bgf (tb_3 _ (List.mem_of_getElem? (i := 124) (by rfl))) (by rfl)
theorem bg_1303 : (.instanceMethod yJ0_coder_7d493 : Cond) ∈ bg := bgf (tb_3 _ (List.mem_of_getElem? (i := 122) (by decide +kernel))) (by rfl)
theorem bg_1304 : (.selects RJ0 yJ0_coder_7d493 yJ0_coder_7d493 : Cond) ∈ bg := bgf (tb_3 _ (List.mem_of_getElem? (i := 123) (by decide +kernel))) (by rfl)
theorem bg_1305 : (.methodLink RJ0 492 yJ0_isLatin1_aae02 : Cond) ∈ bg := bgf (tb_3 _ (List.mem_of_getElem? (i := 131) (by decide +kernel))) (by rfl)
theorem bg_1306 : (.code yJ0_isLatin1_aae02 cJ0_isLatin1_aae02 1 (some .boolean) : Cond) ∈ bg := bgf (tb_3 _ (List.mem_of_getElem? (i := 134) (by rfl))) (by rfl)
theorem bg_1307 : (.instanceMethod yJ0_isLatin1_aae02 : Cond) ∈ bg := bgf (tb_3 _ (List.mem_of_getElem? (i := 132) (by decide +kernel))) (by rfl)
theorem bg_1308 : (.selects RJ0 yJ0_isLatin1_aae02 yJ0_isLatin1_aae02 : Cond) ∈ bg := bgf (tb_3 _ (List.mem_of_getElem? (i := 133) (by decide +kernel))) (by rfl)
theorem bg_1309 : (.methodLink RJ0 495 yJ1_charAt_3b067 : Cond) ∈ bg := bgf (tb_3 _ (List.mem_of_getElem? (i := 135) (by decide +kernel))) (by rfl)
theorem bg_1310 : (.code yJ1_charAt_3b067 cJ1_charAt_3b067 2 (some .char) : Cond) ∈ bg := bgf (tb_3 _ (List.mem_of_getElem? (i := 137) (by rfl))) (by rfl)
theorem bg_1311 : (.static yJ1_charAt_3b067 : Cond) ∈ bg := bgf (tb_3 _ (List.mem_of_getElem? (i := 136) (by decide +kernel))) (by rfl)
theorem bg_1312 : (.initialized RJ1 : Cond) ∈ bg := bgf (tb_1 _ (List.mem_of_getElem? (i := 4) (by decide +kernel))) (by rfl)
theorem bg_1313 : (.fieldLink RJ0 38 "java/lang/String" "COMPACT_STRINGS" "Z" : Cond) ∈ bg := bgf (tb_3 _ (List.mem_of_getElem? (i := 125) (by decide +kernel))) (by rfl)
theorem bg_1314 : (.fieldLink RJ0 15 "java/lang/String" "coder" "B" : Cond) ∈ bg := bgf (tb_9 _ (List.mem_of_getElem? (i := 51) (by decide +kernel))) (by rfl)
theorem bg_1315 : (.code yJ0_checkIndex_df160 cJ0_checkIndex_df160 2 none : Cond) ∈ bg := bgf (tb_3 _ (List.mem_of_getElem? (i := 140) (by rfl))) (by rfl)
theorem bg_1316 : (.fieldLink RJ0 1053 "jdk/internal/util/Preconditions" "SIOOBE_FORMATTER" "Ljava/util/function/BiFunction;" : Cond) ∈ bg := bgf (tb_3 _ (List.mem_of_getElem? (i := 141) (by decide +kernel))) (by rfl)
theorem bg_1317 : (.methodLink RJ0 1059 yJ3_checkIndex_8e157 : Cond) ∈ bg := bgf (tb_3 _ (List.mem_of_getElem? (i := 143) (by decide +kernel))) (by rfl)
theorem bg_1318 : (.code yJ3_checkIndex_8e157 cJ3_checkIndex_8e157 3 (some .int) : Cond) ∈ bg := bgf (tb_3 _ (List.mem_of_getElem? (i := 145) (by rfl))) (by rfl)
theorem bg_1319 : (.static yJ3_checkIndex_8e157 : Cond) ∈ bg := bgf (tb_3 _ (List.mem_of_getElem? (i := 144) (by decide +kernel))) (by rfl)
theorem bg_1320 : (.initialized RJ3 : Cond) ∈ bg := bgf (tb_1 _ (List.mem_of_getElem? (i := 5) (by decide +kernel))) (by rfl)
theorem bg_1321 : (.methodLink RJ1 9 yJ0_checkIndex_df160 : Cond) ∈ bg := bgf (tb_3 _ (List.mem_of_getElem? (i := 138) (by decide +kernel))) (by rfl)
theorem bg_1322 : (.static yJ0_checkIndex_df160 : Cond) ∈ bg := bgf (tb_3 _ (List.mem_of_getElem? (i := 139) (by decide +kernel))) (by rfl)
theorem bg_1323 : (.codeWith yL_feed cL_feed 8 (some .int) [(0, 16, 19, 13)] : Cond) ∈ bg := bgf (tb_5 _ (List.mem_of_getElem? (i := 209) (by rfl))) (by rfl)
theorem bg_1324 : (.methodLink RL 7 yX11_feed : Cond) ∈ bg := bgf (tb_5 _ (List.mem_of_getElem? (i := 211) (by decide +kernel))) (by rfl)
theorem bg_1325 : (.instanceMethod yX11_feed : Cond) ∈ bg := bgf (tb_5 _ (List.mem_of_getElem? (i := 212) (by decide +kernel))) (by rfl)
theorem bg_1326 : (.selects RX11 yX11_feed yX11_feed : Cond) ∈ bg := bgf (tb_5 _ (List.mem_of_getElem? (i := 213) (by decide +kernel))) (by rfl)
theorem bg_1327 : (.codeWith yL_end cL_end 4 (some .int) [(0, 9, 12, 19)] : Cond) ∈ bg := bgf (tb_6 _ (List.mem_of_getElem? (i := 62) (by rfl))) (by rfl)
theorem bg_1328 : (.methodLink RL 15 yX11_end : Cond) ∈ bg := bgf (tb_6 _ (List.mem_of_getElem? (i := 64) (by decide +kernel))) (by rfl)
theorem bg_1329 : (.instanceMethod yX11_end : Cond) ∈ bg := bgf (tb_6 _ (List.mem_of_getElem? (i := 65) (by decide +kernel))) (by rfl)
theorem bg_1330 : (.selects RX11 yX11_end yX11_end : Cond) ∈ bg := bgf (tb_6 _ (List.mem_of_getElem? (i := 66) (by decide +kernel))) (by rfl)
theorem bg_1331 : (.codeWith yL_count cL_count 4 (some .int) [(0, 9, 12, 19)] : Cond) ∈ bg := bgf (tb_6 _ (List.mem_of_getElem? (i := 86) (by rfl))) (by rfl)
theorem bg_1332 : (.methodLink RL 21 yX11_count : Cond) ∈ bg := bgf (tb_6 _ (List.mem_of_getElem? (i := 87) (by decide +kernel))) (by rfl)
theorem bg_1333 : (.instanceMethod yX11_count : Cond) ∈ bg := bgf (tb_6 _ (List.mem_of_getElem? (i := 88) (by decide +kernel))) (by rfl)
theorem bg_1334 : (.selects RX11 yX11_count yX11_count : Cond) ∈ bg := bgf (tb_6 _ (List.mem_of_getElem? (i := 89) (by decide +kernel))) (by rfl)
theorem bg_1335 : (.codeWith yL_entry cL_entry 5 (some .int) [(0, 10, 13, 19)] : Cond) ∈ bg := bgf (tb_6 _ (List.mem_of_getElem? (i := 102) (by rfl))) (by rfl)
theorem bg_1336 : (.methodLink RL 24 yX11_entry : Cond) ∈ bg := bgf (tb_6 _ (List.mem_of_getElem? (i := 103) (by decide +kernel))) (by rfl)
theorem bg_1337 : (.instanceMethod yX11_entry : Cond) ∈ bg := bgf (tb_6 _ (List.mem_of_getElem? (i := 104) (by decide +kernel))) (by rfl)
theorem bg_1338 : (.selects RX11 yX11_entry yX11_entry : Cond) ∈ bg := bgf (tb_6 _ (List.mem_of_getElem? (i := 105) (by decide +kernel))) (by rfl)
theorem bg_1339 : (.codeWith yL_member cL_member 6 (some .int) [(0, 12, 15, 19)] : Cond) ∈ bg := bgf (tb_6 _ (List.mem_of_getElem? (i := 112) (by rfl))) (by rfl)
theorem bg_1340 : (.methodLink RL 28 yX11_member : Cond) ∈ bg := bgf (tb_6 _ (List.mem_of_getElem? (i := 113) (by decide +kernel))) (by rfl)
theorem bg_1341 : (.instanceMethod yX11_member : Cond) ∈ bg := bgf (tb_6 _ (List.mem_of_getElem? (i := 114) (by decide +kernel))) (by rfl)
theorem bg_1342 : (.selects RX11 yX11_member yX11_member : Cond) ∈ bg := bgf (tb_6 _ (List.mem_of_getElem? (i := 115) (by decide +kernel))) (by rfl)
theorem bg_1343 : (.codeWith yL_row cL_row 6 (some .int) [(0, 12, 15, 19)] : Cond) ∈ bg := bgf (tb_6 _ (List.mem_of_getElem? (i := 128) (by rfl))) (by rfl)
theorem bg_1344 : (.methodLink RL 32 yX11_row : Cond) ∈ bg := bgf (tb_6 _ (List.mem_of_getElem? (i := 129) (by decide +kernel))) (by rfl)
theorem bg_1345 : (.instanceMethod yX11_row : Cond) ∈ bg := bgf (tb_6 _ (List.mem_of_getElem? (i := 130) (by decide +kernel))) (by rfl)
theorem bg_1346 : (.selects RX11 yX11_row yX11_row : Cond) ∈ bg := bgf (tb_6 _ (List.mem_of_getElem? (i := 131) (by decide +kernel))) (by rfl)
theorem bg_1347 : (.codeWith yL_instruction cL_instruction 6 (some .int) [(0, 12, 15, 19)] : Cond) ∈ bg := bgf (tb_6 _ (List.mem_of_getElem? (i := 137) (by rfl))) (by rfl)
theorem bg_1348 : (.methodLink RL 36 yX11_instruction : Cond) ∈ bg := bgf (tb_6 _ (List.mem_of_getElem? (i := 138) (by decide +kernel))) (by rfl)
theorem bg_1349 : (.instanceMethod yX11_instruction : Cond) ∈ bg := bgf (tb_6 _ (List.mem_of_getElem? (i := 139) (by decide +kernel))) (by rfl)
theorem bg_1350 : (.selects RX11 yX11_instruction yX11_instruction : Cond) ∈ bg := bgf (tb_6 _ (List.mem_of_getElem? (i := 140) (by decide +kernel))) (by rfl)
theorem bg_1351 : (.classLink RL 8 RX11 : Cond) ∈ bg := bgf (tb_1 _ (List.mem_of_getElem? (i := 27) (by decide +kernel))) (by rfl)
theorem bg_1352 : (.instantiable RX11 5 : Cond) ∈ bg := bgf (tb_1 _ (List.mem_of_getElem? (i := 28) (by decide +kernel))) (by rfl)
theorem bg_1353 : (.methodLink RL 39 yX11_init : Cond) ∈ bg := bgf (tb_1 _ (List.mem_of_getElem? (i := 29) (by decide +kernel))) (by rfl)
theorem bg_1354 : (.instanceMethod yX11_init : Cond) ∈ bg := bgf (tb_1 _ (List.mem_of_getElem? (i := 30) (by decide +kernel))) (by rfl)
theorem bg_1355 : (.classLink RL 40 RX12 : Cond) ∈ bg := bgf (tb_6 _ (List.mem_of_getElem? (i := 155) (by decide +kernel))) (by rfl)
theorem bg_1356 : (.instantiable RX12 82 : Cond) ∈ bg := bgf (tb_6 _ (List.mem_of_getElem? (i := 156) (by decide +kernel))) (by rfl)
theorem bg_1357 : (.methodLink RL 42 yX12_init : Cond) ∈ bg := bgf (tb_6 _ (List.mem_of_getElem? (i := 157) (by decide +kernel))) (by rfl)
theorem bg_1358 : (.instanceMethod yX12_init : Cond) ∈ bg := bgf (tb_6 _ (List.mem_of_getElem? (i := 158) (by decide +kernel))) (by rfl)
theorem bg_1359 : (.arrayClass .long : Cond) ∈ bg := bgf (tb_9 _ (List.mem_of_getElem? (i := 48) (by decide +kernel))) (by rfl)
theorem bg_1360 : (.methodLink RL 43 yL_feed : Cond) ∈ bg := bgf (tb_5 _ (List.mem_of_getElem? (i := 207) (by decide +kernel))) (by rfl)
theorem bg_1361 : (.static yL_feed : Cond) ∈ bg := bgf (tb_5 _ (List.mem_of_getElem? (i := 208) (by decide +kernel))) (by rfl)
theorem bg_1362 : (.initialized RL : Cond) ∈ bg := bgf (tb_1 _ (List.mem_of_getElem? (i := 0) (by decide +kernel))) (by rfl)
theorem bg_1363 : (.methodLink RL 48 yX12_feed : Cond) ∈ bg := bgf (tb_7 _ (List.mem_of_getElem? (i := 201) (by decide +kernel))) (by rfl)
theorem bg_1364 : (.instanceMethod yX12_feed : Cond) ∈ bg := bgf (tb_7 _ (List.mem_of_getElem? (i := 202) (by decide +kernel))) (by rfl)
theorem bg_1365 : (.selects RX12 yX12_feed yX12_feed : Cond) ∈ bg := bgf (tb_7 _ (List.mem_of_getElem? (i := 203) (by decide +kernel))) (by rfl)
theorem bg_1366 : (.methodLink RL 49 yL_end : Cond) ∈ bg := bgf (tb_6 _ (List.mem_of_getElem? (i := 60) (by decide +kernel))) (by rfl)
theorem bg_1367 : (.static yL_end : Cond) ∈ bg := bgf (tb_6 _ (List.mem_of_getElem? (i := 61) (by decide +kernel))) (by rfl)
theorem bg_1368 : (.methodLink RL 52 yX12_end : Cond) ∈ bg := bgf (tb_7 _ (List.mem_of_getElem? (i := 209) (by decide +kernel))) (by rfl)
theorem bg_1369 : (.instanceMethod yX12_end : Cond) ∈ bg := bgf (tb_7 _ (List.mem_of_getElem? (i := 210) (by decide +kernel))) (by rfl)
theorem bg_1370 : (.selects RX12 yX12_end yX12_end : Cond) ∈ bg := bgf (tb_7 _ (List.mem_of_getElem? (i := 211) (by decide +kernel))) (by rfl)
theorem bg_1371 : (.methodLink RL 53 yX11_read : Cond) ∈ bg := bgf (tb_1 _ (List.mem_of_getElem? (i := 54) (by decide +kernel))) (by rfl)
theorem bg_1372 : (.instanceMethod yX11_read : Cond) ∈ bg := bgf (tb_1 _ (List.mem_of_getElem? (i := 55) (by decide +kernel))) (by rfl)
theorem bg_1373 : (.selects RX11 yX11_read yX11_read : Cond) ∈ bg := bgf (tb_1 _ (List.mem_of_getElem? (i := 56) (by decide +kernel))) (by rfl)
theorem bg_1374 : (.methodLink RL 57 yX12_read : Cond) ∈ bg := bgf (tb_7 _ (List.mem_of_getElem? (i := 217) (by decide +kernel))) (by rfl)
theorem bg_1375 : (.instanceMethod yX12_read : Cond) ∈ bg := bgf (tb_7 _ (List.mem_of_getElem? (i := 218) (by decide +kernel))) (by rfl)
theorem bg_1376 : (.selects RX12 yX12_read yX12_read : Cond) ∈ bg := bgf (tb_7 _ (List.mem_of_getElem? (i := 219) (by decide +kernel))) (by rfl)
theorem bg_1377 : (.methodLink RL 58 yX11_place : Cond) ∈ bg := bgf (tb_5 _ (List.mem_of_getElem? (i := 26) (by decide +kernel))) (by rfl)
theorem bg_1378 : (.instanceMethod yX11_place : Cond) ∈ bg := bgf (tb_5 _ (List.mem_of_getElem? (i := 27) (by decide +kernel))) (by rfl)
theorem bg_1379 : (.selects RX11 yX11_place yX11_place : Cond) ∈ bg := bgf (tb_5 _ (List.mem_of_getElem? (i := 28) (by decide +kernel))) (by rfl)
theorem bg_1380 : (.methodLink RL 61 yX12_place : Cond) ∈ bg := bgf (tb_8 _ (List.mem_of_getElem? (i := 154) (by decide +kernel))) (by rfl)
theorem bg_1381 : (.instanceMethod yX12_place : Cond) ∈ bg := bgf (tb_8 _ (List.mem_of_getElem? (i := 155) (by decide +kernel))) (by rfl)
theorem bg_1382 : (.selects RX12 yX12_place yX12_place : Cond) ∈ bg := bgf (tb_8 _ (List.mem_of_getElem? (i := 156) (by decide +kernel))) (by rfl)
theorem bg_1383 : (.methodLink RL 62 yL_count : Cond) ∈ bg := bgf (tb_6 _ (List.mem_of_getElem? (i := 84) (by decide +kernel))) (by rfl)
theorem bg_1384 : (.static yL_count : Cond) ∈ bg := bgf (tb_6 _ (List.mem_of_getElem? (i := 85) (by decide +kernel))) (by rfl)
theorem bg_1385 : (.methodLink RL 64 yX12_count : Cond) ∈ bg := bgf (tb_8 _ (List.mem_of_getElem? (i := 158) (by decide +kernel))) (by rfl)
theorem bg_1386 : (.instanceMethod yX12_count : Cond) ∈ bg := bgf (tb_8 _ (List.mem_of_getElem? (i := 159) (by decide +kernel))) (by rfl)
theorem bg_1387 : (.selects RX12 yX12_count yX12_count : Cond) ∈ bg := bgf (tb_8 _ (List.mem_of_getElem? (i := 160) (by decide +kernel))) (by rfl)
theorem bg_1388 : (.methodLink RL 65 yL_entry : Cond) ∈ bg := bgf (tb_6 _ (List.mem_of_getElem? (i := 100) (by decide +kernel))) (by rfl)
theorem bg_1389 : (.static yL_entry : Cond) ∈ bg := bgf (tb_6 _ (List.mem_of_getElem? (i := 101) (by decide +kernel))) (by rfl)
theorem bg_1390 : (.methodLink RL 68 yX12_entry : Cond) ∈ bg := bgf (tb_8 _ (List.mem_of_getElem? (i := 162) (by decide +kernel))) (by rfl)
theorem bg_1391 : (.instanceMethod yX12_entry : Cond) ∈ bg := bgf (tb_8 _ (List.mem_of_getElem? (i := 163) (by decide +kernel))) (by rfl)
theorem bg_1392 : (.selects RX12 yX12_entry yX12_entry : Cond) ∈ bg := bgf (tb_8 _ (List.mem_of_getElem? (i := 164) (by decide +kernel))) (by rfl)
theorem bg_1393 : (.methodLink RL 69 yX11_bits : Cond) ∈ bg := bgf (tb_5 _ (List.mem_of_getElem? (i := 30) (by decide +kernel))) (by rfl)
theorem bg_1394 : (.instanceMethod yX11_bits : Cond) ∈ bg := bgf (tb_5 _ (List.mem_of_getElem? (i := 31) (by decide +kernel))) (by rfl)
theorem bg_1395 : (.selects RX11 yX11_bits yX11_bits : Cond) ∈ bg := bgf (tb_5 _ (List.mem_of_getElem? (i := 32) (by decide +kernel))) (by rfl)
theorem bg_1396 : (.methodLink RL 73 yX12_bits : Cond) ∈ bg := bgf (tb_8 _ (List.mem_of_getElem? (i := 166) (by decide +kernel))) (by rfl)
theorem bg_1397 : (.instanceMethod yX12_bits : Cond) ∈ bg := bgf (tb_8 _ (List.mem_of_getElem? (i := 167) (by decide +kernel))) (by rfl)
theorem bg_1398 : (.selects RX12 yX12_bits yX12_bits : Cond) ∈ bg := bgf (tb_8 _ (List.mem_of_getElem? (i := 168) (by decide +kernel))) (by rfl)
theorem bg_1399 : (.methodLink RL 74 yX11_character : Cond) ∈ bg := bgf (tb_5 _ (List.mem_of_getElem? (i := 38) (by decide +kernel))) (by rfl)
theorem bg_1400 : (.instanceMethod yX11_character : Cond) ∈ bg := bgf (tb_5 _ (List.mem_of_getElem? (i := 39) (by decide +kernel))) (by rfl)
theorem bg_1401 : (.selects RX11 yX11_character yX11_character : Cond) ∈ bg := bgf (tb_5 _ (List.mem_of_getElem? (i := 40) (by decide +kernel))) (by rfl)
theorem bg_1402 : (.methodLink RL 77 yX12_character : Cond) ∈ bg := bgf (tb_8 _ (List.mem_of_getElem? (i := 170) (by decide +kernel))) (by rfl)
theorem bg_1403 : (.instanceMethod yX12_character : Cond) ∈ bg := bgf (tb_8 _ (List.mem_of_getElem? (i := 171) (by decide +kernel))) (by rfl)
theorem bg_1404 : (.selects RX12 yX12_character yX12_character : Cond) ∈ bg := bgf (tb_8 _ (List.mem_of_getElem? (i := 172) (by decide +kernel))) (by rfl)
theorem bg_1405 : (.methodLink RL 78 yX11_places : Cond) ∈ bg := bgf (tb_5 _ (List.mem_of_getElem? (i := 43) (by decide +kernel))) (by rfl)
theorem bg_1406 : (.instanceMethod yX11_places : Cond) ∈ bg := bgf (tb_5 _ (List.mem_of_getElem? (i := 44) (by decide +kernel))) (by rfl)
theorem bg_1407 : (.selects RX11 yX11_places yX11_places : Cond) ∈ bg := bgf (tb_5 _ (List.mem_of_getElem? (i := 45) (by decide +kernel))) (by rfl)
theorem bg_1408 : (.methodLink RL 81 yX12_places : Cond) ∈ bg := bgf (tb_8 _ (List.mem_of_getElem? (i := 190) (by decide +kernel))) (by rfl)
theorem bg_1409 : (.instanceMethod yX12_places : Cond) ∈ bg := bgf (tb_8 _ (List.mem_of_getElem? (i := 191) (by decide +kernel))) (by rfl)
theorem bg_1410 : (.selects RX12 yX12_places yX12_places : Cond) ∈ bg := bgf (tb_8 _ (List.mem_of_getElem? (i := 192) (by decide +kernel))) (by rfl)
theorem bg_1411 : (.methodLink RL 82 yL_member : Cond) ∈ bg := bgf (tb_6 _ (List.mem_of_getElem? (i := 110) (by decide +kernel))) (by rfl)
theorem bg_1412 : (.static yL_member : Cond) ∈ bg := bgf (tb_6 _ (List.mem_of_getElem? (i := 111) (by decide +kernel))) (by rfl)
theorem bg_1413 : (.methodLink RL 85 yX12_member : Cond) ∈ bg := bgf (tb_8 _ (List.mem_of_getElem? (i := 174) (by decide +kernel))) (by rfl)
theorem bg_1414 : (.instanceMethod yX12_member : Cond) ∈ bg := bgf (tb_8 _ (List.mem_of_getElem? (i := 175) (by decide +kernel))) (by rfl)
theorem bg_1415 : (.selects RX12 yX12_member yX12_member : Cond) ∈ bg := bgf (tb_8 _ (List.mem_of_getElem? (i := 176) (by decide +kernel))) (by rfl)
theorem bg_1416 : (.methodLink RL 86 yX11_find : Cond) ∈ bg := bgf (tb_5 _ (List.mem_of_getElem? (i := 51) (by decide +kernel))) (by rfl)
theorem bg_1417 : (.instanceMethod yX11_find : Cond) ∈ bg := bgf (tb_5 _ (List.mem_of_getElem? (i := 52) (by decide +kernel))) (by rfl)
theorem bg_1418 : (.selects RX11 yX11_find yX11_find : Cond) ∈ bg := bgf (tb_5 _ (List.mem_of_getElem? (i := 53) (by decide +kernel))) (by rfl)
theorem bg_1419 : (.methodLink RL 89 yX12_find : Cond) ∈ bg := bgf (tb_8 _ (List.mem_of_getElem? (i := 178) (by decide +kernel))) (by rfl)
theorem bg_1420 : (.instanceMethod yX12_find : Cond) ∈ bg := bgf (tb_8 _ (List.mem_of_getElem? (i := 179) (by decide +kernel))) (by rfl)
theorem bg_1421 : (.selects RX12 yX12_find yX12_find : Cond) ∈ bg := bgf (tb_8 _ (List.mem_of_getElem? (i := 180) (by decide +kernel))) (by rfl)
theorem bg_1422 : (.methodLink RL 90 yL_row : Cond) ∈ bg := bgf (tb_6 _ (List.mem_of_getElem? (i := 126) (by decide +kernel))) (by rfl)
theorem bg_1423 : (.static yL_row : Cond) ∈ bg := bgf (tb_6 _ (List.mem_of_getElem? (i := 127) (by decide +kernel))) (by rfl)
theorem bg_1424 : (.methodLink RL 93 yX12_row : Cond) ∈ bg := bgf (tb_8 _ (List.mem_of_getElem? (i := 182) (by decide +kernel))) (by rfl)
theorem bg_1425 : (.instanceMethod yX12_row : Cond) ∈ bg := bgf (tb_8 _ (List.mem_of_getElem? (i := 183) (by decide +kernel))) (by rfl)
theorem bg_1426 : (.selects RX12 yX12_row yX12_row : Cond) ∈ bg := bgf (tb_8 _ (List.mem_of_getElem? (i := 184) (by decide +kernel))) (by rfl)
theorem bg_1427 : (.methodLink RL 94 yX12_thrown : Cond) ∈ bg := bgf (tb_6 _ (List.mem_of_getElem? (i := 151) (by decide +kernel))) (by rfl)
theorem bg_1428 : (.instanceMethod yX12_thrown : Cond) ∈ bg := bgf (tb_6 _ (List.mem_of_getElem? (i := 152) (by decide +kernel))) (by rfl)
theorem bg_1429 : (.selects RX12 yX12_thrown yX12_thrown : Cond) ∈ bg := bgf (tb_6 _ (List.mem_of_getElem? (i := 153) (by decide +kernel))) (by rfl)
theorem bg_1430 : (.methodLink RL 97 yX11_bootstrap : Cond) ∈ bg := bgf (tb_5 _ (List.mem_of_getElem? (i := 56) (by decide +kernel))) (by rfl)
theorem bg_1431 : (.instanceMethod yX11_bootstrap : Cond) ∈ bg := bgf (tb_5 _ (List.mem_of_getElem? (i := 57) (by decide +kernel))) (by rfl)
theorem bg_1432 : (.selects RX11 yX11_bootstrap yX11_bootstrap : Cond) ∈ bg := bgf (tb_5 _ (List.mem_of_getElem? (i := 58) (by decide +kernel))) (by rfl)
theorem bg_1433 : (.methodLink RL 100 yX12_bootstrap : Cond) ∈ bg := bgf (tb_8 _ (List.mem_of_getElem? (i := 186) (by decide +kernel))) (by rfl)
theorem bg_1434 : (.instanceMethod yX12_bootstrap : Cond) ∈ bg := bgf (tb_8 _ (List.mem_of_getElem? (i := 187) (by decide +kernel))) (by rfl)
theorem bg_1435 : (.selects RX12 yX12_bootstrap yX12_bootstrap : Cond) ∈ bg := bgf (tb_8 _ (List.mem_of_getElem? (i := 188) (by decide +kernel))) (by rfl)
theorem bg_1436 : (.methodLink RL 101 yX11_cut : Cond) ∈ bg := bgf (tb_5 _ (List.mem_of_getElem? (i := 64) (by decide +kernel))) (by rfl)
theorem bg_1437 : (.instanceMethod yX11_cut : Cond) ∈ bg := bgf (tb_5 _ (List.mem_of_getElem? (i := 65) (by decide +kernel))) (by rfl)
theorem bg_1438 : (.selects RX11 yX11_cut yX11_cut : Cond) ∈ bg := bgf (tb_5 _ (List.mem_of_getElem? (i := 66) (by decide +kernel))) (by rfl)
theorem bg_1439 : (.methodLink RL 104 yX12_cut : Cond) ∈ bg := bgf (tb_8 _ (List.mem_of_getElem? (i := 198) (by decide +kernel))) (by rfl)
theorem bg_1440 : (.instanceMethod yX12_cut : Cond) ∈ bg := bgf (tb_8 _ (List.mem_of_getElem? (i := 199) (by decide +kernel))) (by rfl)
theorem bg_1441 : (.selects RX12 yX12_cut yX12_cut : Cond) ∈ bg := bgf (tb_8 _ (List.mem_of_getElem? (i := 200) (by decide +kernel))) (by rfl)
theorem bg_1442 : (.methodLink RL 105 yL_instruction : Cond) ∈ bg := bgf (tb_6 _ (List.mem_of_getElem? (i := 135) (by decide +kernel))) (by rfl)
theorem bg_1443 : (.static yL_instruction : Cond) ∈ bg := bgf (tb_6 _ (List.mem_of_getElem? (i := 136) (by decide +kernel))) (by rfl)
theorem bg_1444 : (.methodLink RL 107 yX12_instruction : Cond) ∈ bg := bgf (tb_9 _ (List.mem_of_getElem? (i := 28) (by decide +kernel))) (by rfl)
theorem bg_1445 : (.instanceMethod yX12_instruction : Cond) ∈ bg := bgf (tb_9 _ (List.mem_of_getElem? (i := 29) (by decide +kernel))) (by rfl)
theorem bg_1446 : (.selects RX12 yX12_instruction yX12_instruction : Cond) ∈ bg := bgf (tb_9 _ (List.mem_of_getElem? (i := 30) (by decide +kernel))) (by rfl)
theorem bg_1447 : (.methodLink RL 108 yX11_jump : Cond) ∈ bg := bgf (tb_5 _ (List.mem_of_getElem? (i := 193) (by decide +kernel))) (by rfl)
theorem bg_1448 : (.instanceMethod yX11_jump : Cond) ∈ bg := bgf (tb_5 _ (List.mem_of_getElem? (i := 194) (by decide +kernel))) (by rfl)
theorem bg_1449 : (.selects RX11 yX11_jump yX11_jump : Cond) ∈ bg := bgf (tb_5 _ (List.mem_of_getElem? (i := 195) (by decide +kernel))) (by rfl)
theorem bg_1450 : (.methodLink RL 112 yX12_jump : Cond) ∈ bg := bgf (tb_9 _ (List.mem_of_getElem? (i := 44) (by decide +kernel))) (by rfl)
theorem bg_1451 : (.instanceMethod yX12_jump : Cond) ∈ bg := bgf (tb_9 _ (List.mem_of_getElem? (i := 45) (by decide +kernel))) (by rfl)
theorem bg_1452 : (.selects RX12 yX12_jump yX12_jump : Cond) ∈ bg := bgf (tb_9 _ (List.mem_of_getElem? (i := 46) (by decide +kernel))) (by rfl)
theorem bg_1453 : (.laysFinal RX0 "ClassGate$AttributeCheck" "file" "LClassGate$ClassFile;" : Cond) ∈ bg := bgf (tb_2 _ (List.mem_of_getElem? (i := 234) (by decide +kernel))) (by rfl)
theorem bg_1454 : (.laysFinal RX0 "ClassGate$AttributeCheck" "bytes" "LClassGate$Bytes;" : Cond) ∈ bg := bgf (tb_2 _ (List.mem_of_getElem? (i := 236) (by decide +kernel))) (by rfl)
theorem bg_1455 : (.laysFinal RX0 "ClassGate$AttributeCheck" "pool" "LClassGate$Pool;" : Cond) ∈ bg := bgf (tb_2 _ (List.mem_of_getElem? (i := 238) (by decide +kernel))) (by rfl)
theorem bg_1456 : (.laysFinal RX0 "ClassGate$AttributeCheck" "verdict" "LClassGate$Verdict;" : Cond) ∈ bg := bgf (tb_3 _ (List.mem_of_getElem? (i := 0) (by decide +kernel))) (by rfl)
theorem bg_1457 : (.lays RX0 "ClassGate$AttributeCheck" "seen" "I" : Cond) ∈ bg := bgf (tb_3 _ (List.mem_of_getElem? (i := 2) (by decide +kernel))) (by rfl)
theorem bg_1458 : (.laysFinal RX1 "ClassGate$Bytes" "data" "[B" : Cond) ∈ bg := bgf (tb_1 _ (List.mem_of_getElem? (i := 67) (by decide +kernel))) (by rfl)
theorem bg_1459 : (.laysFinal RX2 "ClassGate$ClassCheck" "file" "LClassGate$ClassFile;" : Cond) ∈ bg := bgf (tb_3 _ (List.mem_of_getElem? (i := 16) (by decide +kernel))) (by rfl)
theorem bg_1460 : (.laysFinal RX2 "ClassGate$ClassCheck" "bytes" "LClassGate$Bytes;" : Cond) ∈ bg := bgf (tb_3 _ (List.mem_of_getElem? (i := 18) (by decide +kernel))) (by rfl)
theorem bg_1461 : (.laysFinal RX2 "ClassGate$ClassCheck" "pool" "LClassGate$Pool;" : Cond) ∈ bg := bgf (tb_3 _ (List.mem_of_getElem? (i := 20) (by decide +kernel))) (by rfl)
theorem bg_1462 : (.laysFinal RX2 "ClassGate$ClassCheck" "verdict" "LClassGate$Verdict;" : Cond) ∈ bg := bgf (tb_3 _ (List.mem_of_getElem? (i := 22) (by decide +kernel))) (by rfl)
theorem bg_1463 : (.laysFinal RX2 "ClassGate$ClassCheck" "attributeCheck" "LClassGate$AttributeCheck;" : Cond) ∈ bg := bgf (tb_3 _ (List.mem_of_getElem? (i := 24) (by decide +kernel))) (by rfl)
theorem bg_1464 : (.laysFinal RX3 "ClassGate$ClassFile" "bytes" "LClassGate$Bytes;" : Cond) ∈ bg := bgf (tb_1 _ (List.mem_of_getElem? (i := 175) (by decide +kernel))) (by rfl)
theorem bg_1465 : (.lays RX3 "ClassGate$ClassFile" "pool" "LClassGate$Pool;" : Cond) ∈ bg := bgf (tb_1 _ (List.mem_of_getElem? (i := 177) (by decide +kernel))) (by rfl)
theorem bg_1466 : (.lays RX3 "ClassGate$ClassFile" "minor" "I" : Cond) ∈ bg := bgf (tb_1 _ (List.mem_of_getElem? (i := 179) (by decide +kernel))) (by rfl)
theorem bg_1467 : (.lays RX3 "ClassGate$ClassFile" "major" "I" : Cond) ∈ bg := bgf (tb_1 _ (List.mem_of_getElem? (i := 181) (by decide +kernel))) (by rfl)
theorem bg_1468 : (.lays RX3 "ClassGate$ClassFile" "flagsAt" "I" : Cond) ∈ bg := bgf (tb_1 _ (List.mem_of_getElem? (i := 183) (by decide +kernel))) (by rfl)
theorem bg_1469 : (.lays RX3 "ClassGate$ClassFile" "interfaceCount" "I" : Cond) ∈ bg := bgf (tb_1 _ (List.mem_of_getElem? (i := 185) (by decide +kernel))) (by rfl)
theorem bg_1470 : (.lays RX3 "ClassGate$ClassFile" "fields" "[LClassGate$Member;" : Cond) ∈ bg := bgf (tb_1 _ (List.mem_of_getElem? (i := 187) (by decide +kernel))) (by rfl)
theorem bg_1471 : (.lays RX3 "ClassGate$ClassFile" "methods" "[LClassGate$Member;" : Cond) ∈ bg := bgf (tb_1 _ (List.mem_of_getElem? (i := 189) (by decide +kernel))) (by rfl)
theorem bg_1472 : (.lays RX3 "ClassGate$ClassFile" "attributeCount" "I" : Cond) ∈ bg := bgf (tb_1 _ (List.mem_of_getElem? (i := 191) (by decide +kernel))) (by rfl)
theorem bg_1473 : (.lays RX3 "ClassGate$ClassFile" "attributesAt" "I" : Cond) ∈ bg := bgf (tb_1 _ (List.mem_of_getElem? (i := 193) (by decide +kernel))) (by rfl)
theorem bg_1474 : (.lays RX3 "ClassGate$ClassFile" "known" "I" : Cond) ∈ bg := bgf (tb_1 _ (List.mem_of_getElem? (i := 195) (by decide +kernel))) (by rfl)
theorem bg_1475 : (.lays RX3 "ClassGate$ClassFile" "bootstrapCount" "I" : Cond) ∈ bg := bgf (tb_1 _ (List.mem_of_getElem? (i := 197) (by decide +kernel))) (by rfl)
theorem bg_1476 : (.lays RX3 "ClassGate$ClassFile" "bootstrapsAt" "I" : Cond) ∈ bg := bgf (tb_1 _ (List.mem_of_getElem? (i := 199) (by decide +kernel))) (by rfl)
theorem bg_1477 : (.lays RX3 "ClassGate$ClassFile" "innerCount" "I" : Cond) ∈ bg := bgf (tb_1 _ (List.mem_of_getElem? (i := 201) (by decide +kernel))) (by rfl)
theorem bg_1478 : (.lays RX3 "ClassGate$ClassFile" "nestCount" "I" : Cond) ∈ bg := bgf (tb_1 _ (List.mem_of_getElem? (i := 203) (by decide +kernel))) (by rfl)
theorem bg_1479 : (.lays RX3 "ClassGate$ClassFile" "permittedCount" "I" : Cond) ∈ bg := bgf (tb_1 _ (List.mem_of_getElem? (i := 205) (by decide +kernel))) (by rfl)
theorem bg_1480 : (.lays RX3 "ClassGate$ClassFile" "recordCount" "I" : Cond) ∈ bg := bgf (tb_1 _ (List.mem_of_getElem? (i := 207) (by decide +kernel))) (by rfl)
theorem bg_1481 : (.laysFinal RX4 "ClassGate$Code" "maxStack" "I" : Cond) ∈ bg := bgf (tb_4 _ (List.mem_of_getElem? (i := 185) (by decide +kernel))) (by rfl)
theorem bg_1482 : (.laysFinal RX4 "ClassGate$Code" "maxLocals" "I" : Cond) ∈ bg := bgf (tb_4 _ (List.mem_of_getElem? (i := 187) (by decide +kernel))) (by rfl)
theorem bg_1483 : (.laysFinal RX4 "ClassGate$Code" "length" "I" : Cond) ∈ bg := bgf (tb_4 _ (List.mem_of_getElem? (i := 189) (by decide +kernel))) (by rfl)
theorem bg_1484 : (.laysFinal RX4 "ClassGate$Code" "rowsAt" "I" : Cond) ∈ bg := bgf (tb_4 _ (List.mem_of_getElem? (i := 191) (by decide +kernel))) (by rfl)
theorem bg_1485 : (.laysFinal RX4 "ClassGate$Code" "rowCount" "I" : Cond) ∈ bg := bgf (tb_4 _ (List.mem_of_getElem? (i := 193) (by decide +kernel))) (by rfl)
theorem bg_1486 : (.laysFinal RX4 "ClassGate$Code" "pool" "LClassGate$Pool;" : Cond) ∈ bg := bgf (tb_4 _ (List.mem_of_getElem? (i := 195) (by decide +kernel))) (by rfl)
theorem bg_1487 : (.laysFinal RX4 "ClassGate$Code" "major" "I" : Cond) ∈ bg := bgf (tb_4 _ (List.mem_of_getElem? (i := 197) (by decide +kernel))) (by rfl)
theorem bg_1488 : (.laysFinal RX4 "ClassGate$Code" "one" "LClassGate$Instruction;" : Cond) ∈ bg := bgf (tb_4 _ (List.mem_of_getElem? (i := 199) (by decide +kernel))) (by rfl)
theorem bg_1489 : (.lays RX4 "ClassGate$Code" "cutResult" "I" : Cond) ∈ bg := bgf (tb_4 _ (List.mem_of_getElem? (i := 201) (by decide +kernel))) (by rfl)
theorem bg_1490 : (.lays RX4 "ClassGate$Code" "starts" "[I" : Cond) ∈ bg := bgf (tb_4 _ (List.mem_of_getElem? (i := 203) (by decide +kernel))) (by rfl)
theorem bg_1491 : (.lays RX4 "ClassGate$Code" "numbers" "[I" : Cond) ∈ bg := bgf (tb_4 _ (List.mem_of_getElem? (i := 205) (by decide +kernel))) (by rfl)
theorem bg_1492 : (.laysFinal RX5 "ClassGate$Instruction" "bytes" "LClassGate$Bytes;" : Cond) ∈ bg := bgf (tb_4 _ (List.mem_of_getElem? (i := 139) (by decide +kernel))) (by rfl)
theorem bg_1493 : (.laysFinal RX5 "ClassGate$Instruction" "codeAt" "I" : Cond) ∈ bg := bgf (tb_4 _ (List.mem_of_getElem? (i := 141) (by decide +kernel))) (by rfl)
theorem bg_1494 : (.laysFinal RX5 "ClassGate$Instruction" "codeLength" "I" : Cond) ∈ bg := bgf (tb_4 _ (List.mem_of_getElem? (i := 143) (by decide +kernel))) (by rfl)
theorem bg_1495 : (.lays RX5 "ClassGate$Instruction" "opcode" "I" : Cond) ∈ bg := bgf (tb_4 _ (List.mem_of_getElem? (i := 145) (by decide +kernel))) (by rfl)
theorem bg_1496 : (.lays RX5 "ClassGate$Instruction" "size" "I" : Cond) ∈ bg := bgf (tb_4 _ (List.mem_of_getElem? (i := 147) (by decide +kernel))) (by rfl)
theorem bg_1497 : (.lays RX5 "ClassGate$Instruction" "first" "I" : Cond) ∈ bg := bgf (tb_4 _ (List.mem_of_getElem? (i := 149) (by decide +kernel))) (by rfl)
theorem bg_1498 : (.lays RX5 "ClassGate$Instruction" "second" "I" : Cond) ∈ bg := bgf (tb_4 _ (List.mem_of_getElem? (i := 151) (by decide +kernel))) (by rfl)
theorem bg_1499 : (.lays RX5 "ClassGate$Instruction" "localPlaces" "I" : Cond) ∈ bg := bgf (tb_4 _ (List.mem_of_getElem? (i := 153) (by decide +kernel))) (by rfl)
theorem bg_1500 : (.lays RX5 "ClassGate$Instruction" "targetCount" "I" : Cond) ∈ bg := bgf (tb_4 _ (List.mem_of_getElem? (i := 155) (by decide +kernel))) (by rfl)
theorem bg_1501 : (.lays RX5 "ClassGate$Instruction" "pc" "I" : Cond) ∈ bg := bgf (tb_4 _ (List.mem_of_getElem? (i := 157) (by decide +kernel))) (by rfl)
theorem bg_1502 : (.lays RX5 "ClassGate$Instruction" "offset" "I" : Cond) ∈ bg := bgf (tb_4 _ (List.mem_of_getElem? (i := 159) (by decide +kernel))) (by rfl)
theorem bg_1503 : (.lays RX5 "ClassGate$Instruction" "switchAt" "I" : Cond) ∈ bg := bgf (tb_4 _ (List.mem_of_getElem? (i := 161) (by decide +kernel))) (by rfl)
theorem bg_1504 : (.laysFinal RX6 "ClassGate$Member" "begin" "I" : Cond) ∈ bg := bgf (tb_2 _ (List.mem_of_getElem? (i := 150) (by decide +kernel))) (by rfl)
theorem bg_1505 : (.laysFinal RX6 "ClassGate$Member" "flags" "I" : Cond) ∈ bg := bgf (tb_2 _ (List.mem_of_getElem? (i := 152) (by decide +kernel))) (by rfl)
theorem bg_1506 : (.laysFinal RX6 "ClassGate$Member" "name" "I" : Cond) ∈ bg := bgf (tb_2 _ (List.mem_of_getElem? (i := 154) (by decide +kernel))) (by rfl)
theorem bg_1507 : (.laysFinal RX6 "ClassGate$Member" "descriptor" "I" : Cond) ∈ bg := bgf (tb_2 _ (List.mem_of_getElem? (i := 156) (by decide +kernel))) (by rfl)
theorem bg_1508 : (.laysFinal RX6 "ClassGate$Member" "attributeCount" "I" : Cond) ∈ bg := bgf (tb_2 _ (List.mem_of_getElem? (i := 158) (by decide +kernel))) (by rfl)
theorem bg_1509 : (.laysFinal RX6 "ClassGate$Member" "attributesAt" "I" : Cond) ∈ bg := bgf (tb_2 _ (List.mem_of_getElem? (i := 160) (by decide +kernel))) (by rfl)
theorem bg_1510 : (.lays RX6 "ClassGate$Member" "known" "I" : Cond) ∈ bg := bgf (tb_2 _ (List.mem_of_getElem? (i := 162) (by decide +kernel))) (by rfl)
theorem bg_1511 : (.lays RX6 "ClassGate$Member" "constant" "I" : Cond) ∈ bg := bgf (tb_2 _ (List.mem_of_getElem? (i := 164) (by decide +kernel))) (by rfl)
theorem bg_1512 : (.lays RX6 "ClassGate$Member" "argumentPlaces" "I" : Cond) ∈ bg := bgf (tb_2 _ (List.mem_of_getElem? (i := 166) (by decide +kernel))) (by rfl)
theorem bg_1513 : (.lays RX6 "ClassGate$Member" "exceptionCount" "I" : Cond) ∈ bg := bgf (tb_2 _ (List.mem_of_getElem? (i := 168) (by decide +kernel))) (by rfl)
theorem bg_1514 : (.lays RX6 "ClassGate$Member" "code" "LClassGate$Code;" : Cond) ∈ bg := bgf (tb_2 _ (List.mem_of_getElem? (i := 170) (by decide +kernel))) (by rfl)
theorem bg_1515 : (.laysFinal RX7 "ClassGate$Pool" "size" "I" : Cond) ∈ bg := bgf (tb_1 _ (List.mem_of_getElem? (i := 100) (by decide +kernel))) (by rfl)
theorem bg_1516 : (.laysFinal RX7 "ClassGate$Pool" "tags" "[I" : Cond) ∈ bg := bgf (tb_1 _ (List.mem_of_getElem? (i := 102) (by decide +kernel))) (by rfl)
theorem bg_1517 : (.laysFinal RX7 "ClassGate$Pool" "tagPlaces" "[I" : Cond) ∈ bg := bgf (tb_1 _ (List.mem_of_getElem? (i := 104) (by decide +kernel))) (by rfl)
theorem bg_1518 : (.laysFinal RX7 "ClassGate$Pool" "firsts" "[I" : Cond) ∈ bg := bgf (tb_1 _ (List.mem_of_getElem? (i := 106) (by decide +kernel))) (by rfl)
theorem bg_1519 : (.laysFinal RX7 "ClassGate$Pool" "seconds" "[I" : Cond) ∈ bg := bgf (tb_1 _ (List.mem_of_getElem? (i := 108) (by decide +kernel))) (by rfl)
theorem bg_1520 : (.laysFinal RX7 "ClassGate$Pool" "shapes" "[I" : Cond) ∈ bg := bgf (tb_1 _ (List.mem_of_getElem? (i := 110) (by decide +kernel))) (by rfl)
theorem bg_1521 : (.laysFinal RX7 "ClassGate$Pool" "characters" "[C" : Cond) ∈ bg := bgf (tb_1 _ (List.mem_of_getElem? (i := 112) (by decide +kernel))) (by rfl)
theorem bg_1522 : (.lays RX7 "ClassGate$Pool" "characterCount" "I" : Cond) ∈ bg := bgf (tb_1 _ (List.mem_of_getElem? (i := 114) (by decide +kernel))) (by rfl)
theorem bg_1523 : (.laysFinal RX8 "ClassGate$PoolCheck" "pool" "LClassGate$Pool;" : Cond) ∈ bg := bgf (tb_2 _ (List.mem_of_getElem? (i := 216) (by decide +kernel))) (by rfl)
theorem bg_1524 : (.laysFinal RX8 "ClassGate$PoolCheck" "major" "I" : Cond) ∈ bg := bgf (tb_2 _ (List.mem_of_getElem? (i := 218) (by decide +kernel))) (by rfl)
theorem bg_1525 : (.laysFinal RX8 "ClassGate$PoolCheck" "verdict" "LClassGate$Verdict;" : Cond) ∈ bg := bgf (tb_2 _ (List.mem_of_getElem? (i := 220) (by decide +kernel))) (by rfl)
theorem bg_1526 : (.laysFinal RX9 "ClassGate$Reader" "file" "LClassGate$ClassFile;" : Cond) ∈ bg := bgf (tb_1 _ (List.mem_of_getElem? (i := 239) (by decide +kernel))) (by rfl)
theorem bg_1527 : (.laysFinal RX9 "ClassGate$Reader" "bytes" "LClassGate$Bytes;" : Cond) ∈ bg := bgf (tb_2 _ (List.mem_of_getElem? (i := 1) (by decide +kernel))) (by rfl)
theorem bg_1528 : (.laysFinal RX9 "ClassGate$Reader" "verdict" "LClassGate$Verdict;" : Cond) ∈ bg := bgf (tb_2 _ (List.mem_of_getElem? (i := 3) (by decide +kernel))) (by rfl)
theorem bg_1529 : (.lays RX9 "ClassGate$Reader" "at" "I" : Cond) ∈ bg := bgf (tb_2 _ (List.mem_of_getElem? (i := 5) (by decide +kernel))) (by rfl)
theorem bg_1530 : (.lays RX9 "ClassGate$Reader" "item" "I" : Cond) ∈ bg := bgf (tb_2 _ (List.mem_of_getElem? (i := 7) (by decide +kernel))) (by rfl)
theorem bg_1531 : (.lays RX10 "ClassGate$Verdict" "rule" "I" : Cond) ∈ bg := bgf (tb_1 _ (List.mem_of_getElem? (i := 220) (by decide +kernel))) (by rfl)
theorem bg_1532 : (.lays RX10 "ClassGate$Verdict" "wrongAt" "I" : Cond) ∈ bg := bgf (tb_1 _ (List.mem_of_getElem? (i := 222) (by decide +kernel))) (by rfl)
theorem bg_1533 : (.lays RX11 "ClassGate" "came" "[B" : Cond) ∈ bg := bgf (tb_1 _ (List.mem_of_getElem? (i := 42) (by decide +kernel))) (by rfl)
theorem bg_1534 : (.lays RX11 "ClassGate" "cameCount" "I" : Cond) ∈ bg := bgf (tb_1 _ (List.mem_of_getElem? (i := 44) (by decide +kernel))) (by rfl)
theorem bg_1535 : (.lays RX11 "ClassGate" "file" "[B" : Cond) ∈ bg := bgf (tb_1 _ (List.mem_of_getElem? (i := 46) (by decide +kernel))) (by rfl)
theorem bg_1536 : (.lays RX11 "ClassGate" "kept" "LClassGate$ClassFile;" : Cond) ∈ bg := bgf (tb_1 _ (List.mem_of_getElem? (i := 48) (by decide +kernel))) (by rfl)
theorem bg_1537 : (.lays RX11 "ClassGate" "wrongPlace" "I" : Cond) ∈ bg := bgf (tb_1 _ (List.mem_of_getElem? (i := 50) (by decide +kernel))) (by rfl)
theorem bg_1538 : (.lays RX12 "ClassGateModel" "thrown" "I" : Cond) ∈ bg := bgf (tb_7 _ (List.mem_of_getElem? (i := 36) (by decide +kernel))) (by rfl)
theorem bg_1539 : (.laysFinal RX12 "ClassGateModel" "chars" "[C" : Cond) ∈ bg := bgf (tb_7 _ (List.mem_of_getElem? (i := 38) (by decide +kernel))) (by rfl)
theorem bg_1540 : (.laysFinal RX12 "ClassGateModel" "cut" "[C" : Cond) ∈ bg := bgf (tb_7 _ (List.mem_of_getElem? (i := 40) (by decide +kernel))) (by rfl)
theorem bg_1541 : (.lays RX12 "ClassGateModel" "charsN" "I" : Cond) ∈ bg := bgf (tb_7 _ (List.mem_of_getElem? (i := 42) (by decide +kernel))) (by rfl)
theorem bg_1542 : (.laysFinal RX12 "ClassGateModel" "symAt" "[I" : Cond) ∈ bg := bgf (tb_7 _ (List.mem_of_getElem? (i := 44) (by decide +kernel))) (by rfl)
theorem bg_1543 : (.laysFinal RX12 "ClassGateModel" "symLen" "[I" : Cond) ∈ bg := bgf (tb_7 _ (List.mem_of_getElem? (i := 46) (by decide +kernel))) (by rfl)
theorem bg_1544 : (.laysFinal RX12 "ClassGateModel" "symNext" "[I" : Cond) ∈ bg := bgf (tb_7 _ (List.mem_of_getElem? (i := 48) (by decide +kernel))) (by rfl)
theorem bg_1545 : (.laysFinal RX12 "ClassGateModel" "symHead" "[I" : Cond) ∈ bg := bgf (tb_7 _ (List.mem_of_getElem? (i := 50) (by decide +kernel))) (by rfl)
theorem bg_1546 : (.lays RX12 "ClassGateModel" "syms" "I" : Cond) ∈ bg := bgf (tb_7 _ (List.mem_of_getElem? (i := 52) (by decide +kernel))) (by rfl)
theorem bg_1547 : (.lays RX12 "ClassGateModel" "S_INIT" "I" : Cond) ∈ bg := bgf (tb_7 _ (List.mem_of_getElem? (i := 54) (by decide +kernel))) (by rfl)
theorem bg_1548 : (.lays RX12 "ClassGateModel" "S_CLINIT" "I" : Cond) ∈ bg := bgf (tb_7 _ (List.mem_of_getElem? (i := 56) (by decide +kernel))) (by rfl)
theorem bg_1549 : (.lays RX12 "ClassGateModel" "S_OBJECT" "I" : Cond) ∈ bg := bgf (tb_7 _ (List.mem_of_getElem? (i := 58) (by decide +kernel))) (by rfl)
theorem bg_1550 : (.laysFinal RX12 "ClassGateModel" "files" "[B" : Cond) ∈ bg := bgf (tb_7 _ (List.mem_of_getElem? (i := 60) (by decide +kernel))) (by rfl)
theorem bg_1551 : (.laysFinal RX12 "ClassGateModel" "file" "[B" : Cond) ∈ bg := bgf (tb_7 _ (List.mem_of_getElem? (i := 62) (by decide +kernel))) (by rfl)
theorem bg_1552 : (.laysFinal RX12 "ClassGateModel" "kept" "[B" : Cond) ∈ bg := bgf (tb_7 _ (List.mem_of_getElem? (i := 64) (by decide +kernel))) (by rfl)
theorem bg_1553 : (.laysFinal RX12 "ClassGateModel" "came" "[B" : Cond) ∈ bg := bgf (tb_7 _ (List.mem_of_getElem? (i := 66) (by decide +kernel))) (by rfl)
theorem bg_1554 : (.lays RX12 "ClassGateModel" "size" "I" : Cond) ∈ bg := bgf (tb_7 _ (List.mem_of_getElem? (i := 68) (by decide +kernel))) (by rfl)
theorem bg_1555 : (.lays RX12 "ClassGateModel" "fileN" "I" : Cond) ∈ bg := bgf (tb_7 _ (List.mem_of_getElem? (i := 70) (by decide +kernel))) (by rfl)
theorem bg_1556 : (.lays RX12 "ClassGateModel" "keptN" "I" : Cond) ∈ bg := bgf (tb_7 _ (List.mem_of_getElem? (i := 72) (by decide +kernel))) (by rfl)
theorem bg_1557 : (.lays RX12 "ClassGateModel" "cameN" "I" : Cond) ∈ bg := bgf (tb_7 _ (List.mem_of_getElem? (i := 74) (by decide +kernel))) (by rfl)
theorem bg_1558 : (.lays RX12 "ClassGateModel" "pool" "I" : Cond) ∈ bg := bgf (tb_7 _ (List.mem_of_getElem? (i := 76) (by decide +kernel))) (by rfl)
theorem bg_1559 : (.laysFinal RX12 "ClassGateModel" "pAt" "[I" : Cond) ∈ bg := bgf (tb_7 _ (List.mem_of_getElem? (i := 78) (by decide +kernel))) (by rfl)
theorem bg_1560 : (.laysFinal RX12 "ClassGateModel" "pSym" "[I" : Cond) ∈ bg := bgf (tb_7 _ (List.mem_of_getElem? (i := 80) (by decide +kernel))) (by rfl)
theorem bg_1561 : (.laysFinal RX12 "ClassGateModel" "pState" "[I" : Cond) ∈ bg := bgf (tb_7 _ (List.mem_of_getElem? (i := 82) (by decide +kernel))) (by rfl)
theorem bg_1562 : (.laysFinal RX12 "ClassGateModel" "pObj" "[I" : Cond) ∈ bg := bgf (tb_7 _ (List.mem_of_getElem? (i := 84) (by decide +kernel))) (by rfl)
theorem bg_1563 : (.lays RX12 "ClassGateModel" "fields" "I" : Cond) ∈ bg := bgf (tb_7 _ (List.mem_of_getElem? (i := 86) (by decide +kernel))) (by rfl)
theorem bg_1564 : (.lays RX12 "ClassGateModel" "methods" "I" : Cond) ∈ bg := bgf (tb_7 _ (List.mem_of_getElem? (i := 88) (by decide +kernel))) (by rfl)
theorem bg_1565 : (.laysFinal RX12 "ClassGateModel" "fFlags" "[I" : Cond) ∈ bg := bgf (tb_7 _ (List.mem_of_getElem? (i := 90) (by decide +kernel))) (by rfl)
theorem bg_1566 : (.laysFinal RX12 "ClassGateModel" "fName" "[I" : Cond) ∈ bg := bgf (tb_7 _ (List.mem_of_getElem? (i := 92) (by decide +kernel))) (by rfl)
theorem bg_1567 : (.laysFinal RX12 "ClassGateModel" "fDesc" "[I" : Cond) ∈ bg := bgf (tb_7 _ (List.mem_of_getElem? (i := 94) (by decide +kernel))) (by rfl)
theorem bg_1568 : (.laysFinal RX12 "ClassGateModel" "fConst" "[I" : Cond) ∈ bg := bgf (tb_7 _ (List.mem_of_getElem? (i := 96) (by decide +kernel))) (by rfl)
theorem bg_1569 : (.laysFinal RX12 "ClassGateModel" "fKnown" "[I" : Cond) ∈ bg := bgf (tb_7 _ (List.mem_of_getElem? (i := 98) (by decide +kernel))) (by rfl)
theorem bg_1570 : (.laysFinal RX12 "ClassGateModel" "fNameAt" "[I" : Cond) ∈ bg := bgf (tb_7 _ (List.mem_of_getElem? (i := 100) (by decide +kernel))) (by rfl)
theorem bg_1571 : (.laysFinal RX12 "ClassGateModel" "fDescAt" "[I" : Cond) ∈ bg := bgf (tb_7 _ (List.mem_of_getElem? (i := 102) (by decide +kernel))) (by rfl)
theorem bg_1572 : (.laysFinal RX12 "ClassGateModel" "mFlags" "[I" : Cond) ∈ bg := bgf (tb_7 _ (List.mem_of_getElem? (i := 104) (by decide +kernel))) (by rfl)
theorem bg_1573 : (.laysFinal RX12 "ClassGateModel" "mName" "[I" : Cond) ∈ bg := bgf (tb_7 _ (List.mem_of_getElem? (i := 106) (by decide +kernel))) (by rfl)
theorem bg_1574 : (.laysFinal RX12 "ClassGateModel" "mDesc" "[I" : Cond) ∈ bg := bgf (tb_7 _ (List.mem_of_getElem? (i := 108) (by decide +kernel))) (by rfl)
theorem bg_1575 : (.laysFinal RX12 "ClassGateModel" "mCode" "[I" : Cond) ∈ bg := bgf (tb_7 _ (List.mem_of_getElem? (i := 110) (by decide +kernel))) (by rfl)
theorem bg_1576 : (.laysFinal RX12 "ClassGateModel" "mLen" "[I" : Cond) ∈ bg := bgf (tb_7 _ (List.mem_of_getElem? (i := 112) (by decide +kernel))) (by rfl)
theorem bg_1577 : (.laysFinal RX12 "ClassGateModel" "mStack" "[I" : Cond) ∈ bg := bgf (tb_7 _ (List.mem_of_getElem? (i := 114) (by decide +kernel))) (by rfl)
theorem bg_1578 : (.laysFinal RX12 "ClassGateModel" "mLocals" "[I" : Cond) ∈ bg := bgf (tb_7 _ (List.mem_of_getElem? (i := 116) (by decide +kernel))) (by rfl)
theorem bg_1579 : (.laysFinal RX12 "ClassGateModel" "mRows" "[I" : Cond) ∈ bg := bgf (tb_7 _ (List.mem_of_getElem? (i := 118) (by decide +kernel))) (by rfl)
theorem bg_1580 : (.laysFinal RX12 "ClassGateModel" "mRowN" "[I" : Cond) ∈ bg := bgf (tb_7 _ (List.mem_of_getElem? (i := 120) (by decide +kernel))) (by rfl)
theorem bg_1581 : (.laysFinal RX12 "ClassGateModel" "mKnown" "[I" : Cond) ∈ bg := bgf (tb_7 _ (List.mem_of_getElem? (i := 122) (by decide +kernel))) (by rfl)
theorem bg_1582 : (.laysFinal RX12 "ClassGateModel" "mThrows" "[I" : Cond) ∈ bg := bgf (tb_7 _ (List.mem_of_getElem? (i := 124) (by decide +kernel))) (by rfl)
theorem bg_1583 : (.laysFinal RX12 "ClassGateModel" "mNameAt" "[I" : Cond) ∈ bg := bgf (tb_7 _ (List.mem_of_getElem? (i := 126) (by decide +kernel))) (by rfl)
theorem bg_1584 : (.laysFinal RX12 "ClassGateModel" "mDescAt" "[I" : Cond) ∈ bg := bgf (tb_7 _ (List.mem_of_getElem? (i := 128) (by decide +kernel))) (by rfl)
theorem bg_1585 : (.lays RX12 "ClassGateModel" "rule" "I" : Cond) ∈ bg := bgf (tb_7 _ (List.mem_of_getElem? (i := 130) (by decide +kernel))) (by rfl)
theorem bg_1586 : (.lays RX12 "ClassGateModel" "wrongAt" "I" : Cond) ∈ bg := bgf (tb_7 _ (List.mem_of_getElem? (i := 132) (by decide +kernel))) (by rfl)
theorem bg_1587 : (.lays RX12 "ClassGateModel" "base" "I" : Cond) ∈ bg := bgf (tb_7 _ (List.mem_of_getElem? (i := 134) (by decide +kernel))) (by rfl)
theorem bg_1588 : (.lays RX12 "ClassGateModel" "pos" "I" : Cond) ∈ bg := bgf (tb_7 _ (List.mem_of_getElem? (i := 136) (by decide +kernel))) (by rfl)
theorem bg_1589 : (.lays RX12 "ClassGateModel" "cpBase" "I" : Cond) ∈ bg := bgf (tb_7 _ (List.mem_of_getElem? (i := 138) (by decide +kernel))) (by rfl)
theorem bg_1590 : (.lays RX12 "ClassGateModel" "cpN" "I" : Cond) ∈ bg := bgf (tb_7 _ (List.mem_of_getElem? (i := 140) (by decide +kernel))) (by rfl)
theorem bg_1591 : (.lays RX12 "ClassGateModel" "major" "I" : Cond) ∈ bg := bgf (tb_7 _ (List.mem_of_getElem? (i := 142) (by decide +kernel))) (by rfl)
theorem bg_1592 : (.lays RX12 "ClassGateModel" "headAt" "I" : Cond) ∈ bg := bgf (tb_7 _ (List.mem_of_getElem? (i := 144) (by decide +kernel))) (by rfl)
theorem bg_1593 : (.lays RX12 "ClassGateModel" "fieldsAt" "I" : Cond) ∈ bg := bgf (tb_7 _ (List.mem_of_getElem? (i := 146) (by decide +kernel))) (by rfl)
theorem bg_1594 : (.lays RX12 "ClassGateModel" "methodsAt" "I" : Cond) ∈ bg := bgf (tb_7 _ (List.mem_of_getElem? (i := 148) (by decide +kernel))) (by rfl)
theorem bg_1595 : (.lays RX12 "ClassGateModel" "attributesAt" "I" : Cond) ∈ bg := bgf (tb_7 _ (List.mem_of_getElem? (i := 150) (by decide +kernel))) (by rfl)
theorem bg_1596 : (.lays RX12 "ClassGateModel" "newFlags" "I" : Cond) ∈ bg := bgf (tb_7 _ (List.mem_of_getElem? (i := 152) (by decide +kernel))) (by rfl)
theorem bg_1597 : (.lays RX12 "ClassGateModel" "newName" "I" : Cond) ∈ bg := bgf (tb_7 _ (List.mem_of_getElem? (i := 154) (by decide +kernel))) (by rfl)
theorem bg_1598 : (.lays RX12 "ClassGateModel" "newSuper" "I" : Cond) ∈ bg := bgf (tb_7 _ (List.mem_of_getElem? (i := 156) (by decide +kernel))) (by rfl)
theorem bg_1599 : (.lays RX12 "ClassGateModel" "newIfs" "I" : Cond) ∈ bg := bgf (tb_7 _ (List.mem_of_getElem? (i := 158) (by decide +kernel))) (by rfl)
end
section
theorem bg_1600 : (.laysFinal RX12 "ClassGateModel" "KNOWN" "[Ljava/lang/String;" : Cond) ∈ bg := bgf (tb_7 _ (List.mem_of_getElem? (i := 160) (by decide +kernel))) (by rfl)
theorem bg_1601 : (.laysFinal RX12 "ClassGateModel" "KNOWN_IN" "[I" : Cond) ∈ bg := bgf (tb_7 _ (List.mem_of_getElem? (i := 162) (by decide +kernel))) (by rfl)
theorem bg_1602 : (.laysFinal RX12 "ClassGateModel" "KNOWN_FROM" "[I" : Cond) ∈ bg := bgf (tb_7 _ (List.mem_of_getElem? (i := 164) (by decide +kernel))) (by rfl)
theorem bg_1603 : (.lays RX12 "ClassGateModel" "newInners" "I" : Cond) ∈ bg := bgf (tb_7 _ (List.mem_of_getElem? (i := 166) (by decide +kernel))) (by rfl)
theorem bg_1604 : (.lays RX12 "ClassGateModel" "newKnown" "I" : Cond) ∈ bg := bgf (tb_7 _ (List.mem_of_getElem? (i := 168) (by decide +kernel))) (by rfl)
theorem bg_1605 : (.lays RX12 "ClassGateModel" "newHost" "I" : Cond) ∈ bg := bgf (tb_7 _ (List.mem_of_getElem? (i := 170) (by decide +kernel))) (by rfl)
theorem bg_1606 : (.lays RX12 "ClassGateModel" "newMembers" "I" : Cond) ∈ bg := bgf (tb_7 _ (List.mem_of_getElem? (i := 172) (by decide +kernel))) (by rfl)
theorem bg_1607 : (.lays RX12 "ClassGateModel" "newPermitted" "I" : Cond) ∈ bg := bgf (tb_7 _ (List.mem_of_getElem? (i := 174) (by decide +kernel))) (by rfl)
theorem bg_1608 : (.lays RX12 "ClassGateModel" "newBoot" "I" : Cond) ∈ bg := bgf (tb_7 _ (List.mem_of_getElem? (i := 176) (by decide +kernel))) (by rfl)
theorem bg_1609 : (.lays RX12 "ClassGateModel" "newBootN" "I" : Cond) ∈ bg := bgf (tb_7 _ (List.mem_of_getElem? (i := 178) (by decide +kernel))) (by rfl)
theorem bg_1610 : (.lays RX12 "ClassGateModel" "newRecord" "I" : Cond) ∈ bg := bgf (tb_7 _ (List.mem_of_getElem? (i := 180) (by decide +kernel))) (by rfl)
theorem bg_1611 : (.lays RX12 "ClassGateModel" "lastPlace" "I" : Cond) ∈ bg := bgf (tb_7 _ (List.mem_of_getElem? (i := 182) (by decide +kernel))) (by rfl)
theorem bg_1612 : (.lays RX12 "ClassGateModel" "cutOf" "I" : Cond) ∈ bg := bgf (tb_7 _ (List.mem_of_getElem? (i := 184) (by decide +kernel))) (by rfl)
theorem bg_1613 : (.lays RX12 "ClassGateModel" "many" "I" : Cond) ∈ bg := bgf (tb_7 _ (List.mem_of_getElem? (i := 186) (by decide +kernel))) (by rfl)
theorem bg_1614 : (.lays RX12 "ClassGateModel" "wrongCode" "I" : Cond) ∈ bg := bgf (tb_7 _ (List.mem_of_getElem? (i := 188) (by decide +kernel))) (by rfl)
theorem bg_1615 : (.lays RX12 "ClassGateModel" "codeAt" "I" : Cond) ∈ bg := bgf (tb_7 _ (List.mem_of_getElem? (i := 190) (by decide +kernel))) (by rfl)
theorem bg_1616 : (.lays RX12 "ClassGateModel" "codeLen" "I" : Cond) ∈ bg := bgf (tb_7 _ (List.mem_of_getElem? (i := 192) (by decide +kernel))) (by rfl)
theorem bg_1617 : (.lays RX12 "ClassGateModel" "maxL" "I" : Cond) ∈ bg := bgf (tb_7 _ (List.mem_of_getElem? (i := 194) (by decide +kernel))) (by rfl)
theorem bg_1618 : (.laysFinal RX12 "ClassGateModel" "begins" "[I" : Cond) ∈ bg := bgf (tb_7 _ (List.mem_of_getElem? (i := 196) (by decide +kernel))) (by rfl)
theorem bg_1619 : (.laysFinal RX12 "ClassGateModel" "which" "[I" : Cond) ∈ bg := bgf (tb_7 _ (List.mem_of_getElem? (i := 198) (by decide +kernel))) (by rfl)
theorem bg_1620 : (.initialized "java/lang/Throwable" : Cond) ∈ bg := bgf (tb_1 _ (List.mem_of_getElem? (i := 7) (by decide +kernel))) (by rfl)
theorem bg_1621 : (.lays "java/lang/Throwable" "java/lang/Throwable" "cause" "Ljava/lang/Throwable;" : Cond) ∈ bg := bgf (tb_5 _ (List.mem_of_getElem? (i := 228) (by decide +kernel))) (by rfl)
theorem bg_1622 : (.lays "java/lang/Throwable" "java/lang/Throwable" "stackTrace" "[Ljava/lang/StackTraceElement;" : Cond) ∈ bg := bgf (tb_5 _ (List.mem_of_getElem? (i := 230) (by decide +kernel))) (by rfl)
theorem bg_1623 : (.lays "java/lang/Throwable" "java/lang/Throwable" "suppressedExceptions" "Ljava/util/List;" : Cond) ∈ bg := bgf (tb_5 _ (List.mem_of_getElem? (i := 232) (by decide +kernel))) (by rfl)
theorem bg_1624 : (.lays "java/lang/Throwable" "java/lang/Throwable" "detailMessage" "Ljava/lang/String;" : Cond) ∈ bg := bgf (tb_5 _ (List.mem_of_getElem? (i := 234) (by decide +kernel))) (by rfl)
theorem bg_1625 : (.lays "java/lang/Throwable" "java/lang/Throwable" "backtrace" "Ljava/lang/Object;" : Cond) ∈ bg := bgf (tb_5 _ (List.mem_of_getElem? (i := 236) (by decide +kernel))) (by rfl)
theorem bg_1626 : (.fieldLink "java/lang/Throwable" 198 "java/lang/Throwable" "backtrace" "Ljava/lang/Object;" : Cond) ∈ bg := bgf (tb_5 _ (List.mem_of_getElem? (i := 237) (by decide +kernel))) (by rfl)
theorem bg_1627 : (.superclass "java/lang/Throwable" "java/lang/Object" : Cond) ∈ bg := bgf (tb_5 _ (List.mem_of_getElem? (i := 238) (by decide +kernel))) (by rfl)
theorem bg_1628 : (.instanceMethod ⟨"java/lang/Throwable", "<init>", "()V"⟩ : Cond) ∈ bg := bgf (tb_5 _ (List.mem_of_getElem? (i := 239) (by decide +kernel))) (by rfl)
theorem bg_1629 : (.code ⟨"java/lang/Throwable", "<init>", "()V"⟩ prog_26_method_1_code 1 none : Cond) ∈ bg := bgf (tb_6 _ (List.mem_of_getElem? (i := 0) (by rfl))) (by rfl)
theorem bg_1630 : (.methodLink "java/lang/Throwable" 1 ⟨"java/lang/Object", "<init>", "()V"⟩ : Cond) ∈ bg := bgf (tb_6 _ (List.mem_of_getElem? (i := 1) (by decide +kernel))) (by rfl)
theorem bg_1631 : (.fieldLink "java/lang/Throwable" 13 "java/lang/Throwable" "UNASSIGNED_STACK" "[Ljava/lang/StackTraceElement;" : Cond) ∈ bg := bgf (tb_6 _ (List.mem_of_getElem? (i := 2) (by decide +kernel))) (by rfl)
theorem bg_1632 : (.fieldLink "java/lang/Throwable" 20 "java/lang/Throwable" "SUPPRESSED_SENTINEL" "Ljava/util/List;" : Cond) ∈ bg := bgf (tb_6 _ (List.mem_of_getElem? (i := 4) (by decide +kernel))) (by rfl)
theorem bg_1633 : (.methodLink "java/lang/Throwable" 27 ⟨"java/lang/Throwable", "fillInStackTrace", "()Ljava/lang/Throwable;"⟩ : Cond) ∈ bg := bgf (tb_6 _ (List.mem_of_getElem? (i := 6) (by decide +kernel))) (by rfl)
theorem bg_1634 : (.instanceMethod ⟨"java/lang/Throwable", "fillInStackTrace", "()Ljava/lang/Throwable;"⟩ : Cond) ∈ bg := bgf (tb_6 _ (List.mem_of_getElem? (i := 7) (by decide +kernel))) (by rfl)
theorem bg_1635 : (.selects "java/lang/IllegalArgumentException" ⟨"java/lang/Throwable", "fillInStackTrace", "()Ljava/lang/Throwable;"⟩ ⟨"java/lang/Throwable", "fillInStackTrace", "()Ljava/lang/Throwable;"⟩ : Cond) ∈ bg := bgf (tb_6 _ (List.mem_of_getElem? (i := 9) (by decide +kernel))) (by rfl)
theorem bg_1636 : (.codeSync ⟨"java/lang/Throwable", "fillInStackTrace", "()Ljava/lang/Throwable;"⟩ prog_26_method_18_code 1 (some (.object "java/lang/Throwable")) : Cond) ∈ bg := bgf (tb_6 _ (List.mem_of_getElem? (i := 10) (by rfl))) (by rfl)
theorem bg_1637 : (.methodLink "java/lang/Throwable" 202 ⟨"java/lang/Throwable", "fillInStackTrace", "(I)Ljava/lang/Throwable;"⟩ : Cond) ∈ bg := bgf (tb_6 _ (List.mem_of_getElem? (i := 11) (by decide +kernel))) (by rfl)
theorem bg_1638 : (.instanceMethod ⟨"java/lang/Throwable", "fillInStackTrace", "(I)Ljava/lang/Throwable;"⟩ : Cond) ∈ bg := bgf (tb_6 _ (List.mem_of_getElem? (i := 13) (by decide +kernel))) (by rfl)
theorem bg_1639 : (.instantiable "java/lang/Throwable" 6 : Cond) ∈ bg := bgf (tb_6 _ (List.mem_of_getElem? (i := 14) (by decide +kernel))) (by rfl)
theorem bg_1640 : (.native ⟨"java/lang/Throwable", "fillInStackTrace", "(I)Ljava/lang/Throwable;"⟩ : Cond) ∈ bg := bgf (tb_6 _ (List.mem_of_getElem? (i := 15) (by decide +kernel))) (by rfl)
theorem bg_1641 : (.instanceMethod ⟨"java/lang/RuntimeException", "<init>", "(Ljava/lang/String;)V"⟩ : Cond) ∈ bg := bgf (tb_6 _ (List.mem_of_getElem? (i := 21) (by decide +kernel))) (by rfl)
theorem bg_1642 : (.code ⟨"java/lang/RuntimeException", "<init>", "(Ljava/lang/String;)V"⟩ prog_21_method_2_code 2 none : Cond) ∈ bg := bgf (tb_6 _ (List.mem_of_getElem? (i := 22) (by rfl))) (by rfl)
theorem bg_1643 : (.methodLink "java/lang/RuntimeException" 7 ⟨"java/lang/Exception", "<init>", "(Ljava/lang/String;)V"⟩ : Cond) ∈ bg := bgf (tb_6 _ (List.mem_of_getElem? (i := 23) (by decide +kernel))) (by rfl)
theorem bg_1644 : (.instanceMethod ⟨"java/lang/Exception", "<init>", "(Ljava/lang/String;)V"⟩ : Cond) ∈ bg := bgf (tb_6 _ (List.mem_of_getElem? (i := 24) (by decide +kernel))) (by rfl)
theorem bg_1645 : (.code ⟨"java/lang/Exception", "<init>", "(Ljava/lang/String;)V"⟩ prog_16_method_2_code 2 none : Cond) ∈ bg := bgf (tb_6 _ (List.mem_of_getElem? (i := 25) (by rfl))) (by rfl)
theorem bg_1646 : (.methodLink "java/lang/Exception" 7 ⟨"java/lang/Throwable", "<init>", "(Ljava/lang/String;)V"⟩ : Cond) ∈ bg := bgf (tb_6 _ (List.mem_of_getElem? (i := 26) (by decide +kernel))) (by rfl)
theorem bg_1647 : (.instanceMethod ⟨"java/lang/Throwable", "<init>", "(Ljava/lang/String;)V"⟩ : Cond) ∈ bg := bgf (tb_6 _ (List.mem_of_getElem? (i := 27) (by decide +kernel))) (by rfl)
theorem bg_1648 : (.code ⟨"java/lang/Throwable", "<init>", "(Ljava/lang/String;)V"⟩ prog_26_method_2_code 2 none : Cond) ∈ bg := bgf (tb_6 _ (List.mem_of_getElem? (i := 28) (by rfl))) (by rfl)
theorem bg_1649 : (.fieldLink "java/lang/Throwable" 31 "java/lang/Throwable" "detailMessage" "Ljava/lang/String;" : Cond) ∈ bg := bgf (tb_6 _ (List.mem_of_getElem? (i := 30) (by decide +kernel))) (by rfl)
theorem bg_1650 : (.fieldLink "java/lang/Throwable" 7 "java/lang/Throwable" "cause" "Ljava/lang/Throwable;" : Cond) ∈ bg := bgf (tb_6 _ (List.mem_of_getElem? (i := 31) (by decide +kernel))) (by rfl)
theorem bg_1651 : (.fieldLink "java/lang/Throwable" 17 "java/lang/Throwable" "stackTrace" "[Ljava/lang/StackTraceElement;" : Cond) ∈ bg := bgf (tb_6 _ (List.mem_of_getElem? (i := 32) (by decide +kernel))) (by rfl)
theorem bg_1652 : (.fieldLink "java/lang/Throwable" 24 "java/lang/Throwable" "suppressedExceptions" "Ljava/util/List;" : Cond) ∈ bg := bgf (tb_6 _ (List.mem_of_getElem? (i := 33) (by decide +kernel))) (by rfl)
theorem bg_1653 : (.instantiable "java/lang/IllegalArgumentException" 6 : Cond) ∈ bg := bgf (tb_6 _ (List.mem_of_getElem? (i := 69) (by decide +kernel))) (by rfl)
theorem bg_1654 : (.selects "java/lang/IllegalArgumentException" ⟨"java/lang/Throwable", "fillInStackTrace", "(I)Ljava/lang/Throwable;"⟩ ⟨"java/lang/Throwable", "fillInStackTrace", "(I)Ljava/lang/Throwable;"⟩ : Cond) ∈ bg := bgf (tb_6 _ (List.mem_of_getElem? (i := 71) (by decide +kernel))) (by rfl)
theorem bg_1655 : (.lays "java/lang/IllegalArgumentException" "java/lang/Throwable" "cause" "Ljava/lang/Throwable;" : Cond) ∈ bg := bgf (tb_6 _ (List.mem_of_getElem? (i := 72) (by decide +kernel))) (by rfl)
theorem bg_1656 : (.lays "java/lang/IllegalArgumentException" "java/lang/Throwable" "stackTrace" "[Ljava/lang/StackTraceElement;" : Cond) ∈ bg := bgf (tb_6 _ (List.mem_of_getElem? (i := 73) (by decide +kernel))) (by rfl)
theorem bg_1657 : (.lays "java/lang/IllegalArgumentException" "java/lang/Throwable" "suppressedExceptions" "Ljava/util/List;" : Cond) ∈ bg := bgf (tb_6 _ (List.mem_of_getElem? (i := 74) (by decide +kernel))) (by rfl)
theorem bg_1658 : (.lays "java/lang/IllegalArgumentException" "java/lang/Throwable" "detailMessage" "Ljava/lang/String;" : Cond) ∈ bg := bgf (tb_6 _ (List.mem_of_getElem? (i := 75) (by decide +kernel))) (by rfl)
theorem bg_1659 : (.lays "java/lang/IllegalArgumentException" "java/lang/Throwable" "backtrace" "Ljava/lang/Object;" : Cond) ∈ bg := bgf (tb_6 _ (List.mem_of_getElem? (i := 76) (by decide +kernel))) (by rfl)
theorem bg_1660 : (.methodLink "ClassGate" 48 ⟨"java/lang/IllegalArgumentException", "<init>", "(Ljava/lang/String;)V"⟩ : Cond) ∈ bg := bgf (tb_6 _ (List.mem_of_getElem? (i := 78) (by decide +kernel))) (by rfl)
theorem bg_1661 : (.instanceMethod ⟨"java/lang/IllegalArgumentException", "<init>", "(Ljava/lang/String;)V"⟩ : Cond) ∈ bg := bgf (tb_6 _ (List.mem_of_getElem? (i := 79) (by decide +kernel))) (by rfl)
theorem bg_1662 : (.code ⟨"java/lang/IllegalArgumentException", "<init>", "(Ljava/lang/String;)V"⟩ prog_17_method_2_code 2 none : Cond) ∈ bg := bgf (tb_6 _ (List.mem_of_getElem? (i := 80) (by rfl))) (by rfl)
theorem bg_1663 : (.methodLink "java/lang/IllegalArgumentException" 7 ⟨"java/lang/RuntimeException", "<init>", "(Ljava/lang/String;)V"⟩ : Cond) ∈ bg := bgf (tb_6 _ (List.mem_of_getElem? (i := 81) (by decide +kernel))) (by rfl)
theorem bg_1664 : (.lays "java/lang/IllegalArgumentException" "java/lang/Throwable" "depth" "I" : Cond) ∈ bg := bgf (tb_6 _ (List.mem_of_getElem? (i := 82) (by decide +kernel))) (by rfl)
theorem bg_1665 : (.superclass "java/lang/IllegalArgumentException" "java/lang/RuntimeException" : Cond) ∈ bg := bgf (tb_6 _ (List.mem_of_getElem? (i := 83) (by decide +kernel))) (by rfl)
theorem bg_1666 : (.instanceMethod ⟨"java/lang/Object", "<init>", "()V"⟩ : Cond) ∈ bg := bgf (tb_1 _ (List.mem_of_getElem? (i := 33) (by decide +kernel))) (by rfl)
theorem bg_1667 : (.classLink RL 19 "java/lang/IllegalArgumentException" : Cond) ∈ bg := bgf (tb_6 _ (List.mem_of_getElem? (i := 63) (by decide +kernel))) (by rfl)
theorem bg_1668 : (.methodLink RX7 15 Lib.Math.min.name : Cond) ∈ bg := bgf (tb_1 _ (List.mem_of_getElem? (i := 80) (by decide +kernel))) (by rfl)
theorem bg_1669 : (.methodLink RX9 137 Lib.Math.min.name : Cond) ∈ bg := bgf (tb_2 _ (List.mem_of_getElem? (i := 105) (by decide +kernel))) (by rfl)
theorem bg_1670 : (.methodLink RJ7 304 Lib.Math.min.name : Cond) ∈ bg := bgf (tb_6 _ (List.mem_of_getElem? (i := 56) (by decide +kernel))) (by rfl)
theorem bg_1671 : (.static Lib.Math.min.name : Cond) ∈ bg := bgf (tb_1 _ (List.mem_of_getElem? (i := 81) (by decide +kernel))) (by rfl)
theorem bg_1672 : (.code Lib.Math.min.name Lib.Math.min.code 2 (some .int) : Cond) ∈ bg := bgf (tb_1 _ (List.mem_of_getElem? (i := 82) (by rfl))) (by rfl)
theorem bg_1673 : (.methodLink RX4 63 Lib.Math.max.name : Cond) ∈ bg := bgf (tb_5 _ (List.mem_of_getElem? (i := 80) (by decide +kernel))) (by rfl)
theorem bg_1674 : (.methodLink RX7 21 Lib.Math.max.name : Cond) ∈ bg := bgf (tb_1 _ (List.mem_of_getElem? (i := 83) (by decide +kernel))) (by rfl)
theorem bg_1675 : (.methodLink RX9 143 Lib.Math.max.name : Cond) ∈ bg := bgf (tb_2 _ (List.mem_of_getElem? (i := 106) (by decide +kernel))) (by rfl)
theorem bg_1676 : (.static Lib.Math.max.name : Cond) ∈ bg := bgf (tb_1 _ (List.mem_of_getElem? (i := 84) (by decide +kernel))) (by rfl)
theorem bg_1677 : (.code Lib.Math.max.name Lib.Math.max.code 2 (some .int) : Cond) ∈ bg := bgf (tb_1 _ (List.mem_of_getElem? (i := 85) (by rfl))) (by rfl)
theorem bg_1678 : (.initialized "java/lang/Math" : Cond) ∈ bg := bgf (tb_1 _ (List.mem_of_getElem? (i := 12) (by decide +kernel))) (by rfl)
theorem bg_1679 : (.initialized "java/lang/System" : Cond) ∈ bg := bgf (tb_1 _ (List.mem_of_getElem? (i := 13) (by decide +kernel))) (by rfl)
theorem bg_1680 : (.methodLink RJ7 150 arraycopyName : Cond) ∈ bg := bgf (tb_6 _ (List.mem_of_getElem? (i := 57) (by decide +kernel))) (by rfl)
theorem bg_1681 : (.native arraycopyName : Cond) ∈ bg := bgf (tb_6 _ (List.mem_of_getElem? (i := 59) (by decide +kernel))) (by rfl)
theorem bg_1682 : (.static arraycopyName : Cond) ∈ bg := bgf (tb_6 _ (List.mem_of_getElem? (i := 58) (by decide +kernel))) (by rfl)
end
section
theorem bi_X0 : ∀ w ∈ u_ws RX0 TX0 5, w ∈ bg := by
  intro w hw
  obtain ⟨k, hk, rfl⟩ := List.mem_map.mp hw
  have hk := List.mem_range.mp hk
  match k, hk with
  | 0, _ => exact bg_1453
  | 1, _ => exact bg_1454
  | 2, _ => exact bg_1455
  | 3, _ => exact bg_1456
  | 4, _ => exact bg_1457
  | n + 5, h => exact absurd h (by omega)
theorem bi_X1 : ∀ w ∈ u_ws RX1 TX1 1, w ∈ bg := by
  intro w hw
  obtain ⟨k, hk, rfl⟩ := List.mem_map.mp hw
  have hk := List.mem_range.mp hk
  match k, hk with
  | 0, _ => exact bg_1458
  | n + 1, h => exact absurd h (by omega)
theorem bi_X2 : ∀ w ∈ u_ws RX2 TX2 5, w ∈ bg := by
  intro w hw
  obtain ⟨k, hk, rfl⟩ := List.mem_map.mp hw
  have hk := List.mem_range.mp hk
  match k, hk with
  | 0, _ => exact bg_1459
  | 1, _ => exact bg_1460
  | 2, _ => exact bg_1461
  | 3, _ => exact bg_1462
  | 4, _ => exact bg_1463
  | n + 5, h => exact absurd h (by omega)
theorem bi_X3 : ∀ w ∈ u_ws RX3 TX3 17, w ∈ bg := by
  intro w hw
  obtain ⟨k, hk, rfl⟩ := List.mem_map.mp hw
  have hk := List.mem_range.mp hk
  match k, hk with
  | 0, _ => exact bg_1464
  | 1, _ => exact bg_1465
  | 2, _ => exact bg_1466
  | 3, _ => exact bg_1467
  | 4, _ => exact bg_1468
  | 5, _ => exact bg_1469
  | 6, _ => exact bg_1470
  | 7, _ => exact bg_1471
  | 8, _ => exact bg_1472
  | 9, _ => exact bg_1473
  | 10, _ => exact bg_1474
  | 11, _ => exact bg_1475
  | 12, _ => exact bg_1476
  | 13, _ => exact bg_1477
  | 14, _ => exact bg_1478
  | 15, _ => exact bg_1479
  | 16, _ => exact bg_1480
  | n + 17, h => exact absurd h (by omega)
theorem bi_X4 : ∀ w ∈ u_ws RX4 TX4 11, w ∈ bg := by
  intro w hw
  obtain ⟨k, hk, rfl⟩ := List.mem_map.mp hw
  have hk := List.mem_range.mp hk
  match k, hk with
  | 0, _ => exact bg_1481
  | 1, _ => exact bg_1482
  | 2, _ => exact bg_1483
  | 3, _ => exact bg_1484
  | 4, _ => exact bg_1485
  | 5, _ => exact bg_1486
  | 6, _ => exact bg_1487
  | 7, _ => exact bg_1488
  | 8, _ => exact bg_1489
  | 9, _ => exact bg_1490
  | 10, _ => exact bg_1491
  | n + 11, h => exact absurd h (by omega)
theorem bi_X5 : ∀ w ∈ u_ws RX5 TX5 12, w ∈ bg := by
  intro w hw
  obtain ⟨k, hk, rfl⟩ := List.mem_map.mp hw
  have hk := List.mem_range.mp hk
  match k, hk with
  | 0, _ => exact bg_1492
  | 1, _ => exact bg_1493
  | 2, _ => exact bg_1494
  | 3, _ => exact bg_1495
  | 4, _ => exact bg_1496
  | 5, _ => exact bg_1497
  | 6, _ => exact bg_1498
  | 7, _ => exact bg_1499
  | 8, _ => exact bg_1500
  | 9, _ => exact bg_1501
  | 10, _ => exact bg_1502
  | 11, _ => exact bg_1503
  | n + 12, h => exact absurd h (by omega)
theorem bi_X6 : ∀ w ∈ u_ws RX6 TX6 11, w ∈ bg := by
  intro w hw
  obtain ⟨k, hk, rfl⟩ := List.mem_map.mp hw
  have hk := List.mem_range.mp hk
  match k, hk with
  | 0, _ => exact bg_1504
  | 1, _ => exact bg_1505
  | 2, _ => exact bg_1506
  | 3, _ => exact bg_1507
  | 4, _ => exact bg_1508
  | 5, _ => exact bg_1509
  | 6, _ => exact bg_1510
  | 7, _ => exact bg_1511
  | 8, _ => exact bg_1512
  | 9, _ => exact bg_1513
  | 10, _ => exact bg_1514
  | n + 11, h => exact absurd h (by omega)
theorem bi_X7 : ∀ w ∈ u_ws RX7 TX7 8, w ∈ bg := by
  intro w hw
  obtain ⟨k, hk, rfl⟩ := List.mem_map.mp hw
  have hk := List.mem_range.mp hk
  match k, hk with
  | 0, _ => exact bg_1515
  | 1, _ => exact bg_1516
  | 2, _ => exact bg_1517
  | 3, _ => exact bg_1518
  | 4, _ => exact bg_1519
  | 5, _ => exact bg_1520
  | 6, _ => exact bg_1521
  | 7, _ => exact bg_1522
  | n + 8, h => exact absurd h (by omega)
theorem bi_X8 : ∀ w ∈ u_ws RX8 TX8 3, w ∈ bg := by
  intro w hw
  obtain ⟨k, hk, rfl⟩ := List.mem_map.mp hw
  have hk := List.mem_range.mp hk
  match k, hk with
  | 0, _ => exact bg_1523
  | 1, _ => exact bg_1524
  | 2, _ => exact bg_1525
  | n + 3, h => exact absurd h (by omega)
theorem bi_X9 : ∀ w ∈ u_ws RX9 TX9 5, w ∈ bg := by
  intro w hw
  obtain ⟨k, hk, rfl⟩ := List.mem_map.mp hw
  have hk := List.mem_range.mp hk
  match k, hk with
  | 0, _ => exact bg_1526
  | 1, _ => exact bg_1527
  | 2, _ => exact bg_1528
  | 3, _ => exact bg_1529
  | 4, _ => exact bg_1530
  | n + 5, h => exact absurd h (by omega)
theorem bi_X10 : ∀ w ∈ u_ws RX10 TX10 2, w ∈ bg := by
  intro w hw
  obtain ⟨k, hk, rfl⟩ := List.mem_map.mp hw
  have hk := List.mem_range.mp hk
  match k, hk with
  | 0, _ => exact bg_1531
  | 1, _ => exact bg_1532
  | n + 2, h => exact absurd h (by omega)
theorem bi_X11 : ∀ w ∈ u_ws RX11 TX11 5, w ∈ bg := by
  intro w hw
  obtain ⟨k, hk, rfl⟩ := List.mem_map.mp hw
  have hk := List.mem_range.mp hk
  match k, hk with
  | 0, _ => exact bg_1533
  | 1, _ => exact bg_1534
  | 2, _ => exact bg_1535
  | 3, _ => exact bg_1536
  | 4, _ => exact bg_1537
  | n + 5, h => exact absurd h (by omega)
theorem bi_X12 : ∀ w ∈ u_ws RX12 TX12 82, w ∈ bg := by
  intro w hw
  obtain ⟨k, hk, rfl⟩ := List.mem_map.mp hw
  have hk := List.mem_range.mp hk
  match k, hk with
  | 0, _ => exact bg_1538
  | 1, _ => exact bg_1539
  | 2, _ => exact bg_1540
  | 3, _ => exact bg_1541
  | 4, _ => exact bg_1542
  | 5, _ => exact bg_1543
  | 6, _ => exact bg_1544
  | 7, _ => exact bg_1545
  | 8, _ => exact bg_1546
  | 9, _ => exact bg_1547
  | 10, _ => exact bg_1548
  | 11, _ => exact bg_1549
  | 12, _ => exact bg_1550
  | 13, _ => exact bg_1551
  | 14, _ => exact bg_1552
  | 15, _ => exact bg_1553
  | 16, _ => exact bg_1554
  | 17, _ => exact bg_1555
  | 18, _ => exact bg_1556
  | 19, _ => exact bg_1557
  | 20, _ => exact bg_1558
  | 21, _ => exact bg_1559
  | 22, _ => exact bg_1560
  | 23, _ => exact bg_1561
  | 24, _ => exact bg_1562
  | 25, _ => exact bg_1563
  | 26, _ => exact bg_1564
  | 27, _ => exact bg_1565
  | 28, _ => exact bg_1566
  | 29, _ => exact bg_1567
  | 30, _ => exact bg_1568
  | 31, _ => exact bg_1569
  | 32, _ => exact bg_1570
  | 33, _ => exact bg_1571
  | 34, _ => exact bg_1572
  | 35, _ => exact bg_1573
  | 36, _ => exact bg_1574
  | 37, _ => exact bg_1575
  | 38, _ => exact bg_1576
  | 39, _ => exact bg_1577
  | 40, _ => exact bg_1578
  | 41, _ => exact bg_1579
  | 42, _ => exact bg_1580
  | 43, _ => exact bg_1581
  | 44, _ => exact bg_1582
  | 45, _ => exact bg_1583
  | 46, _ => exact bg_1584
  | 47, _ => exact bg_1585
  | 48, _ => exact bg_1586
  | 49, _ => exact bg_1587
  | 50, _ => exact bg_1588
  | 51, _ => exact bg_1589
  | 52, _ => exact bg_1590
  | 53, _ => exact bg_1591
  | 54, _ => exact bg_1592
  | 55, _ => exact bg_1593
  | 56, _ => exact bg_1594
  | 57, _ => exact bg_1595
  | 58, _ => exact bg_1596
  | 59, _ => exact bg_1597
  | 60, _ => exact bg_1598
  | 61, _ => exact bg_1599
  | 62, _ => exact bg_1600
  | 63, _ => exact bg_1601
  | 64, _ => exact bg_1602
  | 65, _ => exact bg_1603
  | 66, _ => exact bg_1604
  | 67, _ => exact bg_1605
  | 68, _ => exact bg_1606
  | 69, _ => exact bg_1607
  | 70, _ => exact bg_1608
  | 71, _ => exact bg_1609
  | 72, _ => exact bg_1610
  | 73, _ => exact bg_1611
  | 74, _ => exact bg_1612
  | 75, _ => exact bg_1613
  | 76, _ => exact bg_1614
  | 77, _ => exact bg_1615
  | 78, _ => exact bg_1616
  | 79, _ => exact bg_1617
  | 80, _ => exact bg_1618
  | 81, _ => exact bg_1619
  | n + 82, h => exact absurd h (by omega)
end
section
def xe_ch (k j : Nat) : Int32 := ((((xe_lt k).2.2.2.getD j 0) &&& 255).toUInt32 % 65536).toInt32
theorem xe_len : ∀ k, k < xe_M → (xe_lt k).2.2.2.length ≤ 202 := by decide +kernel
theorem xe_chn (k j : Nat) : narrow .char (.int (xe_ch k j)) = .int (xe_ch k j) := pk_nc _
theorem xe_chv (k j : Nat) : vp_nar .char (xe_ch k j) = xe_ch k j := pk_vc _
theorem dJ0_coder_7d493_0 : decode cJ0_coder_7d493 0 = .ok (.getstatic 38, 3) := by decide +kernel
theorem dJ0_coder_7d493_3 : decode cJ0_coder_7d493 3 = .ok (.ifCond .eq 10, 3) := by decide +kernel
theorem dJ0_coder_7d493_6 : decode cJ0_coder_7d493 6 = .ok (.aload_n 0, 1) := by decide +kernel
theorem dJ0_coder_7d493_7 : decode cJ0_coder_7d493 7 = .ok (.getfield 15, 3) := by decide +kernel
theorem dJ0_coder_7d493_10 : decode cJ0_coder_7d493 10 = .ok (.goto 4, 3) := by decide +kernel
theorem dJ0_coder_7d493_14 : decode cJ0_coder_7d493 14 = .ok (.ireturn, 1) := by decide +kernel
set_option maxHeartbeats 4000000 in
set_option maxRecDepth 100000 in
theorem cs_coder (l : Launch) (D : va_G) (g : xe_G) (k : Nat) (sz : Nat) (hk : k < xe_M) : Met l yJ0_coder_7d493 (.code yJ0_coder_7d493 cJ0_coder_7d493 1 (some .byte) :: bg) ({ frames := 1, cells := 0, slots := 0, locals := 120 } : Room) (xb_Pre (xe_E g) D vwCl [] [] sz [.ref (g.2.1 k)]) (va_Qi (fun r _ => r = 0) (xb_B D vwCl (va_A [] sz) (fun u : Unit => []) (fun u : Unit => [])) (va_A [] sz)) 0 0 (va_A [] sz) := by
  refine Met.ofW (cc := cJ0_coder_7d493) (maxL := 1) (ret := (some .byte)) (by decide) rfl ?_
  intro p e s m args below meth c s₁ B hml hv
  obtain ⟨rfl, hsz, hP, hK, hD0, hE⟩ := hv
  have hx := B.exec
  have hb := B.bytes
  have hr := B.returns
  have hts := atoms_spec (ws := (.code yJ0_coder_7d493 cJ0_coder_7d493 1 (some .byte) :: bg)) B.pre
  have htb : ∀ w ∈ bg, w.before _ s = true := fun w h => hts w (List.mem_cons_of_mem _ h)
  have hown : s.vm.findClass RJ0 = some m.cls := findClass_of_methodNamed B.named
  have hlocks := B.notSynchronized
  subst hsz
  have hD := hD0.self (sz := s.heap.size)
  generalize hAe : va_A [] s.heap.size = A at hD hE ⊢
  have hA : ∀ q : Nat, s.heap.size ≤ q → A q := fun q h => by rw [← hAe]; exact Or.inr h
  have hS : va_S A s.heap s.heap [] := va_S.rf
  have hP : va_P D vwCl [] s.heap := hP
  have hl := lv_entry ([.ref (g.2.1 k)]) (n := 1) (Nat.le_of_ble_eq_true rfl)
  rw [lg_entry_eq]
  generalize (lg_sl ([.ref (g.2.1 k)]) ++ List.replicate (1 - (lg_sl ([.ref (g.2.1 k)])).length) Slot.unset).toArray = ls at hl ⊢
  have hl : lv_has ls 1 [(0, .ref (g.2.1 k))] := hl
  refine va_gets hx hb (hE.2.2.1) hS hown (htb _ bg_1313) (fun _ h9 => h9) dJ0_coder_7d493_0 ?_
  refine lv_if_eq (tgt := 13) hx hb dJ0_coder_7d493_3 (by decide) (fun c_3 => ?_) (fun c_3 => ?_)
  · exact absurd c_3 (by decide)
  refine lv_aload_n hx hb dJ0_coder_7d493_6 rfl (lv_at hl 0 rfl) ?_
  refine vk_getf hx hb (hE.2.2.2.2.2.2.2.1 k hk).1 hS hown (htb _ bg_1314) (fun _ h9 => h9) dJ0_coder_7d493_7 ?_
  refine lv_goto (tgt := 14) hx hb dJ0_coder_7d493_10 (by decide) ?_
  have hP9 := hP.sub (ws' := []) [] rfl
  have hD9 := hD.sub (ws' := []) [] rfl rfl
  have hK9 := hK.sub (tys' := []) [] rfl
  exact W.zret (v := 0) hx hb hr (by decide) (fun t ht hW => ⟨⟨0, (), rfl, rfl, by rw [ht]; exact hP9, va_K.moved hW.alike hK9, hD9⟩, hS.F ht⟩) hS.2.2 dJ0_coder_7d493_14
theorem dJ0_isLatin1_aae02_0 : decode cJ0_isLatin1_aae02 0 = .ok (.getstatic 38, 3) := by decide +kernel
theorem dJ0_isLatin1_aae02_3 : decode cJ0_isLatin1_aae02 3 = .ok (.ifCond .eq 14, 3) := by decide +kernel
theorem dJ0_isLatin1_aae02_6 : decode cJ0_isLatin1_aae02 6 = .ok (.aload_n 0, 1) := by decide +kernel
theorem dJ0_isLatin1_aae02_7 : decode cJ0_isLatin1_aae02 7 = .ok (.getfield 15, 3) := by decide +kernel
theorem dJ0_isLatin1_aae02_10 : decode cJ0_isLatin1_aae02 10 = .ok (.ifCond .ne 7, 3) := by decide +kernel
theorem dJ0_isLatin1_aae02_13 : decode cJ0_isLatin1_aae02 13 = .ok (.iconst 1, 1) := by decide +kernel
theorem dJ0_isLatin1_aae02_14 : decode cJ0_isLatin1_aae02 14 = .ok (.goto 4, 3) := by decide +kernel
theorem dJ0_isLatin1_aae02_18 : decode cJ0_isLatin1_aae02 18 = .ok (.ireturn, 1) := by decide +kernel
set_option maxHeartbeats 4000000 in
set_option maxRecDepth 100000 in
theorem cs_latin (l : Launch) (D : va_G) (g : xe_G) (k : Nat) (sz : Nat) (hk : k < xe_M) : Met l yJ0_isLatin1_aae02 (.code yJ0_isLatin1_aae02 cJ0_isLatin1_aae02 1 (some .boolean) :: bg) ({ frames := 1, cells := 0, slots := 0, locals := 120 } : Room) (xb_Pre (xe_E g) D vwCl [] [] sz [.ref (g.2.1 k)]) (va_Qi (fun r _ => r = 1) (xb_B D vwCl (va_A [] sz) (fun u : Unit => []) (fun u : Unit => [])) (va_A [] sz)) 0 0 (va_A [] sz) := by
  refine Met.ofW (cc := cJ0_isLatin1_aae02) (maxL := 1) (ret := (some .boolean)) (by decide) rfl ?_
  intro p e s m args below meth c s₁ B hml hv
  obtain ⟨rfl, hsz, hP, hK, hD0, hE⟩ := hv
  have hx := B.exec
  have hb := B.bytes
  have hr := B.returns
  have hts := atoms_spec (ws := (.code yJ0_isLatin1_aae02 cJ0_isLatin1_aae02 1 (some .boolean) :: bg)) B.pre
  have htb : ∀ w ∈ bg, w.before _ s = true := fun w h => hts w (List.mem_cons_of_mem _ h)
  have hown : s.vm.findClass RJ0 = some m.cls := findClass_of_methodNamed B.named
  have hlocks := B.notSynchronized
  subst hsz
  have hD := hD0.self (sz := s.heap.size)
  generalize hAe : va_A [] s.heap.size = A at hD hE ⊢
  have hA : ∀ q : Nat, s.heap.size ≤ q → A q := fun q h => by rw [← hAe]; exact Or.inr h
  have hS : va_S A s.heap s.heap [] := va_S.rf
  have hP : va_P D vwCl [] s.heap := hP
  have hl := lv_entry ([.ref (g.2.1 k)]) (n := 1) (Nat.le_of_ble_eq_true rfl)
  rw [lg_entry_eq]
  generalize (lg_sl ([.ref (g.2.1 k)]) ++ List.replicate (1 - (lg_sl ([.ref (g.2.1 k)])).length) Slot.unset).toArray = ls at hl ⊢
  have hl : lv_has ls 1 [(0, .ref (g.2.1 k))] := hl
  refine va_gets hx hb (hE.2.2.1) hS hown (htb _ bg_1313) (fun _ h9 => h9) dJ0_isLatin1_aae02_0 ?_
  refine lv_if_eq (tgt := 17) hx hb dJ0_isLatin1_aae02_3 (by decide) (fun c_3 => ?_) (fun c_3 => ?_)
  · exact absurd c_3 (by decide)
  refine lv_aload_n hx hb dJ0_isLatin1_aae02_6 rfl (lv_at hl 0 rfl) ?_
  refine vk_getf hx hb (hE.2.2.2.2.2.2.2.1 k hk).1 hS hown (htb _ bg_1314) (fun _ h9 => h9) dJ0_isLatin1_aae02_7 ?_
  refine lv_if_ne (tgt := 17) hx hb dJ0_isLatin1_aae02_10 (by decide) (fun c_10 => ?_) (fun c_10 => ?_)
  · exact absurd (by decide) c_10
  refine lv_iconst (v := 1) hx hb dJ0_isLatin1_aae02_13 (by decide) ?_
  refine lv_goto (tgt := 18) hx hb dJ0_isLatin1_aae02_14 (by decide) ?_
  have hP9 := hP.sub (ws' := []) [] rfl
  have hD9 := hD.sub (ws' := []) [] rfl rfl
  have hK9 := hK.sub (tys' := []) [] rfl
  exact W.zret (v := 1) hx hb hr (by decide) (fun t ht hW => ⟨⟨1, (), rfl, rfl, by rw [ht]; exact hP9, va_K.moved hW.alike hK9, hD9⟩, hS.F ht⟩) hS.2.2 dJ0_isLatin1_aae02_18
theorem dJ0_length_8abf5_0 : decode cJ0_length_8abf5 0 = .ok (.aload_n 0, 1) := by decide +kernel
theorem dJ0_length_8abf5_1 : decode cJ0_length_8abf5 1 = .ok (.getfield 9, 3) := by decide +kernel
theorem dJ0_length_8abf5_4 : decode cJ0_length_8abf5 4 = .ok (.arraylength, 1) := by decide +kernel
theorem dJ0_length_8abf5_5 : decode cJ0_length_8abf5 5 = .ok (.aload_n 0, 1) := by decide +kernel
theorem dJ0_length_8abf5_6 : decode cJ0_length_8abf5 6 = .ok (.invokevirtual 335, 3) := by decide +kernel
theorem dJ0_length_8abf5_9 : decode cJ0_length_8abf5 9 = .ok (.ishr, 1) := by decide +kernel
theorem dJ0_length_8abf5_10 : decode cJ0_length_8abf5 10 = .ok (.ireturn, 1) := by decide +kernel
set_option maxHeartbeats 4000000 in
set_option maxRecDepth 100000 in
theorem cs_length (l : Launch) (D : va_G) (g : xe_G) (k : Nat) (sz : Nat) (hk : k < xe_M) : Met l yJ0_length_8abf5 (.code yJ0_length_8abf5 cJ0_length_8abf5 1 (some .int) :: bg) ({ frames := 2, cells := 0, slots := 0, locals := 240 } : Room) (xb_Pre (xe_E g) D vwCl [] [] sz [.ref (g.2.1 k)]) (va_Qi (fun r _ => r = (nI ((xe_lt k).2.2.2.length))) (xb_B D vwCl (va_A [] sz) (fun u : Unit => []) (fun u : Unit => [])) (va_A [] sz)) 0 0 (va_A [] sz) := by
  refine Met.ofW (cc := cJ0_length_8abf5) (maxL := 1) (ret := (some .int)) (by decide) rfl ?_
  intro p e s m args below meth c s₁ B hml hv
  obtain ⟨rfl, hsz, hP, hK, hD0, hE⟩ := hv
  have hx := B.exec
  have hb := B.bytes
  have hr := B.returns
  have hts := atoms_spec (ws := (.code yJ0_length_8abf5 cJ0_length_8abf5 1 (some .int) :: bg)) B.pre
  have htb : ∀ w ∈ bg, w.before _ s = true := fun w h => hts w (List.mem_cons_of_mem _ h)
  have hown : s.vm.findClass RJ0 = some m.cls := findClass_of_methodNamed B.named
  have hlocks := B.notSynchronized
  subst hsz
  have hD := hD0.self (sz := s.heap.size)
  generalize hAe : va_A [] s.heap.size = A at hD hE ⊢
  have hA : ∀ q : Nat, s.heap.size ≤ q → A q := fun q h => by rw [← hAe]; exact Or.inr h
  have hS : va_S A s.heap s.heap [] := va_S.rf
  have hP : va_P D vwCl [] s.heap := hP
  have hl := lv_entry ([.ref (g.2.1 k)]) (n := 1) (Nat.le_of_ble_eq_true rfl)
  rw [lg_entry_eq]
  generalize (lg_sl ([.ref (g.2.1 k)]) ++ List.replicate (1 - (lg_sl ([.ref (g.2.1 k)])).length) Slot.unset).toArray = ls at hl ⊢
  have hl : lv_has ls 1 [(0, .ref (g.2.1 k))] := hl
  refine lv_aload_n hx hb dJ0_length_8abf5_0 rfl (lv_at hl 0 rfl) ?_
  refine vk_getf hx hb (hE.2.2.2.2.2.2.2.1 k hk).2.1 hS hown (htb _ bg_1300) (fun _ h9 => h9) dJ0_length_8abf5_1 ?_
  refine va_tlen (v := (nI ((xe_lt k).2.2.2.length))) hx hb (hE.2.2.2.2.2.2.2.1 k hk).2.2 hS rfl dJ0_length_8abf5_4 ?_
  refine lv_aload_n hx hb dJ0_length_8abf5_5 rfl (lv_at hl 0 rfl) ?_
  refine xb_goi (wr := []) (va_runV (As := []) (rest := [.int (nI ((xe_lt k).2.2.2.length))]) ⟨hx, hb, hml, hown, htb⟩ (cs_coder l D g k (Array.size s.heap) (hk)) (bg_V 0 htb bg_1301 bg_1303 bg_1304 bg_556 bg_1302 rfl rfl (by decide +kernel) ⟨Nat.le_of_ble_eq_true rfl, Nat.le_of_ble_eq_true rfl⟩) ⟨xb_blind xe_ok, xe_recv hE hS k (Nat.lt_trans hk (by decide)), xb_enter xe_ok hK hP hD hS hA hE [] rfl rfl rfl [] rfl⟩ rfl rfl hl.1 rfl (lv_room (Nat.le_of_ble_eq_true rfl)) dJ0_length_8abf5_6 ⟨Nat.le_of_ble_eq_true rfl, Nat.le_of_ble_eq_true rfl⟩) hK hP hD hS hA [] [] rfl rfl rfl (by decide) (fun r_6 u_6 H locs hw_6 hP hD hK hS => ?_)
  have hP : va_P D vwCl [] H := hP
  have hD : va_D A [] := hD
  have hK : va_K D vwCl [] s := hK
  refine W.widen (k := 0) (n := 0) (by decide) (by decide) ?_
  have hw_6 : r_6 = 0 := hw_6
  subst hw_6
  refine lv_ishr hx hb dJ0_length_8abf5_9 ?_
  refine lv_topi (fun x_9 ex_9 => ?_)
  have hx_9 : x_9 = (nI ((xe_lt k).2.2.2.length)) := by rw [ex_9]; exact sb_shr0 _
  rw [hx_9]
  have hP9 := hP.sub (ws' := []) [] rfl
  have hD9 := hD.sub (ws' := []) [] rfl rfl
  have hK9 := hK.sub (tys' := []) [] rfl
  exact W.iret (v := (nI ((xe_lt k).2.2.2.length))) hx hb hr (fun t ht hW => ⟨⟨(nI ((xe_lt k).2.2.2.length)), (), rfl, rfl, by rw [ht]; exact hP9, va_K.moved hW.alike hK9, hD9⟩, hS.F ht⟩) hS.2.2 dJ0_length_8abf5_10
theorem dJ3_checkIndex_8e157_0 : decode cJ3_checkIndex_8e157 0 = .ok (.iload_n 0, 1) := by decide +kernel
theorem dJ3_checkIndex_8e157_1 : decode cJ3_checkIndex_8e157 1 = .ok (.ifCond .lt 8, 3) := by decide +kernel
theorem dJ3_checkIndex_8e157_4 : decode cJ3_checkIndex_8e157 4 = .ok (.iload_n 0, 1) := by decide +kernel
theorem dJ3_checkIndex_8e157_5 : decode cJ3_checkIndex_8e157 5 = .ok (.iload_n 1, 1) := by decide +kernel
theorem dJ3_checkIndex_8e157_6 : decode cJ3_checkIndex_8e157 6 = .ok (.if_icmp .lt 10, 3) := by decide +kernel
theorem dJ3_checkIndex_8e157_16 : decode cJ3_checkIndex_8e157 16 = .ok (.iload_n 0, 1) := by decide +kernel
theorem dJ3_checkIndex_8e157_17 : decode cJ3_checkIndex_8e157 17 = .ok (.ireturn, 1) := by decide +kernel
set_option maxHeartbeats 4000000 in
set_option maxRecDepth 100000 in
theorem cs_preN (l : Launch) (D : va_G) (g : xe_G) (i : Int32) (n : Int32) (sz : Nat) (hi : ¬ i < 0) (hn : i < n) : Met l yJ3_checkIndex_8e157 (.code yJ3_checkIndex_8e157 cJ3_checkIndex_8e157 3 (some .int) :: bg) ({ frames := 1, cells := 0, slots := 0, locals := 120 } : Room) (xb_Pre (xe_E g) D vwCl [] [] sz [.int i, .int n, .null]) (va_Qi (fun r _ => r = i) (xb_B D vwCl (va_A [] sz) (fun u : Unit => []) (fun u : Unit => [])) (va_A [] sz)) 0 0 (va_A [] sz) := by
  refine Met.ofW (cc := cJ3_checkIndex_8e157) (maxL := 3) (ret := (some .int)) (by decide) rfl ?_
  intro p e s m args below meth c s₁ B hml hv
  obtain ⟨rfl, hsz, hP, hK, hD0, hE⟩ := hv
  have hx := B.exec
  have hb := B.bytes
  have hr := B.returns
  have hts := atoms_spec (ws := (.code yJ3_checkIndex_8e157 cJ3_checkIndex_8e157 3 (some .int) :: bg)) B.pre
  have htb : ∀ w ∈ bg, w.before _ s = true := fun w h => hts w (List.mem_cons_of_mem _ h)
  have hown : s.vm.findClass RJ3 = some m.cls := findClass_of_methodNamed B.named
  have hlocks := B.notSynchronized
  subst hsz
  have hD := hD0.self (sz := s.heap.size)
  generalize hAe : va_A [] s.heap.size = A at hD hE ⊢
  have hA : ∀ q : Nat, s.heap.size ≤ q → A q := fun q h => by rw [← hAe]; exact Or.inr h
  have hS : va_S A s.heap s.heap [] := va_S.rf
  have hP : va_P D vwCl [] s.heap := hP
  have hl := lv_entry ([.int i, .int n, .null]) (n := 3) (Nat.le_of_ble_eq_true rfl)
  rw [lg_entry_eq]
  generalize (lg_sl ([.int i, .int n, .null]) ++ List.replicate (3 - (lg_sl ([.int i, .int n, .null])).length) Slot.unset).toArray = ls at hl ⊢
  have hl : lv_has ls 3 [(0, .int i), (1, .int n), (2, .null)] := hl
  refine lv_iload_n hx hb dJ3_checkIndex_8e157_0 rfl (lv_at hl 0 rfl) ?_
  refine lv_if_lt (tgt := 9) hx hb dJ3_checkIndex_8e157_1 (by decide) (fun c_1 => ?_) (fun c_1 => ?_)
  · exact absurd c_1 (hi)
  refine lv_iload_n hx hb dJ3_checkIndex_8e157_4 rfl (lv_at hl 0 rfl) ?_
  refine lv_iload_n hx hb dJ3_checkIndex_8e157_5 rfl (lv_at hl 1 rfl) ?_
  refine lv_icmp_lt (tgt := 16) hx hb dJ3_checkIndex_8e157_6 (by decide) (fun c_6 => ?_) (fun c_6 => ?_)
  rotate_left
  · exact absurd (hn) c_6
  refine lv_iload_n hx hb dJ3_checkIndex_8e157_16 rfl (lv_at hl 0 rfl) ?_
  have hP9 := hP.sub (ws' := []) [] rfl
  have hD9 := hD.sub (ws' := []) [] rfl rfl
  have hK9 := hK.sub (tys' := []) [] rfl
  exact W.iret (v := i) hx hb hr (fun t ht hW => ⟨⟨i, (), rfl, rfl, by rw [ht]; exact hP9, va_K.moved hW.alike hK9, hD9⟩, hS.F ht⟩) hS.2.2 dJ3_checkIndex_8e157_17
set_option maxHeartbeats 4000000 in
set_option maxRecDepth 100000 in
theorem cs_preR (l : Launch) (D : va_G) (g : xe_G) (i : Int32) (n : Int32) (fv : Nat) (sz : Nat) (hi : ¬ i < 0) (hn : i < n) : Met l yJ3_checkIndex_8e157 (.code yJ3_checkIndex_8e157 cJ3_checkIndex_8e157 3 (some .int) :: bg) ({ frames := 1, cells := 0, slots := 0, locals := 120 } : Room) (xb_Pre (xe_E g) D vwCl [] [] sz [.int i, .int n, .ref fv]) (va_Qi (fun r _ => r = i) (xb_B D vwCl (va_A [] sz) (fun u : Unit => []) (fun u : Unit => [])) (va_A [] sz)) 0 0 (va_A [] sz) := by
  refine Met.ofW (cc := cJ3_checkIndex_8e157) (maxL := 3) (ret := (some .int)) (by decide) rfl ?_
  intro p e s m args below meth c s₁ B hml hv
  obtain ⟨rfl, hsz, hP, hK, hD0, hE⟩ := hv
  have hx := B.exec
  have hb := B.bytes
  have hr := B.returns
  have hts := atoms_spec (ws := (.code yJ3_checkIndex_8e157 cJ3_checkIndex_8e157 3 (some .int) :: bg)) B.pre
  have htb : ∀ w ∈ bg, w.before _ s = true := fun w h => hts w (List.mem_cons_of_mem _ h)
  have hown : s.vm.findClass RJ3 = some m.cls := findClass_of_methodNamed B.named
  have hlocks := B.notSynchronized
  subst hsz
  have hD := hD0.self (sz := s.heap.size)
  generalize hAe : va_A [] s.heap.size = A at hD hE ⊢
  have hA : ∀ q : Nat, s.heap.size ≤ q → A q := fun q h => by rw [← hAe]; exact Or.inr h
  have hS : va_S A s.heap s.heap [] := va_S.rf
  have hP : va_P D vwCl [] s.heap := hP
  have hl := lv_entry ([.int i, .int n, .ref fv]) (n := 3) (Nat.le_of_ble_eq_true rfl)
  rw [lg_entry_eq]
  generalize (lg_sl ([.int i, .int n, .ref fv]) ++ List.replicate (3 - (lg_sl ([.int i, .int n, .ref fv])).length) Slot.unset).toArray = ls at hl ⊢
  have hl : lv_has ls 3 [(0, .int i), (1, .int n), (2, .ref fv)] := hl
  refine lv_iload_n hx hb dJ3_checkIndex_8e157_0 rfl (lv_at hl 0 rfl) ?_
  refine lv_if_lt (tgt := 9) hx hb dJ3_checkIndex_8e157_1 (by decide) (fun c_1 => ?_) (fun c_1 => ?_)
  · exact absurd c_1 (hi)
  refine lv_iload_n hx hb dJ3_checkIndex_8e157_4 rfl (lv_at hl 0 rfl) ?_
  refine lv_iload_n hx hb dJ3_checkIndex_8e157_5 rfl (lv_at hl 1 rfl) ?_
  refine lv_icmp_lt (tgt := 16) hx hb dJ3_checkIndex_8e157_6 (by decide) (fun c_6 => ?_) (fun c_6 => ?_)
  rotate_left
  · exact absurd (hn) c_6
  refine lv_iload_n hx hb dJ3_checkIndex_8e157_16 rfl (lv_at hl 0 rfl) ?_
  have hP9 := hP.sub (ws' := []) [] rfl
  have hD9 := hD.sub (ws' := []) [] rfl rfl
  have hK9 := hK.sub (tys' := []) [] rfl
  exact W.iret (v := i) hx hb hr (fun t ht hW => ⟨⟨i, (), rfl, rfl, by rw [ht]; exact hP9, va_K.moved hW.alike hK9, hD9⟩, hS.F ht⟩) hS.2.2 dJ3_checkIndex_8e157_17
theorem dJ0_checkIndex_df160_0 : decode cJ0_checkIndex_df160 0 = .ok (.iload_n 0, 1) := by decide +kernel
theorem dJ0_checkIndex_df160_1 : decode cJ0_checkIndex_df160 1 = .ok (.iload_n 1, 1) := by decide +kernel
theorem dJ0_checkIndex_df160_2 : decode cJ0_checkIndex_df160 2 = .ok (.getstatic 1053, 3) := by decide +kernel
theorem dJ0_checkIndex_df160_5 : decode cJ0_checkIndex_df160 5 = .ok (.invokestatic 1059, 3) := by decide +kernel
theorem dJ0_checkIndex_df160_8 : decode cJ0_checkIndex_df160 8 = .ok (.pop, 1) := by decide +kernel
theorem dJ0_checkIndex_df160_9 : decode cJ0_checkIndex_df160 9 = .ok (.return_, 1) := by decide +kernel
set_option maxHeartbeats 4000000 in
set_option maxRecDepth 100000 in
theorem cs_check (l : Launch) (D : va_G) (g : xe_G) (i : Int32) (n : Int32) (sz : Nat) (hi : ¬ i < 0) (hn : i < n) : Met l yJ0_checkIndex_df160 (.code yJ0_checkIndex_df160 cJ0_checkIndex_df160 2 none :: bg) ({ frames := 2, cells := 0, slots := 0, locals := 240 } : Room) (xb_Pre (xe_E g) D vwCl [] [] sz [.int i, .int n]) (va_Qv (fun _ => True) (xb_B D vwCl (va_A [] sz) (fun u : Unit => []) (fun u : Unit => [])) (va_A [] sz)) 0 0 (va_A [] sz) := by
  refine Met.ofW (cc := cJ0_checkIndex_df160) (maxL := 2) (ret := none) (by decide) rfl ?_
  intro p e s m args below meth c s₁ B hml hv
  obtain ⟨rfl, hsz, hP, hK, hD0, hE⟩ := hv
  have hx := B.exec
  have hb := B.bytes
  have hr := B.returns
  have hts := atoms_spec (ws := (.code yJ0_checkIndex_df160 cJ0_checkIndex_df160 2 none :: bg)) B.pre
  have htb : ∀ w ∈ bg, w.before _ s = true := fun w h => hts w (List.mem_cons_of_mem _ h)
  have hown : s.vm.findClass RJ0 = some m.cls := findClass_of_methodNamed B.named
  have hlocks := B.notSynchronized
  subst hsz
  have hD := hD0.self (sz := s.heap.size)
  generalize hAe : va_A [] s.heap.size = A at hD hE ⊢
  have hA : ∀ q : Nat, s.heap.size ≤ q → A q := fun q h => by rw [← hAe]; exact Or.inr h
  have hS : va_S A s.heap s.heap [] := va_S.rf
  have hP : va_P D vwCl [] s.heap := hP
  have hl := lv_entry ([.int i, .int n]) (n := 2) (Nat.le_of_ble_eq_true rfl)
  rw [lg_entry_eq]
  generalize (lg_sl ([.int i, .int n]) ++ List.replicate (2 - (lg_sl ([.int i, .int n])).length) Slot.unset).toArray = ls at hl ⊢
  have hl : lv_has ls 2 [(0, .int i), (1, .int n)] := hl
  refine lv_iload_n hx hb dJ0_checkIndex_df160_0 rfl (lv_at hl 0 rfl) ?_
  refine lv_iload_n hx hb dJ0_checkIndex_df160_1 rfl (lv_at hl 1 rfl) ?_
  rcases hE.2.2.2.1 with hz | ⟨t9, hz⟩
  · skip
    refine va_gets hx hb hz hS hown (htb _ bg_1316) (fun _ h9 => h9) dJ0_checkIndex_df160_2 ?_
    refine xb_goi (wr := []) (va_runS (As := [.int i, .int n, .null]) (rest := []) ⟨hx, hb, hml, hown, htb⟩ (cs_preN l D g i n (Array.size s.heap) (hi) (hn)) (bg_S 3 htb bg_1317 bg_1319 bg_1320 bg_1318 rfl rfl (by decide +kernel) ⟨Nat.le_of_ble_eq_true rfl, Nat.le_of_ble_eq_true rfl⟩) ⟨xb_blind xe_ok, xb_enter xe_ok hK hP hD hS hA hE [] rfl rfl rfl [] rfl⟩ rfl rfl hl.1 rfl (lv_room (Nat.le_of_ble_eq_true rfl)) dJ0_checkIndex_df160_5 ⟨Nat.le_of_ble_eq_true rfl, Nat.le_of_ble_eq_true rfl⟩) hK hP hD hS hA [] [] rfl rfl rfl (by decide) (fun r_5 u_5 H locs hw_5 hP hD hK hS => ?_)
    have hP : va_P D vwCl [] H := hP
    have hD : va_D A [] := hD
    have hK : va_K D vwCl [] s := hK
    refine W.widen (k := 0) (n := 0) (by decide) (by decide) ?_
    have hw_5 : r_5 = i := hw_5
    subst hw_5
    refine lv_pop hx hb dJ0_checkIndex_df160_8 rfl ?_
    have hP9 := hP.sub (ws' := []) [] rfl
    have hD9 := hD.sub (ws' := []) [] rfl rfl
    have hK9 := hK.sub (tys' := []) [] rfl
    exact W.vret hx hb hr (fun t ht hW => ⟨⟨(), rfl, trivial, by rw [ht]; exact hP9, va_K.moved hW.alike hK9, hD9⟩, hS.F ht⟩) hS.2.2 dJ0_checkIndex_df160_9
  · skip
    refine va_gets hx hb hz hS hown (htb _ bg_1316) (fun _ h9 => h9) dJ0_checkIndex_df160_2 ?_
    refine xb_goi (wr := []) (va_runS (As := [.int i, .int n, .ref t9]) (rest := []) ⟨hx, hb, hml, hown, htb⟩ (cs_preR l D g i n t9 (Array.size s.heap) (hi) (hn)) (bg_S 3 htb bg_1317 bg_1319 bg_1320 bg_1318 rfl rfl (by decide +kernel) ⟨Nat.le_of_ble_eq_true rfl, Nat.le_of_ble_eq_true rfl⟩) ⟨xb_blind xe_ok, xb_enter xe_ok hK hP hD hS hA hE [] rfl rfl rfl [] rfl⟩ rfl rfl hl.1 rfl (lv_room (Nat.le_of_ble_eq_true rfl)) dJ0_checkIndex_df160_5 ⟨Nat.le_of_ble_eq_true rfl, Nat.le_of_ble_eq_true rfl⟩) hK hP hD hS hA [] [] rfl rfl rfl (by decide) (fun r_5 u_5 H locs hw_5 hP hD hK hS => ?_)
    have hP : va_P D vwCl [] H := hP
    have hD : va_D A [] := hD
    have hK : va_K D vwCl [] s := hK
    refine W.widen (k := 0) (n := 0) (by decide) (by decide) ?_
    have hw_5 : r_5 = i := hw_5
    subst hw_5
    refine lv_pop hx hb dJ0_checkIndex_df160_8 rfl ?_
    have hP9 := hP.sub (ws' := []) [] rfl
    have hD9 := hD.sub (ws' := []) [] rfl rfl
    have hK9 := hK.sub (tys' := []) [] rfl
    exact W.vret hx hb hr (fun t ht hW => ⟨⟨(), rfl, trivial, by rw [ht]; exact hP9, va_K.moved hW.alike hK9, hD9⟩, hS.F ht⟩) hS.2.2 dJ0_checkIndex_df160_9
theorem dJ1_charAt_3b067_0 : decode cJ1_charAt_3b067 0 = .ok (.iload_n 1, 1) := by decide +kernel
theorem dJ1_charAt_3b067_1 : decode cJ1_charAt_3b067 1 = .ok (.aload_n 0, 1) := by decide +kernel
theorem dJ1_charAt_3b067_2 : decode cJ1_charAt_3b067 2 = .ok (.arraylength, 1) := by decide +kernel
theorem dJ1_charAt_3b067_3 : decode cJ1_charAt_3b067 3 = .ok (.invokestatic 9, 3) := by decide +kernel
theorem dJ1_charAt_3b067_6 : decode cJ1_charAt_3b067 6 = .ok (.aload_n 0, 1) := by decide +kernel
theorem dJ1_charAt_3b067_7 : decode cJ1_charAt_3b067 7 = .ok (.iload_n 1, 1) := by decide +kernel
theorem dJ1_charAt_3b067_8 : decode cJ1_charAt_3b067 8 = .ok (.baload, 1) := by decide +kernel
theorem dJ1_charAt_3b067_9 : decode cJ1_charAt_3b067 9 = .ok (.sipush 255, 3) := by decide +kernel
theorem dJ1_charAt_3b067_12 : decode cJ1_charAt_3b067 12 = .ok (.iand, 1) := by decide +kernel
theorem dJ1_charAt_3b067_13 : decode cJ1_charAt_3b067 13 = .ok (.i2c, 1) := by decide +kernel
theorem dJ1_charAt_3b067_14 : decode cJ1_charAt_3b067 14 = .ok (.ireturn, 1) := by decide +kernel
set_option maxHeartbeats 4000000 in
set_option maxRecDepth 100000 in
theorem cs_lat1 (l : Launch) (D : va_G) (g : xe_G) (k : Nat) (j : Nat) (sz : Nat) (hk : k < xe_M) (hj : j < (xe_lt k).2.2.2.length) : Met l yJ1_charAt_3b067 (.code yJ1_charAt_3b067 cJ1_charAt_3b067 2 (some .char) :: bg) ({ frames := 3, cells := 0, slots := 0, locals := 360 } : Room) (xb_Pre (xe_E g) D vwCl [] [] sz [.ref (g.2.2 k), .int (nI j)]) (va_Qi (fun r _ => r = xe_ch k j) (xb_B D vwCl (va_A [] sz) (fun u : Unit => []) (fun u : Unit => [])) (va_A [] sz)) 0 0 (va_A [] sz) := by
  refine Met.ofW (cc := cJ1_charAt_3b067) (maxL := 2) (ret := (some .char)) (by decide) rfl ?_
  intro p e s m args below meth c s₁ B hml hv
  obtain ⟨rfl, hsz, hP, hK, hD0, hE⟩ := hv
  have hx := B.exec
  have hb := B.bytes
  have hr := B.returns
  have hts := atoms_spec (ws := (.code yJ1_charAt_3b067 cJ1_charAt_3b067 2 (some .char) :: bg)) B.pre
  have htb : ∀ w ∈ bg, w.before _ s = true := fun w h => hts w (List.mem_cons_of_mem _ h)
  have hown : s.vm.findClass RJ1 = some m.cls := findClass_of_methodNamed B.named
  have hlocks := B.notSynchronized
  subst hsz
  have hD := hD0.self (sz := s.heap.size)
  generalize hAe : va_A [] s.heap.size = A at hD hE ⊢
  have hA : ∀ q : Nat, s.heap.size ≤ q → A q := fun q h => by rw [← hAe]; exact Or.inr h
  have hS : va_S A s.heap s.heap [] := va_S.rf
  have hP : va_P D vwCl [] s.heap := hP
  have hl := lv_entry ([.ref (g.2.2 k), .int (nI j)]) (n := 2) (Nat.le_of_ble_eq_true rfl)
  rw [lg_entry_eq]
  generalize (lg_sl ([.ref (g.2.2 k), .int (nI j)]) ++ List.replicate (2 - (lg_sl ([.ref (g.2.2 k), .int (nI j)])).length) Slot.unset).toArray = ls at hl ⊢
  have hl : lv_has ls 2 [(0, .ref (g.2.2 k)), (1, .int (nI j))] := hl
  refine lv_iload_n hx hb dJ1_charAt_3b067_0 rfl (lv_at hl 1 rfl) ?_
  refine lv_aload_n hx hb dJ1_charAt_3b067_1 rfl (lv_at hl 0 rfl) ?_
  refine va_tlen (v := (nI ((xe_lt k).2.2.2.length))) hx hb (hE.2.2.2.2.2.2.2.1 k hk).2.2 hS rfl dJ1_charAt_3b067_2 ?_
  refine xb_gov (wr := []) (va_runS (As := [.int (nI j), .int (nI ((xe_lt k).2.2.2.length))]) (rest := []) ⟨hx, hb, hml, hown, htb⟩ (cs_check l D g (nI j) (nI ((xe_lt k).2.2.2.length)) (Array.size s.heap) (nI_pos (by have := xe_len k hk; omega)) (nI_lt hj (by have := xe_len k hk; omega))) (bg_S 2 htb bg_1321 bg_1322 bg_556 bg_1315 rfl rfl (by decide +kernel) ⟨Nat.le_of_ble_eq_true rfl, Nat.le_of_ble_eq_true rfl⟩) ⟨xb_blind xe_ok, xb_enter xe_ok hK hP hD hS hA hE [] rfl rfl rfl [] rfl⟩ rfl rfl hl.1 rfl (lv_room (Nat.le_of_ble_eq_true rfl)) dJ1_charAt_3b067_3 ⟨Nat.le_of_ble_eq_true rfl, Nat.le_of_ble_eq_true rfl⟩) hK hP hD hS hA [] [] rfl rfl rfl (by decide) (fun u_3 H locs hw_3 hP hD hK hS => ?_)
  have hP : va_P D vwCl [] H := hP
  have hD : va_D A [] := hD
  have hK : va_K D vwCl [] s := hK
  refine W.widen (k := 0) (n := 0) (by decide) (by decide) ?_
  refine lv_aload_n hx hb dJ1_charAt_3b067_6 rfl (lv_at hl 0 rfl) ?_
  refine lv_iload_n hx hb dJ1_charAt_3b067_7 rfl (lv_at hl 1 rfl) ?_
  refine va_tb (v := .int ((xe_lt k).2.2.2.getD (Int32.toNatClampNeg (nI j)) 0)) hx hb (hE.2.2.2.2.2.2.2.1 k hk).2.2 hS (vp_in_nI hj (by have := xe_len k hk; omega)) rfl dJ1_charAt_3b067_8 ?_
  refine lv_sipush (v := 255) hx hb dJ1_charAt_3b067_9 (by decide) ?_
  refine lv_iand hx hb dJ1_charAt_3b067_12 ?_
  refine lv_i2c hx hb dJ1_charAt_3b067_13 rfl ?_
  refine lv_topi (fun x13_c ex13_c => ?_)
  have hP9 := hP.sub (ws' := []) [] rfl
  have hD9 := hD.sub (ws' := []) [] rfl rfl
  have hK9 := hK.sub (tys' := []) [] rfl
  exact W.zret (v := x13_c) hx hb hr (by rw [ex13_c]; exact pk_nc _) (fun t ht hW => ⟨⟨x13_c, (), rfl, by rw [ex13_c, nI_clamp (by have := xe_len k hk; omega)]; rfl, by rw [ht]; exact hP9, va_K.moved hW.alike hK9, hD9⟩, hS.F ht⟩) hS.2.2 dJ1_charAt_3b067_14
theorem dJ0_charAt_5068e_0 : decode cJ0_charAt_5068e 0 = .ok (.aload_n 0, 1) := by decide +kernel
theorem dJ0_charAt_5068e_1 : decode cJ0_charAt_5068e 1 = .ok (.invokevirtual 492, 3) := by decide +kernel
theorem dJ0_charAt_5068e_4 : decode cJ0_charAt_5068e 4 = .ok (.ifCond .eq 12, 3) := by decide +kernel
theorem dJ0_charAt_5068e_7 : decode cJ0_charAt_5068e 7 = .ok (.aload_n 0, 1) := by decide +kernel
theorem dJ0_charAt_5068e_8 : decode cJ0_charAt_5068e 8 = .ok (.getfield 9, 3) := by decide +kernel
theorem dJ0_charAt_5068e_11 : decode cJ0_charAt_5068e 11 = .ok (.iload_n 1, 1) := by decide +kernel
theorem dJ0_charAt_5068e_12 : decode cJ0_charAt_5068e 12 = .ok (.invokestatic 495, 3) := by decide +kernel
theorem dJ0_charAt_5068e_15 : decode cJ0_charAt_5068e 15 = .ok (.ireturn, 1) := by decide +kernel
set_option maxHeartbeats 4000000 in
set_option maxRecDepth 100000 in
theorem cs_charAt (l : Launch) (D : va_G) (g : xe_G) (k : Nat) (j : Nat) (sz : Nat) (hk : k < xe_M) (hj : j < (xe_lt k).2.2.2.length) : Met l yJ0_charAt_5068e (.code yJ0_charAt_5068e cJ0_charAt_5068e 2 (some .char) :: bg) ({ frames := 4, cells := 0, slots := 0, locals := 480 } : Room) (xb_Pre (xe_E g) D vwCl [] [] sz [.ref (g.2.1 k), .int (nI j)]) (va_Qi (fun r _ => r = xe_ch k j) (xb_B D vwCl (va_A [] sz) (fun u : Unit => []) (fun u : Unit => [])) (va_A [] sz)) 0 0 (va_A [] sz) := by
  refine Met.ofW (cc := cJ0_charAt_5068e) (maxL := 2) (ret := (some .char)) (by decide) rfl ?_
  intro p e s m args below meth c s₁ B hml hv
  obtain ⟨rfl, hsz, hP, hK, hD0, hE⟩ := hv
  have hx := B.exec
  have hb := B.bytes
  have hr := B.returns
  have hts := atoms_spec (ws := (.code yJ0_charAt_5068e cJ0_charAt_5068e 2 (some .char) :: bg)) B.pre
  have htb : ∀ w ∈ bg, w.before _ s = true := fun w h => hts w (List.mem_cons_of_mem _ h)
  have hown : s.vm.findClass RJ0 = some m.cls := findClass_of_methodNamed B.named
  have hlocks := B.notSynchronized
  subst hsz
  have hD := hD0.self (sz := s.heap.size)
  generalize hAe : va_A [] s.heap.size = A at hD hE ⊢
  have hA : ∀ q : Nat, s.heap.size ≤ q → A q := fun q h => by rw [← hAe]; exact Or.inr h
  have hS : va_S A s.heap s.heap [] := va_S.rf
  have hP : va_P D vwCl [] s.heap := hP
  have hl := lv_entry ([.ref (g.2.1 k), .int (nI j)]) (n := 2) (Nat.le_of_ble_eq_true rfl)
  rw [lg_entry_eq]
  generalize (lg_sl ([.ref (g.2.1 k), .int (nI j)]) ++ List.replicate (2 - (lg_sl ([.ref (g.2.1 k), .int (nI j)])).length) Slot.unset).toArray = ls at hl ⊢
  have hl : lv_has ls 2 [(0, .ref (g.2.1 k)), (1, .int (nI j))] := hl
  refine lv_aload_n hx hb dJ0_charAt_5068e_0 rfl (lv_at hl 0 rfl) ?_
  refine xb_goi (wr := []) (va_runV (As := []) (rest := []) ⟨hx, hb, hml, hown, htb⟩ (cs_latin l D g k (Array.size s.heap) (hk)) (bg_V 0 htb bg_1305 bg_1307 bg_1308 bg_556 bg_1306 rfl rfl (by decide +kernel) ⟨Nat.le_of_ble_eq_true rfl, Nat.le_of_ble_eq_true rfl⟩) ⟨xb_blind xe_ok, xe_recv hE hS k (Nat.lt_trans hk (by decide)), xb_enter xe_ok hK hP hD hS hA hE [] rfl rfl rfl [] rfl⟩ rfl rfl hl.1 rfl (lv_room (Nat.le_of_ble_eq_true rfl)) dJ0_charAt_5068e_1 ⟨Nat.le_of_ble_eq_true rfl, Nat.le_of_ble_eq_true rfl⟩) hK hP hD hS hA [] [] rfl rfl rfl (by decide) (fun r_1 u_1 H locs hw_1 hP hD hK hS => ?_)
  have hP : va_P D vwCl [] H := hP
  have hD : va_D A [] := hD
  have hK : va_K D vwCl [] s := hK
  refine W.widen (k := 0) (n := 0) (by decide) (by decide) ?_
  have hw_1 : r_1 = 1 := hw_1
  subst hw_1
  refine lv_if_eq (tgt := 16) hx hb dJ0_charAt_5068e_4 (by decide) (fun c_4 => ?_) (fun c_4 => ?_)
  · exact absurd c_4 (by decide)
  refine lv_aload_n hx hb dJ0_charAt_5068e_7 rfl (lv_at hl 0 rfl) ?_
  refine vk_getf hx hb (hE.2.2.2.2.2.2.2.1 k hk).2.1 hS hown (htb _ bg_1300) (fun _ h9 => h9) dJ0_charAt_5068e_8 ?_
  refine lv_iload_n hx hb dJ0_charAt_5068e_11 rfl (lv_at hl 1 rfl) ?_
  refine xb_goi (wr := []) (va_runS (As := [.ref (g.2.2 k), .int (nI j)]) (rest := []) ⟨hx, hb, hml, hown, htb⟩ (cs_lat1 l D g k j (Array.size H) (hk) (hj)) (bg_S 2 htb bg_1309 bg_1311 bg_1312 bg_1310 rfl rfl (by decide +kernel) ⟨Nat.le_of_ble_eq_true rfl, Nat.le_of_ble_eq_true rfl⟩) ⟨xb_blind xe_ok, xb_enter xe_ok hK hP hD hS hA hE [] rfl rfl rfl [] rfl⟩ rfl rfl hl.1 rfl (lv_room (Nat.le_of_ble_eq_true rfl)) dJ0_charAt_5068e_12 ⟨Nat.le_of_ble_eq_true rfl, Nat.le_of_ble_eq_true rfl⟩) hK hP hD hS hA [] [] rfl rfl rfl (by decide) (fun r_12 u_12 H locs hw_12 hP hD hK hS => ?_)
  have hP : va_P D vwCl [] H := hP
  have hD : va_D A [] := hD
  have hK : va_K D vwCl [] s := hK
  refine W.widen (k := 0) (n := 0) (by decide) (by decide) ?_
  have hw_12 : r_12 = (xe_ch k j) := hw_12
  subst hw_12
  have hP9 := hP.sub (ws' := []) [] rfl
  have hD9 := hD.sub (ws' := []) [] rfl rfl
  have hK9 := hK.sub (tys' := []) [] rfl
  exact W.zret (v := (xe_ch k j)) hx hb hr (xe_chn k j) (fun t ht hW => ⟨⟨(xe_ch k j), (), rfl, rfl, by rw [ht]; exact hP9, va_K.moved hW.alike hK9, hD9⟩, hS.F ht⟩) hS.2.2 dJ0_charAt_5068e_15
end
section
/-! the JDK's few: text of the literals, a copy of bytes, a literal by its wide index -/
section MIT
theorem mi_sized {l : Launch} {y : MethodName} {ws : List Cond} {rm : Room} {Pc : Array Value → State → Prop} {Qc : Array Value → State → Outcome → State → Prop} {mc ms : Nat} {free : Addr → Prop} (h : Met l y ws rm Pc Qc mc ms free) : Met l y ws rm Pc (fun a st o t => Qc a st o t ∧ t.heap.size ≤ st.heap.size + mc) mc ms free :=
  MetFree.mono h (fun _ _ h => h) (fun _ _ _ _ _ _ => trivial) (fun a s o t _ h => ⟨⟨h.1, by obtain ⟨L, ⟨-, -, hsm⟩, -⟩ := h.2; exact hsm.2.2.1⟩, h.2⟩)
section MIU
variable {p : Program} {l : Launch} {e : Env} {R : Room} {s : State} {m : MethodId} {args : Array Value} {below : List Frame} {meth : Method} {c : Code} {H : Heap} {locs : List Loc} {cells slots : Nat} {Q : State → Prop} {pc : Nat} {ls : Array Slot} {rest st0 : List Value} {a : Array Value}
theorem mi_prim {w : Int32} {B : Unit → State → Prop} (hr : va_Run p l e R s m args below meth c H locs cells slots 0 0 (F0 m pc ls st0) rest (fun st oc t => va_Qi (fun r (_ : Unit) => r = w) B (va_A [] H.size) a st oc t ∧ t.heap.size ≤ st.heap.size + 0) (va_A [] H.size)) (hle : s.heap.size ≤ H.size)
    (k : W p l e R s m args below meth c H locs cells slots Q (F0 m (pc + 3) ls (.int w :: rest))) : W p l e R s m args below meth c H locs cells slots Q (F0 m pc ls st0) := by
  intro T hT X
  obtain ⟨v, st₀, t, T', L, h0, X', hL, e1, e2, ⟨⟨⟨r, u, hv, hp, -⟩, hz, hk⟩, hsz⟩, stp⟩ := hr T hT X
  cases hv
  subst hp
  rw [h0] at hz hk hsz
  have hno : ∀ q : Nat, q < H.size → ¬ va_A [] H.size q := by
    rintro q hq (⟨k9, e9, h9⟩ | h9)
    · simp at h9
    · omega
  have hH : T'.heap = H := by
    rw [e1]
    apply Array.ext_getElem?
    intro q
    by_cases hq : q < H.size
    · exact hk q hq (hno q hq)
    · rw [Array.getElem?_eq_none (by omega), Array.getElem?_eq_none (by omega)]
  obtain ⟨t2, a1, b1⟩ := k T' hH (Stand.forget X' (fun z hz9 => by
    rcases hL z hz9 with ⟨k9, e9, h9⟩ | h9
    · simp at h9
    · exact Nat.le_trans hle h9))
  exact ⟨t2, stp t2 a1, b1⟩
end MIU
theorem mi_lit {g : xe_G} {D : va_G} {A : Nat → Prop} {s : State} {M : mi_H} {H : Heap} {ws : va_W} {tys : List (ClassId × FieldType)} {a : Nat} {o : Nat × (Nat → Option Value)} (h : mi_rel g D A s M H ws tys) (hc : 100 ≤ o.1) (hM : M.1 a = some (.inr o)) : ∃ k, k < xe_N ∧ a = g.2.1 k ∧ o.1 = 100 + k := by
  rcases h.2.2.2.2.1 a _ hM with ⟨hw, -⟩ | ⟨-, f9, h9⟩ | ⟨k9, f9, h1, h2, h9⟩
  · exact absurd (hw.2 o rfl) (by omega)
  · cases h9
  · cases h9
    exact ⟨k9, h1, h2, rfl⟩
def o_slength : mi_O := fun S => match S.2.2.1 with
  | .ref a :: st => match S.2.2.2.1 a with
    | some (.inr o) => if 100 ≤ o.1 ∧ o.1 < 130 ∧ (st.map fun v => v.category).sum ≤ 8 then some (S.1 + 3, S.2.1, .int (nI (xe_lt (o.1 - 100)).2.2.2.length) :: st, S.2.2.2) else none
    | _ => none
  | _ => none
theorem sm_slength {g : xe_G} {own : String} {cc : ByteArray} {nL : Nat} {ini : Bool} {pc : Nat} {i : Nat} (w1 : Cond.methodLink own i yJ0_length_8abf5 ∈ bg) (w2 : Cond.instanceMethod yJ0_length_8abf5 ∈ bg) (w3 : Cond.selects "java/lang/String" yJ0_length_8abf5 yJ0_length_8abf5 ∈ bg) (w4 : Cond.initialized yJ0_length_8abf5.cls ∈ bg) (w5 : Cond.code yJ0_length_8abf5 cJ0_length_8abf5 1 (some .int) ∈ bg) (hd : decode cc pc = .ok (.invokevirtual i, 3)) : mi_ps g own cc nL ini pc o_slength := by
  intro lv st M S' h
  unfold o_slength at h
  dsimp only at h
  split at h
  · rename_i a rest
    split at h
    · rename_i o hM
      split at h
      · rename_i ho
        cases h
        refine ⟨rfl, rfl, ?_⟩
        intro D p l e R s m args below meth c A Q H locs ls cells slots ws tys hc hr hl hS hR1 hR2 k
        obtain ⟨hx, hb, hml, hown, htb, hE, hini, hA, hK0, hfr, hlo⟩ := hc
        obtain ⟨k9, h1, rfl, h3⟩ := mi_lit hr ho.1 hM
        have hk9 : k9 < xe_M := by show k9 < 30; omega
        rw [show o.1 - 100 = k9 by omega] at k
        exact mi_prim (va_runV (As := []) (rest := rest) ⟨hx, hb, hml, hown, htb⟩ (mi_sized (cs_length l D g k9 H.size hk9)) (bg_V 0 htb w1 w2 w3 w4 w5 rfl rfl ⟨by decide, by decide, by decide +kernel⟩ ⟨by show 2 + 1 ≤ _; omega, by show 8 + (1 + 11) + 240 ≤ _; omega⟩) ⟨xb_blind xe_ok, xe_recv hE hS k9 h1, xb_enter xe_ok hr.1 hr.2.1 hr.2.2.1 hS hA hE [] rfl rfl rfl [] rfl⟩ rfl rfl hl.1 rfl (lv_room ho.2.2) hd ⟨hR1, hR2⟩) hS.1 k
      · cases h
    · cases h
  · cases h
def o_scharAt : mi_O := fun S => match S.2.2.1 with
  | .int j :: .ref a :: st => match S.2.2.2.1 a with
    | some (.inr o) => if 100 ≤ o.1 ∧ o.1 < 130 ∧ (st.map fun v => v.category).sum ≤ 8 ∧ ¬ j < 0 ∧ j.toNatClampNeg < (xe_lt (o.1 - 100)).2.2.2.length then some (S.1 + 3, S.2.1, .int (xe_ch (o.1 - 100) j.toNatClampNeg) :: st, S.2.2.2) else none
    | _ => none
  | _ => none
theorem mi_nI {j : Int32} (h : ¬ j < 0) : nI j.toNatClampNeg = j := by
  have h0 : (0 : Int) ≤ j.toInt := by
    have := Int32.not_lt.mp h
    simpa using Int32.le_iff_toInt_le.mp this
  apply Int32.toInt_inj.mp
  have h2 : j.toNatClampNeg < 2 ^ 31 := by
    have := Int32.toInt_lt j
    show j.toInt.toNat < 2 ^ 31
    omega
  show (Int32.ofNat j.toNatClampNeg).toInt = j.toInt
  rw [Int32.toInt_ofNat_of_lt h2]
  show ((j.toInt.toNat : Nat) : Int) = j.toInt
  omega
theorem sm_scharAt {g : xe_G} {own : String} {cc : ByteArray} {nL : Nat} {ini : Bool} {pc : Nat} {i : Nat} (w1 : Cond.methodLink own i yJ0_charAt_5068e ∈ bg) (w2 : Cond.instanceMethod yJ0_charAt_5068e ∈ bg) (w3 : Cond.selects "java/lang/String" yJ0_charAt_5068e yJ0_charAt_5068e ∈ bg) (w4 : Cond.initialized yJ0_charAt_5068e.cls ∈ bg) (w5 : Cond.code yJ0_charAt_5068e cJ0_charAt_5068e 2 (some .char) ∈ bg) (hd : decode cc pc = .ok (.invokevirtual i, 3)) : mi_ps g own cc nL ini pc o_scharAt := by
  intro lv st M S' h
  unfold o_scharAt at h
  dsimp only at h
  split at h
  · rename_i j a rest
    split at h
    · rename_i o hM
      split at h
      · rename_i ho
        cases h
        refine ⟨rfl, rfl, ?_⟩
        intro D p l e R s m args below meth c A Q H locs ls cells slots ws tys hc hr hl hS hR1 hR2 k
        obtain ⟨hx, hb, hml, hown, htb, hE, hini, hA, hK0, hfr, hlo⟩ := hc
        obtain ⟨k9, h1, rfl, h3⟩ := mi_lit hr ho.1 hM
        have hk9 : k9 < xe_M := by show k9 < 30; omega
        have e9 : o.1 - 100 = k9 := by omega
        rw [e9] at k ho
        have hj := mi_nI ho.2.2.2.1
        have hgo := mi_prim (va_runV (As := [.int (nI j.toNatClampNeg)]) (rest := rest) ⟨hx, hb, hml, hown, htb⟩ (mi_sized (cs_charAt l D g k9 j.toNatClampNeg H.size hk9 ho.2.2.2.2)) (bg_V 1 htb w1 w2 w3 w4 w5 rfl rfl ⟨by decide, by decide, by decide +kernel⟩ ⟨by show 4 + 1 ≤ _; omega, by show 8 + (2 + 11) + 480 ≤ _; omega⟩) ⟨xb_blind xe_ok, xe_recv hE hS k9 h1, xb_enter xe_ok hr.1 hr.2.1 hr.2.2.1 hS hA hE [] rfl rfl rfl [] rfl⟩ rfl rfl hl.1 rfl (lv_room ho.2.2.1) hd ⟨hR1, hR2⟩) hS.1 k
        rw [hj] at hgo
        exact hgo
      · cases h
    · cases h
  · cases h
def mi_fb (o : Option Value) : Bool := match o with
  | some v => fits .byte v
  | none => false
def o_acopy : mi_O := fun S => match S.2.2.1 with
  | .int n :: .int dp :: .ref a :: .int sp :: .ref a0 :: st => match mi_ga S.2.2.2 a0 .byte with
    | some r0 => match mi_ga S.2.2.2 a .byte with
      | some r1 => if a ≠ a0 ∧ 0 < r0.1 ∧ 0 < r1.1 ∧ ¬ sp < 0 ∧ ¬ dp < 0 ∧ ¬ n < 0 ∧ sp.toNatClampNeg + n.toNatClampNeg ≤ r0.1 ∧ dp.toNatClampNeg + n.toNatClampNeg ≤ r1.1 ∧ (st.map fun v => v.category).sum ≤ 8 ∧ (List.range n.toNatClampNeg).all (fun i => mi_fb (r0.2 (sp.toNatClampNeg + i))) = true then
          some (S.1 + 3, S.2.1, st, va_up S.2.2.2.1 a (some (.inl (.byte, r1.1, va_cpy r0.2 r1.2 sp.toNatClampNeg dp.toNatClampNeg n.toNatClampNeg))), S.2.2.2.2) else none
      | none => none
    | none => none
  | _ => none
theorem mi_nn (z : Int32) (hz : ¬ z < 0) : z.toInt = (z.toNatClampNeg : Int) := by
  have hz0 : (0 : Int) ≤ z.toInt := by
    have := Int32.not_lt.mp hz
    simpa using Int32.le_iff_toInt_le.mp this
  show z.toInt = ((z.toInt.toNat : Nat) : Int)
  omega
theorem mi_nat9 {a b : Nat} (h : a ≤ 8) (h2 : 1000 ≤ b) : 2 * 0 + a + (nativeFrameWords "java/lang/System" "arraycopy" 5 + 11) ≤ b := by
  have : nativeFrameWords "java/lang/System" "arraycopy" 5 ≤ 900 := by decide
  omega
theorem sm_acopy {g : xe_G} {own : String} {cc : ByteArray} {nL : Nat} {ini : Bool} {pc : Nat} {i : Nat} (w1 : Cond.methodLink own i arraycopyName ∈ bg) (w2 : Cond.native arraycopyName ∈ bg) (w3 : Cond.static arraycopyName ∈ bg) (w4 : Cond.initialized "java/lang/System" ∈ bg) (hd : decode cc pc = .ok (.invokestatic i, 3)) : mi_sim g own cc nL ini pc o_acopy := by
  intro lv st M S' h
  unfold o_acopy at h
  dsimp only at h
  split at h
  · rename_i n dp a sp a0 rest
    split at h
    · rename_i r0 hga0
      split at h
      · rename_i r1 hga1
        split at h
        · rename_i hco
          cases h
          refine ⟨⟨Nat.le_refl _, Nat.le_refl _⟩, ?_⟩
          intro D p l e R s m args below meth c A n0 s0 Q hc hn0 hs0 hR1 hR2 hW H locs ls ws tys hr hl hS
          obtain ⟨hx, hb, hml, hown, htb, hE, hini, hA, hK0, hfr, hlo⟩ := hc
          obtain ⟨hne, p0, p1, hsp, hdp, hnn, h4, h5, hst8, hfb⟩ := hco
          obtain ⟨hM0, ⟨q0, c0, y0, t0, h1, h2, ⟨h3, h7⟩, -⟩ | ⟨-, -, h0⟩⟩ := mi_ga_in hr hga0
          · obtain ⟨hM1, ⟨q1, c1, y1, t1, k1, k2, ⟨k3, k7⟩, k5⟩ | ⟨-, -, h0⟩⟩ := mi_ga_in hr hga1
            · obtain ⟨n0', x0⟩ := y0
              obtain ⟨n1', x1⟩ := y1
              obtain ⟨n0'', f0⟩ := r0
              obtain ⟨n1'', f1⟩ := r1
              dsimp only at h3 h7 k3 k7 h4 h5 hfb k5 p0 p1
              subst h3
              subst k3
              rcases h7 with ⟨-, hf0, rfl, hv0⟩ | ⟨h9, -⟩ | ⟨⟨C9, h9⟩, -⟩
              · rcases k7 with ⟨-, hf1, rfl, hv1⟩ | ⟨h9, -⟩ | ⟨⟨C9, h9⟩, -⟩
                · have hfit : ∀ i, i < n.toNatClampNeg → f0 (sp.toNatClampNeg + i) = some (.int (hf0 (sp.toNatClampNeg + i))) ∧ fits .byte (.int (hf0 (sp.toNatClampNeg + i))) = true := by
                    intro i hi
                    have h6 := List.all_eq_true.mp hfb i (List.mem_range.mpr hi)
                    unfold mi_fb at h6
                    split at h6
                    · rename_i v hv
                      have h8 := hv0 _ _ hv
                      subst h8
                      exact ⟨hv, h6⟩
                    · cases h6
                  intro T hT X
                  have hc0 : H[a0]? = some (vp_cell c0 (n0', .inl hf0)) := hr.2.1 q0 _ h1
                  have hc1 : H[a]? = some (vp_cell c1 (n1', .inl hf1)) := hr.2.1 q1 _ k1
                  obtain ⟨-, kk0, hk0, cm0, hkk0⟩ := (hr.1.2 t0 _ h2).1 n0' (fun j => .int (hf0 j))
                  obtain ⟨-, kk1, hk1, cm1, hkk1⟩ := (hr.1.2 t1 _ k2).1 n1' (fun j => .int (hf1 j))
                  obtain ⟨vm', X', step⟩ := X.arraycopy hx hown (htb _ w1) (htb _ w2) (htb _ w3) (htb _ w4) (src := a0) (dst := a) (cs := vp_cell c0 (n0', .inl hf0)) (cd := vp_cell c1 (n1', .inl hf1)) (srcPos := sp) (destPos := dp) (n := n) (by rw [hT]; exact hc0) (by rw [hT]; exact hc1)
                    (fun _ h => by cases h) (fun _ h => by cases h) (fun h => by cases h) (fun h => by cases h) hk0 hk1 hkk0 hkk1 (by simp [refKind]) hsp hdp hnn
                    (by rw [mi_nn sp hsp, mi_nn n hnn]; show ¬ _ > ((arrV c0 n0' (fun j => .int (hf0 j))).slots.size : Int); rw [arrV_size]; omega)
                    (by rw [mi_nn dp hdp, mi_nn n hnn]; show ¬ _ > ((arrV c1 n1' (fun j => .int (hf1 j))).slots.size : Int); rw [arrV_size]; omega)
                    (fun vm₁ _ i hi => by
                      have e : (vp_cell c0 (n0', .inl hf0)).slots.getD (sp.toNatClampNeg + i) .null = .int (hf0 (sp.toNatClampNeg + i)) := by
                        show (arrV c0 n0' (fun j => .int (hf0 j))).slots.getD _ _ = _
                        rw [Array.getD_eq_getD_getElem?, arrV_read _ _ (by omega)]
                        rfl
                      refine ⟨?_, ?_⟩
                      · rw [e]
                        exact (hfit i hi).2
                      · rw [e]
                        exact trivial)
                    (g := F0 m pc ls (.int n :: .int dp :: .ref a :: .int sp :: .ref a0 :: rest)) rfl (by rw [hml]; exact hl.1) (rest := rest) rfl (by rw [hb]; exact hd) (by omega) (mi_nat9 hst8 hlo)
                  have e1 : copied (vp_cell c0 (n0', .inl hf0)) (vp_cell c1 (n1', .inl hf1)) sp dp n = vp_cell c1 (n1', .inl (va_cpy hf0 hf1 sp.toNatClampNeg dp.toNatClampNeg n.toNatClampNeg)) := va_copied (fun z => .int z) c0 c1 hf0 hf1 h4
                  rw [e1] at X' step
                  have hlt : a < H.size := (Array.getElem?_eq_some_iff.mp hc1).1
                  have hheap : ((T.setVm vm').setCell a (vp_cell c1 (n1', .inl (va_cpy hf0 hf1 sp.toNatClampNeg dp.toNatClampNeg n.toNatClampNeg)))).heap = H.setIfInBounds a (vp_cell c1 (n1', .inl (va_cpy hf0 hf1 sp.toNatClampNeg dp.toNatClampNeg n.toNatClampNeg))) := by rw [← hT]; rfl
                  generalize hH1 : H.setIfInBounds a (vp_cell c1 (n1', .inl (va_cpy hf0 hf1 sp.toNatClampNeg dp.toNatClampNeg n.toNatClampNeg))) = H1 at hheap
                  have z : H1.size = H.size := by rw [← hH1]; simp
                  have oq : ∀ q : Nat, q ≠ a → H1[q]? = H[q]? := fun q hq => by rw [← hH1]; simp [Array.getElem?_setIfInBounds, Ne.symm hq]
                  have hat : H1[a]? = some (vp_cell c1 (n1', .inl (va_cpy hf0 hf1 sp.toNatClampNeg dp.toNatClampNeg n.toNatClampNeg))) := by rw [← hH1]; simp [Array.getElem?_setIfInBounds, hlt]
                  have hA9 : A a := hr.2.2.1.2 q1 _ k1
                  have hct : ∀ (j : Nat) (w : Value), va_cpy f0 f1 sp.toNatClampNeg dp.toNatClampNeg n.toNatClampNeg j = some w → w = .int (va_cpy hf0 hf1 sp.toNatClampNeg dp.toNatClampNeg n.toNatClampNeg j) := by
                    intro j w hj
                    unfold va_cpy at hj ⊢
                    split at hj
                    · rename_i hjj
                      rw [if_pos hjj]
                      exact hv0 _ _ hj
                    · rename_i hjj
                      rw [if_neg hjj]
                      exact hv1 _ _ hj
                  obtain ⟨t, a1, b1⟩ := hW H1 _ ls (ws.set q1 (a, .inl (c1, n1', .inl (va_cpy hf0 hf1 sp.toNatClampNeg dp.toNatClampNeg n.toNatClampNeg)))) tys (hr.put k1 ⟨k5.1, fun o9 h9 => by cases h9⟩ ⟨c1, _, rfl, List.mem_of_getElem? k2, rfl, Or.inl ⟨by simp, _, rfl, hct⟩⟩ hat z oq) hl ⟨Nat.le_trans hS.1 (Nat.le_of_eq z.symm), fun q g1 g2 => by
                      rw [oq q (fun e => g2 (by rw [e]; exact hA9))]
                      exact hS.2.1 q g1 g2, fun q hq => by
                      rcases List.mem_append.mp hq with h | h
                      · exact hS.2.2 q h
                      · obtain ⟨z, -, hz⟩ := List.mem_map.mp h
                        rw [← hz]
                        exact hA9⟩ _ hheap X'
                  exact ⟨t, step t a1, b1⟩
                · cases h9
                · cases h9
              · cases h9
              · cases h9
            · exact absurd p1 (by rw [h0]; exact Nat.lt_irrefl 0)
          · exact absurd p0 (by rw [h0]; exact Nat.lt_irrefl 0)
        · cases h
      · cases h
    · cases h
  · cases h
theorem sm_ldcSw {g : xe_G} {own : String} {cc : ByteArray} {nL : Nat} {ini : Bool} {pc : Nat} {i k9 : Nat} (hk : k9 < xe_N) (h1 : (xe_lt k9).1 = own) (h2 : (xe_lt k9).2.1 = i) (hd : decode cc pc = .ok (.ldc_w i, 3)) : mi_ps g own cc nL ini pc (o_push (.ref (g.2.1 k9)) 3) := by
  intro lv st M S' h
  cases h
  refine ⟨rfl, rfl, ?_⟩
  intro D p l e R s m args below meth c A Q H locs ls cells slots ws tys hc hr hl hS hR1 hR2 k
  obtain ⟨hx, hb, hml, hown, htb, hE, hini, hA, hK0, hfr, hlo⟩ := hc
  have h9 := (hE.2.2.2.2.2.2.1 k9 hk).1
  rw [h1, h2] at h9
  intro T hT X
  obtain ⟨t, a1, b1⟩ := k T hT X
  exact ⟨t, X.ldcStringW hx hown (text := (xe_lt k9).2.2.1) (a := g.2.1 k9) h9.1 h9.2 (g := F0 m pc ls st) rfl (by rw [hb]; exact hd) t a1, b1⟩
def mi_cz (v : Int32) : Bool := decide (v = 0) || decide (v = 1)
theorem mi_cz_ok : ∀ v, mi_cz v = true → narrow .boolean (.int v) = .int v := by
  intro v h
  unfold mi_cz at h
  rcases Bool.or_eq_true_iff.mp h with h | h
  · have h := of_decide_eq_true h
    subst h
    rfl
  · have h := of_decide_eq_true h
    subst h
    rfl
def mi_cc (v : Int32) : Bool := decide (narrow .char (.int v) = .int v)
theorem mi_cc_ok : ∀ v, mi_cc v = true → narrow .char (.int v) = .int v := fun v h => of_decide_eq_true h
/-! tables as trees by pc -/
def mt_leaf (k : Nat) (e : mi_N) : Nat → Option mi_N := fun pc => cond (Nat.beq pc k) (some e) none
def mt_node (k : Nat) (a b : Nat → Option mi_N) : Nat → Option mi_N := fun pc => cond (Nat.ble pc k) (a pc) (b pc)
def mk_leaf (k : Nat) (e : List Nat) : Nat → Option (List Nat) := fun pc => cond (Nat.beq pc k) (some e) none
def mk_node (k : Nat) (a b : Nat → Option (List Nat)) : Nat → Option (List Nat) := fun pc => cond (Nat.ble pc k) (a pc) (b pc)
def mn_node {α : Type} (k : Nat) (a b : Nat → α) : Nat → α := fun y => cond (Nat.ble y k) (a y) (b y)
def mt_all (P : Nat → mi_N → Prop) (t : Nat → Option mi_N) : Prop := ∀ pc e, t pc = some e → P pc e
theorem mt_leaf_ok {P : Nat → mi_N → Prop} {k : Nat} {e : mi_N} (h : P k e) : mt_all P (mt_leaf k e) := by
  intro pc e' he
  unfold mt_leaf at he
  cases hb : Nat.beq pc k with
  | false => rw [hb] at he; cases he
  | true =>
    rw [hb] at he
    cases he
    rw [Nat.eq_of_beq_eq_true hb]
    exact h
theorem mt_node_ok {P : Nat → mi_N → Prop} {k : Nat} {a b : Nat → Option mi_N} (ha : mt_all P a) (hb : mt_all P b) : mt_all P (mt_node k a b) := by
  intro pc e' he
  unfold mt_node at he
  cases hc : Nat.ble pc k with
  | false => rw [hc] at he; exact hb pc e' he
  | true => rw [hc] at he; exact ha pc e' he
theorem en_o {g : xe_G} {I : Nat → mi_I} {q : mi_I} {pc : Nat} {o : mi_O} (h : mi_ps g q.1.cls q.2.1 q.2.2.1 (q.1.name == "<init>") pc o) : mi_ent g I q pc (.inl o) := h.sim
theorem en_s {g : xe_G} {I : Nat → mi_I} {q : mi_I} {pc : Nat} {o : mi_O} (h : mi_sim g q.1.cls q.2.1 q.2.2.1 (q.1.name == "<init>") pc o) : mi_ent g I q pc (.inl o) := h
end MIT
end
section
def mI_0 : Nat → mi_I := mn_node 19 (mn_node 9 (mn_node 4 (mn_node 1 (mn_node 0 (fun _ => (yX11_init, cX11_init, 1, none)) (fun _ => (yX11_bits, cX11_bits, 4, (some .long)))) (mn_node 2 (fun _ => (yX11_bootstrap, cX11_bootstrap, 3, (some .int))) (mn_node 3 (fun _ => (yX11_character, cX11_character, 3, (some .int))) (fun _ => (yX11_codeOf, cX11_codeOf, 3, (some (.object "ClassGate$Code"))))))) (mn_node 6 (mn_node 5 (fun _ => (yX11_count, cX11_count, 2, (some .int))) (fun _ => (yX11_cut, cX11_cut, 3, (some .int)))) (mn_node 7 (fun _ => (yX11_end, cX11_end, 2, (some .int))) (mn_node 8 (fun _ => (yX11_entry, cX11_entry, 3, (some .int))) (fun _ => (yX11_feed, cX11_feed, 6, (some .int))))))) (mn_node 14 (mn_node 11 (mn_node 10 (fun _ => (yX11_find, cX11_find, 5, (some .int))) (fun _ => (yX11_holds, cX11_holds, 5, (some .boolean)))) (mn_node 12 (fun _ => (yX11_instruction, cX11_instruction, 5, (some .int))) (mn_node 13 (fun _ => (yX11_isWhole, cX11_isWhole, 3, (some .boolean))) (fun _ => (yX11_jump, cX11_jump, 6, (some .int)))))) (mn_node 16 (mn_node 15 (fun _ => (yX11_member, cX11_member, 5, (some .int))) (fun _ => (yX11_place, cX11_place, 1, (some .int)))) (mn_node 17 (fun _ => (yX11_places, cX11_places, 2, (some .int))) (mn_node 18 (fun _ => (yX11_read, cX11_read, 3, (some .int))) (fun _ => (yX11_row, cX11_row, 5, (some .int)))))))) (mn_node 29 (mn_node 24 (mn_node 21 (mn_node 20 (fun _ => (yX11_takeWord, cX11_takeWord, 2, none)) (fun _ => (yX0_init, cX0_init, 3, none))) (mn_node 22 (fun _ => (yX0_areClasses, cX0_areClasses, 4, (some .boolean))) (mn_node 23 (fun _ => (yX0_behind, cX0_behind, 2, (some .int))) (fun _ => (yX0_bootstrapsEnd, cX0_bootstrapsEnd, 6, (some .int)))))) (mn_node 26 (mn_node 25 (fun _ => (yX0_bootstrapsHold, cX0_bootstrapsHold, 5, (some .boolean))) (fun _ => (yX0_brokenRule, cX0_brokenRule, 3, (some .int)))) (mn_node 27 (fun _ => (yX0_classKind, cX0_classKind, 2, (some .int))) (mn_node 28 (fun _ => (yX0_codeAttributesHold, cX0_codeAttributesHold, 6, (some .boolean))) (fun _ => (yX0_codeEnd, cX0_codeEnd, 6, (some .int))))))) (mn_node 34 (mn_node 31 (mn_node 30 (fun _ => (yX0_codeHolds, cX0_codeHolds, 5, (some .boolean))) (fun _ => (yX0_constantTag, cX0_constantTag, 2, (some .int)))) (mn_node 32 (fun _ => (yX0_formEnd, cX0_formEnd, 4, (some .int))) (mn_node 33 (fun _ => (yX0_hasSeen, cX0_hasSeen, 2, (some .boolean))) (fun _ => (yX0_innerClassesHold, cX0_innerClassesHold, 6, (some .boolean)))))) (mn_node 36 (mn_node 35 (fun _ => (yX0_isLoadable, cX0_isLoadable, 1, (some .boolean))) (fun _ => (yX0_isNew, cX0_isNew, 3, (some .boolean)))) (mn_node 37 (fun _ => (yX0_methodKind, cX0_methodKind, 2, (some .int))) (mn_node 38 (fun _ => (yX0_ofClass, cX0_ofClass, 5, (some .boolean))) (fun _ => (yX0_ofField, cX0_ofField, 5, (some .boolean))))))))
def mI_1 : Nat → mi_I := mn_node 59 (mn_node 49 (mn_node 44 (mn_node 41 (mn_node 40 (fun _ => (yX0_ofMethod, cX0_ofMethod, 5, (some .boolean))) (fun _ => (yX0_recordEnd, cX0_recordEnd, 6, (some .int)))) (mn_node 42 (fun _ => (yX0_recordHolds, cX0_recordHolds, 6, (some .boolean))) (mn_node 43 (fun _ => (yX0_rowHolds, cX0_rowHolds, 5, (some .boolean))) (fun _ => (yX1_init, cX1_init, 2, none))))) (mn_node 46 (mn_node 45 (fun _ => (yX1_attributesEnd, cX1_attributesEnd, 7, (some .int))) (fun _ => (yX1_goesOn, cX1_goesOn, 3, (some .boolean)))) (mn_node 47 (fun _ => (yX1_size, cX1_size, 1, (some .int))) (mn_node 48 (fun _ => (yX1_u1, cX1_u1, 2, (some .int))) (fun _ => (yX1_u2, cX1_u2, 2, (some .int))))))) (mn_node 54 (mn_node 51 (mn_node 50 (fun _ => (yX1_u4, cX1_u4, 2, (some .int))) (fun _ => (yX2_init, cX2_init, 4, none))) (mn_node 52 (fun _ => (yX2_abstractHolds, cX2_abstractHolds, 2, (some .boolean))) (mn_node 53 (fun _ => (yX2_classFlagsHold, cX2_classFlagsHold, 1, (some .boolean))) (fun _ => (yX2_codeIsDue, cX2_codeIsDue, 3, (some .boolean)))))) (mn_node 56 (mn_node 55 (fun _ => (yX2_fieldFlagsHold, cX2_fieldFlagsHold, 3, (some .boolean))) (fun _ => (yX2_fieldHolds, cX2_fieldHolds, 3, (some .boolean)))) (mn_node 57 (fun _ => (yX2_fieldsHold, cX2_fieldsHold, 3, (some .boolean))) (mn_node 58 (fun _ => (yX2_hasAll, cX2_hasAll, 2, (some .boolean))) (fun _ => (yX2_hasOneAccessAtMost, cX2_hasOneAccessAtMost, 1, (some .boolean)))))))) (mn_node 69 (mn_node 64 (mn_node 61 (mn_node 60 (fun _ => (yX2_headHolds, cX2_headHolds, 3, (some .boolean))) (fun _ => (yX2_interfaceMethodHolds, cX2_interfaceMethodHolds, 2, (some .boolean)))) (mn_node 62 (fun _ => (yX2_interfacesHold, cX2_interfacesHold, 6, (some .boolean))) (mn_node 63 (fun _ => (yX2_methodDescriptorHolds, cX2_methodDescriptorHolds, 2, (some .boolean))) (fun _ => (yX2_methodFlagsHold, cX2_methodFlagsHold, 3, (some .boolean)))))) (mn_node 66 (mn_node 65 (fun _ => (yX2_methodHolds, cX2_methodHolds, 3, (some .boolean))) (fun _ => (yX2_methodNameHolds, cX2_methodNameHolds, 2, (some .boolean)))) (mn_node 67 (fun _ => (yX2_methodsHold, cX2_methodsHold, 3, (some .boolean))) (mn_node 68 (fun _ => (yX3_init, cX3_init, 2, none)) (fun _ => (yX3_attributeNumber, cX3_attributeNumber, 2, (some .int))))))) (mn_node 74 (mn_node 71 (mn_node 70 (fun _ => (yX3_bootstrapPart, cX3_bootstrapPart, 5, (some .int))) (fun _ => (yX3_has, cX3_has, 2, (some .boolean)))) (mn_node 72 (fun _ => (yX3_memberAt, cX3_memberAt, 4, (some (.object "ClassGate$Member")))) (mn_node 73 (fun _ => (yX3_number, cX3_number, 2, (some .int))) (fun _ => (yX4_init, cX4_init, 4, none))))) (mn_node 76 (mn_node 75 (fun _ => (yX4_callHolds, cX4_callHolds, 2, (some .boolean))) (fun _ => (yX4_cutUp, cX4_cutUp, 4, (some .int)))) (mn_node 77 (fun _ => (yX4_isLoadedByLdc, cX4_isLoadedByLdc, 2, (some .boolean))) (mn_node 78 (fun _ => (yX4_isMethodOfEither, cX4_isMethodOfEither, 2, (some .boolean))) (fun _ => (yX4_isOfTwoPlaces, cX4_isOfTwoPlaces, 2, (some .boolean))))))))
def mI_2 : Nat → mi_I := mn_node 99 (mn_node 89 (mn_node 84 (mn_node 81 (mn_node 80 (fun _ => (yX4_number, cX4_number, 4, (some .int))) (fun _ => (yX4_numberAt, cX4_numberAt, 3, (some .int)))) (mn_node 82 (fun _ => (yX4_operandsHold, cX4_operandsHold, 2, (some .boolean))) (mn_node 83 (fun _ => (yX4_startOf, cX4_startOf, 2, (some .int))) (fun _ => (yX4_switchPlace, cX4_switchPlace, 4, (some .int)))))) (mn_node 86 (mn_node 85 (fun _ => (yX4_targetsHold, cX4_targetsHold, 2, (some .boolean))) (fun _ => (yX5_init, cX5_init, 4, none))) (mn_node 87 (fun _ => (yX5_areOperandsTaken, cX5_areOperandsTaken, 1, (some .boolean))) (mn_node 88 (fun _ => (yX5_isIndexTaken, cX5_isIndexTaken, 1, (some .boolean))) (fun _ => (yX5_isJump, cX5_isJump, 1, (some .boolean))))))) (mn_node 94 (mn_node 91 (mn_node 90 (fun _ => (yX5_isJumpTaken, cX5_isJumpTaken, 3, (some .boolean))) (fun _ => (yX5_isLocalOpcode, cX5_isLocalOpcode, 1, (some .boolean)))) (mn_node 92 (fun _ => (yX5_isLocalTaken, cX5_isLocalTaken, 3, (some .boolean))) (mn_node 93 (fun _ => (yX5_isLookupTaken, cX5_isLookupTaken, 2, (some .boolean))) (fun _ => (yX5_isShortLocalTaken, cX5_isShortLocalTaken, 3, (some .boolean)))))) (mn_node 96 (mn_node 95 (fun _ => (yX5_isSwitch, cX5_isSwitch, 1, (some .boolean))) (fun _ => (yX5_isSwitchTaken, cX5_isSwitchTaken, 2, (some .boolean)))) (mn_node 97 (fun _ => (yX5_isTableTaken, cX5_isTableTaken, 3, (some .boolean))) (mn_node 98 (fun _ => (yX5_isTakenApart, cX5_isTakenApart, 2, (some .boolean))) (fun _ => (yX5_isWideTaken, cX5_isWideTaken, 1, (some .boolean)))))))) (mn_node 109 (mn_node 104 (mn_node 101 (mn_node 100 (fun _ => (yX5_keyOf, cX5_keyOf, 2, (some .int))) (fun _ => (yX5_s4, cX5_s4, 2, (some .int)))) (mn_node 102 (fun _ => (yX5_sizeOf, cX5_sizeOf, 1, (some .int))) (mn_node 103 (fun _ => (yX5_target, cX5_target, 2, (some .long))) (fun _ => (yX5_u1, cX5_u1, 2, (some .int)))))) (mn_node 106 (mn_node 105 (fun _ => (yX5_u2, cX5_u2, 2, (some .int))) (fun _ => (yX6_init, cX6_init, 3, none))) (mn_node 107 (fun _ => (yX6_codeNumber, cX6_codeNumber, 2, (some .int))) (mn_node 108 (fun _ => (yX6_has, cX6_has, 2, (some .boolean))) (fun _ => (yX6_number, cX6_number, 3, (some .int))))))) (mn_node 114 (mn_node 111 (mn_node 110 (fun _ => (yX7_init, cX7_init, 4, none)) (fun _ => (yX7_addCharacter, cX7_addCharacter, 2, none))) (mn_node 112 (fun _ => (yX7_argumentPlaces, cX7_argumentPlaces, 2, (some .int))) (mn_node 113 (fun _ => (yX7_characterAt, cX7_characterAt, 3, (some .int))) (fun _ => (yX7_describeTexts, cX7_describeTexts, 2, none))))) (mn_node 116 (mn_node 115 (fun _ => (yX7_descriptorOf, cX7_descriptorOf, 2, (some .int))) (fun _ => (yX7_dimensionsOf, cX7_dimensionsOf, 4, (some .int)))) (mn_node 117 (fun _ => (yX7_firstIndex, cX7_firstIndex, 2, (some .int))) (mn_node 118 (fun _ => (yX7_hasAngle, cX7_hasAngle, 4, (some .boolean))) (fun _ => (yX7_hasNoResult, cX7_hasNoResult, 2, (some .boolean))))))))
def mI_3 : Nat → mi_I := mn_node 139 (mn_node 129 (mn_node 124 (mn_node 121 (mn_node 120 (fun _ => (yX7_isClassText, cX7_isClassText, 4, (some .boolean))) (fun _ => (yX7_isFieldDescriptor, cX7_isFieldDescriptor, 2, (some .boolean)))) (mn_node 122 (fun _ => (yX7_isMethodDescriptor, cX7_isMethodDescriptor, 2, (some .boolean))) (mn_node 123 (fun _ => (yX7_isPlainClass, cX7_isPlainClass, 2, (some .boolean))) (fun _ => (yX7_isUnqualifiedName, cX7_isUnqualifiedName, 4, (some .boolean)))))) (mn_node 126 (mn_node 125 (fun _ => (yX7_isWide, cX7_isWide, 3, (some .boolean))) (fun _ => (yX7_methodShape, cX7_methodShape, 6, (some .int)))) (mn_node 127 (fun _ => (yX7_nameEnd, cX7_nameEnd, 6, (some .int))) (mn_node 128 (fun _ => (yX7_nameOf, cX7_nameOf, 2, (some .int))) (fun _ => (yX7_namesInit, cX7_namesInit, 2, (some .boolean))))))) (mn_node 134 (mn_node 131 (mn_node 130 (fun _ => (yX7_placesOfType, cX7_placesOfType, 1, (some .int))) (fun _ => (yX7_placesTold, cX7_placesTold, 2, (some .int)))) (mn_node 132 (fun _ => (yX7_sameMember, cX7_sameMember, 7, (some .int))) (mn_node 133 (fun _ => (yX7_sameText, cX7_sameText, 4, (some .boolean))) (fun _ => (yX7_secondIndex, cX7_secondIndex, 2, (some .int)))))) (mn_node 136 (mn_node 135 (fun _ => (yX7_setNumbers, cX7_setNumbers, 4, none)) (fun _ => (yX7_setTag, cX7_setTag, 4, none))) (mn_node 137 (fun _ => (yX7_shapeOf, cX7_shapeOf, 3, (some .int))) (mn_node 138 (fun _ => (yX7_tagOf, cX7_tagOf, 2, (some .int))) (fun _ => (yX7_tagPlace, cX7_tagPlace, 2, (some .int)))))))) (mn_node 149 (mn_node 144 (mn_node 141 (mn_node 140 (fun _ => (yX7_textIs, cX7_textIs, 4, (some .boolean))) (fun _ => (yX7_textLength, cX7_textLength, 2, (some .int)))) (mn_node 142 (fun _ => (yX7_typeEnd, cX7_typeEnd, 5, (some .int))) (mn_node 143 (fun _ => (yX8_init, cX8_init, 3, none)) (fun _ => (yX8_bootstrapsHold, cX8_bootstrapsHold, 4, (some .boolean)))))) (mn_node 146 (mn_node 145 (fun _ => (yX8_brokenRule, cX8_brokenRule, 2, (some .int))) (fun _ => (yX8_entriesHold, cX8_entriesHold, 3, (some .boolean)))) (mn_node 147 (fun _ => (yX8_isHandle, cX8_isHandle, 4, (some .boolean))) (mn_node 148 (fun _ => (yX8_isMember, cX8_isMember, 3, (some .boolean))) (fun _ => (yX8_isMethodRef, cX8_isMethodRef, 3, (some .boolean))))))) (mn_node 154 (mn_node 151 (mn_node 150 (fun _ => (yX8_isNameWithType, cX8_isNameWithType, 3, (some .boolean))) (fun _ => (yX8_linksHold, cX8_linksHold, 3, (some .boolean)))) (mn_node 152 (fun _ => (yX8_memberHolds, cX8_memberHolds, 3, (some .boolean))) (mn_node 153 (fun _ => (yX8_pairHolds, cX8_pairHolds, 2, (some .boolean))) (fun _ => (yX9_init, cX9_init, 3, none))))) (mn_node 156 (mn_node 155 (fun _ => (yX9_characterOf, cX9_characterOf, 3, (some .int))) (fun _ => (yX9_characterSize, cX9_characterSize, 3, (some .int)))) (mn_node 157 (fun _ => (yX9_isTag, cX9_isTag, 2, (some .boolean))) (mn_node 158 (fun _ => (yX9_roomFor, cX9_roomFor, 2, (some .int))) (fun _ => (yX9_takes, cX9_takes, 2, (some .boolean))))))))
def mI_4 : Nat → mi_I := mn_node 179 (mn_node 169 (mn_node 164 (mn_node 161 (mn_node 160 (fun _ => (yX9_takesAttributes, cX9_takesAttributes, 3, (some .boolean))) (fun _ => (yX9_takesClass, cX9_takesClass, 3, (some .boolean)))) (mn_node 162 (fun _ => (yX9_takesEnd, cX9_takesEnd, 1, (some .boolean))) (mn_node 163 (fun _ => (yX9_takesEntry, cX9_takesEntry, 4, (some .boolean))) (fun _ => (yX9_takesFields, cX9_takesFields, 1, (some .boolean)))))) (mn_node 166 (mn_node 165 (fun _ => (yX9_takesHead, cX9_takesHead, 1, (some .boolean))) (fun _ => (yX9_takesIndexes, cX9_takesIndexes, 5, (some .boolean)))) (mn_node 167 (fun _ => (yX9_takesMembers, cX9_takesMembers, 5, (some .boolean))) (mn_node 168 (fun _ => (yX9_takesMethods, cX9_takesMethods, 1, (some .boolean))) (fun _ => (yX9_takesPool, cX9_takesPool, 4, (some .boolean))))))) (mn_node 174 (mn_node 171 (mn_node 170 (fun _ => (yX9_takesText, cX9_takesText, 5, (some .boolean))) (fun _ => (yX10_init, cX10_init, 1, none))) (mn_node 172 (fun _ => (yX10_wrong, cX10_wrong, 3, (some .boolean))) (mn_node 173 (fun _ => (yX12_init, cX12_init, 1, none)) (fun _ => (yX12_aims, cX12_aims, 4, (some .boolean)))))) (mn_node 176 (mn_node 175 (fun _ => (yX12_angles, cX12_angles, 3, (some .boolean))) (fun _ => (yX12_at, cX12_at, 3, (some .char)))) (mn_node 177 (fun _ => (yX12_attribute, cX12_attribute, 11, (some .int))) (mn_node 178 (fun _ => (yX12_attributes, cX12_attributes, 5, (some .boolean))) (fun _ => (yX12_b1, cX12_b1, 2, (some .int)))))))) (mn_node 189 (mn_node 184 (mn_node 181 (mn_node 180 (fun _ => (yX12_b2, cX12_b2, 2, (some .int))) (fun _ => (yX12_b4, cX12_b4, 2, (some .int)))) (mn_node 182 (fun _ => (yX12_bad, cX12_bad, 1, (some .int))) (mn_node 183 (fun _ => (yX12_bits, cX12_bits, 3, (some .long))) (fun _ => (yX12_bootstrap, cX12_bootstrap, 5, (some .int)))))) (mn_node 186 (mn_node 185 (fun _ => (yX12_bootstraps, cX12_bootstraps, 8, (some .int))) (fun _ => (yX12_character, cX12_character, 3, (some .int)))) (mn_node 187 (fun _ => (yX12_checkAttributes, cX12_checkAttributes, 12, (some .int))) (mn_node 188 (fun _ => (yX12_checkClass, cX12_checkClass, 8, (some .boolean))) (fun _ => (yX12_checkFields, cX12_checkFields, 8, (some .boolean))))))) (mn_node 194 (mn_node 191 (mn_node 190 (fun _ => (yX12_checkFile, cX12_checkFile, 3, (some .boolean))) (fun _ => (yX12_checkMethods, cX12_checkMethods, 14, (some .boolean)))) (mn_node 192 (fun _ => (yX12_checkPool, cX12_checkPool, 8, (some .boolean))) (mn_node 193 (fun _ => (yX12_className, cX12_className, 2, (some .int))) (fun _ => (yX12_classText, cX12_classText, 2, (some .boolean)))))) (mn_node 196 (mn_node 195 (fun _ => (yX12_clear, cX12_clear, 2, none)) (fun _ => (yX12_code, cX12_code, 15, (some .int)))) (mn_node 197 (fun _ => (yX12_components, cX12_components, 8, (some .int))) (mn_node 198 (fun _ => (yX12_count, cX12_count, 4, (some .int))) (fun _ => (yX12_cut, cX12_cut, 2, (some .int))))))))
def mI_5 : Nat → mi_I := mn_node 219 (mn_node 209 (mn_node 204 (mn_node 201 (mn_node 200 (fun _ => (yX12_cuts, cX12_cuts, 5, (some .boolean))) (fun _ => (yX12_descOf, cX12_descOf, 2, (some .int)))) (mn_node 202 (fun _ => (yX12_end, cX12_end, 3, (some .int))) (mn_node 203 (fun _ => (yX12_endsV, cX12_endsV, 2, (some .boolean))) (fun _ => (yX12_entry, cX12_entry, 4, (some .int)))))) (mn_node 206 (mn_node 205 (fun _ => (yX12_feed, cX12_feed, 6, (some .int))) (fun _ => (yX12_fieldText, cX12_fieldText, 7, (some .int)))) (mn_node 207 (fun _ => (yX12_find, cX12_find, 7, (some .int))) (mn_node 208 (fun _ => (yX12_first, cX12_first, 3, (some .int))) (fun _ => (yX12_flagsFit, cX12_flagsFit, 5, (some .boolean))))))) (mn_node 214 (mn_node 211 (mn_node 210 (fun _ => (yX12_formed, cX12_formed, 7, (some .int))) (fun _ => (yX12_four, cX12_four, 3, none))) (mn_node 212 (fun _ => (yX12_handleEntry, cX12_handleEntry, 6, (some .boolean))) (mn_node 213 (fun _ => (yX12_index, cX12_index, 3, (some .int))) (fun _ => (yX12_indexes, cX12_indexes, 5, (some .boolean)))))) (mn_node 216 (mn_node 215 (fun _ => (yX12_instruction, cX12_instruction, 6, (some .int))) (fun _ => (yX12_is, cX12_is, 4, (some .boolean)))) (mn_node 217 (fun _ => (yX12_isField, cX12_isField, 2, (some .boolean))) (mn_node 218 (fun _ => (yX12_isMethod, cX12_isMethod, 4, (some .boolean))) (fun _ => (yX12_item, cX12_item, 3, (some .boolean)))))))) (mn_node 229 (mn_node 224 (mn_node 221 (mn_node 220 (fun _ => (yX12_jump, cX12_jump, 7, (some .int))) (fun _ => (yX12_length, cX12_length, 2, (some .int)))) (mn_node 222 (fun _ => (yX12_local, cX12_local, 3, (some .boolean))) (mn_node 223 (fun _ => (yX12_member, cX12_member, 4, (some .int))) (fun _ => (yX12_members, cX12_members, 4, (some .boolean)))))) (mn_node 226 (mn_node 225 (fun _ => (yX12_nameOf, cX12_nameOf, 2, (some .int))) (fun _ => (yX12_nameText, cX12_nameText, 7, (some .boolean)))) (mn_node 227 (fun _ => (yX12_noCode, cX12_noCode, 2, (some .boolean))) (mn_node 228 (fun _ => (yX12_operands, cX12_operands, 6, (some .boolean))) (fun _ => (yX12_pad, cX12_pad, 1, (some .int))))))) (mn_node 234 (mn_node 231 (mn_node 230 (fun _ => (yX12_parse, cX12_parse, 4, (some .boolean))) (fun _ => (yX12_place, cX12_place, 1, (some .int)))) (mn_node 232 (fun _ => (yX12_places, cX12_places, 5, (some .int))) (mn_node 233 (fun _ => (yX12_places0, cX12_places0, 5, (some .int))) (fun _ => (yX12_plain, cX12_plain, 3, (some .int)))))) (mn_node 236 (mn_node 235 (fun _ => (yX12_plainClass, cX12_plainClass, 2, (some .boolean))) (fun _ => (yX12_read, cX12_read, 4, (some .int)))) (mn_node 237 (fun _ => (yX12_readFile, cX12_readFile, 3, (some .boolean))) (mn_node 238 (fun _ => (yX12_readPool, cX12_readPool, 6, (some .boolean))) (fun _ => (yX12_row, cX12_row, 4, (some .int))))))))
def mI_6 : Nat → mi_I := mn_node 249 (mn_node 244 (mn_node 241 (mn_node 240 (fun _ => (yX12_s2, cX12_s2, 2, (some .int))) (fun _ => (yX12_second, cX12_second, 3, (some .int)))) (mn_node 242 (fun _ => (yX12_several, cX12_several, 4, (some .boolean))) (mn_node 243 (fun _ => (yX12_starts, cX12_starts, 3, (some .boolean))) (fun _ => (yX12_symOf, cX12_symOf, 2, (some .int)))))) (mn_node 246 (mn_node 245 (fun _ => (yX12_symbol_, cX12_symbol_, 6, (some .int))) (fun _ => (yX12_symbol, cX12_symbol, 3, (some .int)))) (mn_node 247 (fun _ => (yX12_tag, cX12_tag, 2, (some .int))) (mn_node 248 (fun _ => (yX12_thrown, cX12_thrown, 1, (some .int))) (fun _ => (yX12_u1, cX12_u1, 2, (some .int))))))) (mn_node 254 (mn_node 251 (mn_node 250 (fun _ => (yX12_u2, cX12_u2, 2, (some .int))) (fun _ => (yX12_u4, cX12_u4, 2, (some .long)))) (mn_node 252 (fun _ => (yX12_unqualified, cX12_unqualified, 6, (some .boolean))) (mn_node 253 (fun _ => (yX12_utf8, cX12_utf8, 10, (some .boolean))) (fun _ => (yX12_wayAt, cX12_wayAt, 4, (some .int)))))) (mn_node 256 (mn_node 255 (fun _ => (yX12_ways, cX12_ways, 3, (some .int))) (fun _ => (yX12_wide, cX12_wide, 3, (some .boolean)))) (mn_node 257 (fun _ => (yX12_wrong, cX12_wrong, 3, (some .boolean))) (mn_node 258 (fun _ => (yJ6_bitCount_0f7a4, cJ6_bitCount_0f7a4, 1, (some .int))) (fun _ => (yJ7_copyOf_9075b, cJ7_copyOf_9075b, 3, (some (.array .byte))))))))
def mI : Nat → mi_I := mn_node 119 (mn_node 39 (mI_0) (mn_node 79 (mI_1) (mI_2))) (mn_node 199 (mn_node 159 (mI_3) (mI_4)) (mn_node 239 (mI_5) (mI_6)))
end
section
theorem dX11_init_0 : decode cX11_init 0 = .ok (.aload_n 0, 1) := by decide +kernel
theorem dX11_init_1 : decode cX11_init 1 = .ok (.invokespecial 1, 3) := by decide +kernel
theorem dX11_init_4 : decode cX11_init 4 = .ok (.aload_n 0, 1) := by decide +kernel
theorem dX11_init_5 : decode cX11_init 5 = .ok (.sipush 1024, 3) := by decide +kernel
theorem dX11_init_8 : decode cX11_init 8 = .ok (.newarray .byte, 2) := by decide +kernel
theorem dX11_init_10 : decode cX11_init 10 = .ok (.putfield 9, 3) := by decide +kernel
theorem dX11_init_13 : decode cX11_init 13 = .ok (.aload_n 0, 1) := by decide +kernel
theorem dX11_init_14 : decode cX11_init 14 = .ok (.getstatic 13, 3) := by decide +kernel
theorem dX11_init_17 : decode cX11_init 17 = .ok (.putfield 16, 3) := by decide +kernel
theorem dX11_init_20 : decode cX11_init 20 = .ok (.aload_n 0, 1) := by decide +kernel
theorem dX11_init_21 : decode cX11_init 21 = .ok (.iconst (-1), 1) := by decide +kernel
theorem dX11_init_22 : decode cX11_init 22 = .ok (.putfield 19, 3) := by decide +kernel
theorem dX11_init_25 : decode cX11_init 25 = .ok (.return_, 1) := by decide +kernel
def mb_0_0 (g : xe_G) : Nat → Option mi_N := mt_node 10 (mt_node 4 (mt_node 0 (mt_leaf 0 (.inl (o_aload 0 1))) (mt_node 1 (mt_leaf 1 (.inl (o_drop 3))) (mt_leaf 4 (.inl (o_aload 0 1))))) (mt_node 5 (mt_leaf 5 (.inl (o_push (.int 1024) 3))) (mt_node 8 (mt_leaf 8 (.inl (o_newa .byte))) (mt_leaf 10 (.inl (o_put 11 0 (tyX11 0))))))) (mt_node 17 (mt_node 13 (mt_leaf 13 (.inl (o_aload 0 1))) (mt_node 14 (mt_leaf 14 (.inl (o_push (.ref g.1) 3))) (mt_leaf 17 (.inl (o_put 11 2 (tyX11 2)))))) (mt_node 21 (mt_node 20 (mt_leaf 20 (.inl (o_aload 0 1))) (mt_leaf 21 (.inl (o_push (.int (-1)) 1)))) (mt_node 22 (mt_leaf 22 (.inl (o_put 11 4 (tyX11 4)))) (mt_leaf 25 (.inr (.inr r_void))))))
theorem mb_0_0_ok {g : xe_G} : mt_all (mi_ent g mI (mI 0)) (mb_0_0 g) := mt_node_ok (mt_node_ok (mt_node_ok (mt_leaf_ok (en_o (sm_aload_n dX11_init_0 rfl))) (mt_node_ok (mt_leaf_ok (en_o (sm_obj bg_759 bg_3 bg_2 dX11_init_1))) (mt_leaf_ok (en_o (sm_aload_n dX11_init_4 rfl))))) (mt_node_ok (mt_leaf_ok (en_o (sm_sipush dX11_init_5 rfl))) (mt_node_ok (mt_leaf_ok (en_s (sm_newa (aty := .byte) rfl bg_760 (by decide) (by decide) dX11_init_8))) (mt_leaf_ok (en_s (sm_put (T := TX11) (by decide) rfl bi_X11 tyX11_ok nmX11 (by decide) rfl (tyX11_ok 0 (by decide)) bg_761 dX11_init_10)))))) (mt_node_ok (mt_node_ok (mt_leaf_ok (en_o (sm_aload_n dX11_init_13 rfl))) (mt_node_ok (mt_leaf_ok (en_o (sm_nob bg_762 dX11_init_14))) (mt_leaf_ok (en_s (sm_put (T := TX11) (by decide) rfl bi_X11 tyX11_ok nmX11 (by decide) rfl (tyX11_ok 2 (by decide)) bg_763 dX11_init_17))))) (mt_node_ok (mt_node_ok (mt_leaf_ok (en_o (sm_aload_n dX11_init_20 rfl))) (mt_leaf_ok (en_o (sm_iconst dX11_init_21 rfl)))) (mt_node_ok (mt_leaf_ok (en_s (sm_put (T := TX11) (by decide) rfl bi_X11 tyX11_ok nmX11 (by decide) rfl (tyX11_ok 4 (by decide)) bg_764 dX11_init_22))) (mt_leaf_ok (sr_void dX11_init_25)))))
def mb_0 (g : xe_G) : Nat × mi_B := (1, mb_0_0 g, fun _ => none)
theorem mb_0_ok {g : xe_G} : mi_meth g mI (mI 0) (mb_0 g) := ⟨rfl, by decide, mb_0_0_ok⟩
theorem dX11_bits_0 : decode cX11_bits 0 = .ok (.aload_n 0, 1) := by decide +kernel
theorem dX11_bits_1 : decode cX11_bits 1 = .ok (.getfield 69, 3) := by decide +kernel
theorem dX11_bits_4 : decode cX11_bits 4 = .ok (.ifnonnull 5, 3) := by decide +kernel
theorem dX11_bits_7 : decode cX11_bits 7 = .ok (.lconst 0, 1) := by decide +kernel
theorem dX11_bits_8 : decode cX11_bits 8 = .ok (.lreturn, 1) := by decide +kernel
theorem dX11_bits_9 : decode cX11_bits 9 = .ok (.aload_n 0, 1) := by decide +kernel
theorem dX11_bits_10 : decode cX11_bits 10 = .ok (.getfield 69, 3) := by decide +kernel
theorem dX11_bits_13 : decode cX11_bits 13 = .ok (.getfield 103, 3) := by decide +kernel
theorem dX11_bits_16 : decode cX11_bits 16 = .ok (.iload_n 1, 1) := by decide +kernel
theorem dX11_bits_17 : decode cX11_bits 17 = .ok (.invokevirtual 159, 3) := by decide +kernel
theorem dX11_bits_20 : decode cX11_bits 20 = .ok (.istore_n 2, 1) := by decide +kernel
theorem dX11_bits_21 : decode cX11_bits 21 = .ok (.aload_n 0, 1) := by decide +kernel
theorem dX11_bits_22 : decode cX11_bits 22 = .ok (.getfield 69, 3) := by decide +kernel
theorem dX11_bits_25 : decode cX11_bits 25 = .ok (.getfield 103, 3) := by decide +kernel
theorem dX11_bits_28 : decode cX11_bits 28 = .ok (.iload_n 1, 1) := by decide +kernel
theorem dX11_bits_29 : decode cX11_bits 29 = .ok (.invokevirtual 168, 3) := by decide +kernel
theorem dX11_bits_32 : decode cX11_bits 32 = .ok (.iconst 1, 1) := by decide +kernel
theorem dX11_bits_33 : decode cX11_bits 33 = .ok (.iadd, 1) := by decide +kernel
theorem dX11_bits_34 : decode cX11_bits 34 = .ok (.istore_n 3, 1) := by decide +kernel
theorem dX11_bits_35 : decode cX11_bits 35 = .ok (.iload_n 2, 1) := by decide +kernel
theorem dX11_bits_36 : decode cX11_bits 36 = .ok (.iconst 3, 1) := by decide +kernel
theorem dX11_bits_37 : decode cX11_bits 37 = .ok (.if_icmp .eq 8, 3) := by decide +kernel
theorem dX11_bits_40 : decode cX11_bits 40 = .ok (.iload_n 2, 1) := by decide +kernel
theorem dX11_bits_41 : decode cX11_bits 41 = .ok (.iconst 4, 1) := by decide +kernel
theorem dX11_bits_42 : decode cX11_bits 42 = .ok (.if_icmp .ne 16, 3) := by decide +kernel
theorem dX11_bits_45 : decode cX11_bits 45 = .ok (.aload_n 0, 1) := by decide +kernel
theorem dX11_bits_46 : decode cX11_bits 46 = .ok (.getfield 69, 3) := by decide +kernel
theorem dX11_bits_49 : decode cX11_bits 49 = .ok (.getfield 171, 3) := by decide +kernel
theorem dX11_bits_52 : decode cX11_bits 52 = .ok (.iload_n 3, 1) := by decide +kernel
theorem dX11_bits_53 : decode cX11_bits 53 = .ok (.invokevirtual 175, 3) := by decide +kernel
theorem dX11_bits_56 : decode cX11_bits 56 = .ok (.i2l, 1) := by decide +kernel
theorem dX11_bits_57 : decode cX11_bits 57 = .ok (.lreturn, 1) := by decide +kernel
theorem dX11_bits_58 : decode cX11_bits 58 = .ok (.iload_n 2, 1) := by decide +kernel
theorem dX11_bits_59 : decode cX11_bits 59 = .ok (.iconst 5, 1) := by decide +kernel
theorem dX11_bits_60 : decode cX11_bits 60 = .ok (.if_icmp .eq 9, 3) := by decide +kernel
theorem dX11_bits_63 : decode cX11_bits 63 = .ok (.iload_n 2, 1) := by decide +kernel
theorem dX11_bits_64 : decode cX11_bits 64 = .ok (.bipush 6, 2) := by decide +kernel
theorem dX11_bits_66 : decode cX11_bits 66 = .ok (.if_icmp .ne 38, 3) := by decide +kernel
theorem dX11_bits_69 : decode cX11_bits 69 = .ok (.aload_n 0, 1) := by decide +kernel
theorem dX11_bits_70 : decode cX11_bits 70 = .ok (.getfield 69, 3) := by decide +kernel
theorem dX11_bits_73 : decode cX11_bits 73 = .ok (.getfield 171, 3) := by decide +kernel
theorem dX11_bits_76 : decode cX11_bits 76 = .ok (.iload_n 3, 1) := by decide +kernel
theorem dX11_bits_77 : decode cX11_bits 77 = .ok (.invokevirtual 175, 3) := by decide +kernel
theorem dX11_bits_80 : decode cX11_bits 80 = .ok (.i2l, 1) := by decide +kernel
theorem dX11_bits_81 : decode cX11_bits 81 = .ok (.bipush 32, 2) := by decide +kernel
theorem dX11_bits_83 : decode cX11_bits 83 = .ok (.lshl, 1) := by decide +kernel
theorem dX11_bits_84 : decode cX11_bits 84 = .ok (.aload_n 0, 1) := by decide +kernel
theorem dX11_bits_85 : decode cX11_bits 85 = .ok (.getfield 69, 3) := by decide +kernel
theorem dX11_bits_88 : decode cX11_bits 88 = .ok (.getfield 171, 3) := by decide +kernel
theorem dX11_bits_91 : decode cX11_bits 91 = .ok (.iload_n 3, 1) := by decide +kernel
theorem dX11_bits_92 : decode cX11_bits 92 = .ok (.iconst 4, 1) := by decide +kernel
theorem dX11_bits_93 : decode cX11_bits 93 = .ok (.iadd, 1) := by decide +kernel
theorem dX11_bits_94 : decode cX11_bits 94 = .ok (.invokevirtual 175, 3) := by decide +kernel
theorem dX11_bits_97 : decode cX11_bits 97 = .ok (.i2l, 1) := by decide +kernel
theorem dX11_bits_98 : decode cX11_bits 98 = .ok (.ldc2_w 178, 3) := by decide +kernel
theorem dX11_bits_101 : decode cX11_bits 101 = .ok (.land, 1) := by decide +kernel
theorem dX11_bits_102 : decode cX11_bits 102 = .ok (.lor, 1) := by decide +kernel
theorem dX11_bits_103 : decode cX11_bits 103 = .ok (.lreturn, 1) := by decide +kernel
theorem dX11_bits_104 : decode cX11_bits 104 = .ok (.lconst 0, 1) := by decide +kernel
theorem dX11_bits_105 : decode cX11_bits 105 = .ok (.lreturn, 1) := by decide +kernel
def mb_1_0 (g : xe_G) : Nat → Option mi_N := mt_node 41 (mt_node 21 (mt_node 9 (mt_node 4 (mt_node 0 (mt_leaf 0 (.inl (o_aload 0 1))) (mt_node 1 (mt_leaf 1 (.inl (o_get 11 3))) (mt_leaf 4 (.inl (o_null 9 7))))) (mt_node 7 (mt_leaf 7 (.inl (o_push (.long 0) 1))) (mt_node 8 (mt_leaf 8 (.inr (.inr r_long))) (mt_leaf 9 (.inl (o_aload 0 1)))))) (mt_node 16 (mt_node 10 (mt_leaf 10 (.inl (o_get 11 3))) (mt_node 13 (mt_leaf 13 (.inl (o_get 3 1))) (mt_leaf 16 (.inl (o_iload 1 1))))) (mt_node 17 (mt_leaf 17 (.inr (.inl (138, 2, some 7)))) (mt_node 20 (mt_leaf 20 (.inl (o_isto 2 1))) (mt_leaf 21 (.inl (o_aload 0 1))))))) (mt_node 33 (mt_node 28 (mt_node 22 (mt_leaf 22 (.inl (o_get 11 3))) (mt_node 25 (mt_leaf 25 (.inl (o_get 3 1))) (mt_leaf 28 (.inl (o_iload 1 1))))) (mt_node 29 (mt_leaf 29 (.inr (.inl (139, 2, some 7)))) (mt_node 32 (mt_leaf 32 (.inl (o_push (.int 1) 1))) (mt_leaf 33 (.inl (o_bin (fun x y => x + y) 1)))))) (mt_node 36 (mt_node 34 (mt_leaf 34 (.inl (o_isto 3 1))) (mt_node 35 (mt_leaf 35 (.inl (o_iload 2 1))) (mt_leaf 36 (.inl (o_push (.int 3) 1))))) (mt_node 37 (mt_leaf 37 (.inl (o_if2 (fun x y => decide (x = y)) 45))) (mt_node 40 (mt_leaf 40 (.inl (o_iload 2 1))) (mt_leaf 41 (.inl (o_push (.int 4) 1)))))))) (mt_node 63 (mt_node 53 (mt_node 46 (mt_node 42 (mt_leaf 42 (.inl (o_if2 (fun x y => decide (¬ x = y)) 58))) (mt_node 45 (mt_leaf 45 (.inl (o_aload 0 1))) (mt_leaf 46 (.inl (o_get 11 3))))) (mt_node 49 (mt_leaf 49 (.inl (o_get 3 0))) (mt_node 52 (mt_leaf 52 (.inl (o_iload 3 1))) (mt_leaf 53 (.inr (.inl (50, 2, some 1))))))) (mt_node 58 (mt_node 56 (mt_leaf 56 (.inl (o_i2l))) (mt_node 57 (mt_leaf 57 (.inr (.inr r_long))) (mt_leaf 58 (.inl (o_iload 2 1))))) (mt_node 59 (mt_leaf 59 (.inl (o_push (.int 5) 1))) (mt_node 60 (mt_leaf 60 (.inl (o_if2 (fun x y => decide (x = y)) 69))) (mt_leaf 63 (.inl (o_iload 2 1))))))) (mt_node 76 (mt_node 69 (mt_node 64 (mt_leaf 64 (.inl (o_push (.int 6) 2))) (mt_node 66 (mt_leaf 66 (.inl (o_if2 (fun x y => decide (¬ x = y)) 104))) (mt_leaf 69 (.inl (o_aload 0 1))))) (mt_node 70 (mt_leaf 70 (.inl (o_get 11 3))) (mt_node 73 (mt_leaf 73 (.inl (o_get 3 0))) (mt_leaf 76 (.inl (o_iload 3 1)))))) (mt_node 81 (mt_node 77 (mt_leaf 77 (.inr (.inl (50, 2, some 1)))) (mt_node 80 (mt_leaf 80 (.inl (o_i2l))) (mt_leaf 81 (.inl (o_push (.int 32) 2))))) (mt_node 83 (mt_leaf 83 (.inl (o_lshl))) (mt_node 84 (mt_leaf 84 (.inl (o_aload 0 1))) (mt_leaf 85 (.inl (o_get 11 3))))))))
theorem mb_1_0_ok {g : xe_G} : mt_all (mi_ent g mI (mI 1)) (mb_1_0 g) := mt_node_ok (mt_node_ok (mt_node_ok (mt_node_ok (mt_node_ok (mt_leaf_ok (en_o (sm_aload_n dX11_bits_0 rfl))) (mt_node_ok (mt_leaf_ok (en_o (sm_get (T := TX11) (by decide) rfl bi_X11 (by decide) bg_801 dX11_bits_1))) (mt_leaf_ok (en_o (sm_ifnonnull dX11_bits_4 (by decide)))))) (mt_node_ok (mt_leaf_ok (en_o (sm_lconst dX11_bits_7 rfl))) (mt_node_ok (mt_leaf_ok (sr_long dX11_bits_8)) (mt_leaf_ok (en_o (sm_aload_n dX11_bits_9 rfl)))))) (mt_node_ok (mt_node_ok (mt_leaf_ok (en_o (sm_get (T := TX11) (by decide) rfl bi_X11 (by decide) bg_801 dX11_bits_10))) (mt_node_ok (mt_leaf_ok (en_o (sm_get (T := TX3) (by decide) rfl bi_X3 (by decide) bg_826 dX11_bits_13))) (mt_leaf_ok (en_o (sm_iload_n dX11_bits_16 rfl))))) (mt_node_ok (mt_leaf_ok ((⟨by decide, bg_23, bg_49, 159, 1, ⟨by decide, by decide, by decide +kernel⟩, bg_871, Or.inr ⟨rfl, bg_50, 7, _, rfl, by decide, rfl, Or.inl ⟨dX11_bits_17, bg_51⟩⟩⟩ : mi_cal _ _ _ (mI 138) _ _))) (mt_node_ok (mt_leaf_ok (en_s (sm_istore_n dX11_bits_20 rfl (by decide)))) (mt_leaf_ok (en_o (sm_aload_n dX11_bits_21 rfl))))))) (mt_node_ok (mt_node_ok (mt_node_ok (mt_leaf_ok (en_o (sm_get (T := TX11) (by decide) rfl bi_X11 (by decide) bg_801 dX11_bits_22))) (mt_node_ok (mt_leaf_ok (en_o (sm_get (T := TX3) (by decide) rfl bi_X3 (by decide) bg_826 dX11_bits_25))) (mt_leaf_ok (en_o (sm_iload_n dX11_bits_28 rfl))))) (mt_node_ok (mt_leaf_ok ((⟨by decide, bg_23, bg_548, 168, 1, ⟨by decide, by decide, by decide +kernel⟩, bg_875, Or.inr ⟨rfl, bg_617, 7, _, rfl, by decide, rfl, Or.inl ⟨dX11_bits_29, bg_618⟩⟩⟩ : mi_cal _ _ _ (mI 139) _ _))) (mt_node_ok (mt_leaf_ok (en_o (sm_iconst dX11_bits_32 rfl))) (mt_leaf_ok (en_o (sm_iadd dX11_bits_33)))))) (mt_node_ok (mt_node_ok (mt_leaf_ok (en_s (sm_istore_n dX11_bits_34 rfl (by decide)))) (mt_node_ok (mt_leaf_ok (en_o (sm_iload_n dX11_bits_35 rfl))) (mt_leaf_ok (en_o (sm_iconst dX11_bits_36 rfl))))) (mt_node_ok (mt_leaf_ok (en_o (sm_icmp_eq dX11_bits_37 (by decide)))) (mt_node_ok (mt_leaf_ok (en_o (sm_iload_n dX11_bits_40 rfl))) (mt_leaf_ok (en_o (sm_iconst dX11_bits_41 rfl)))))))) (mt_node_ok (mt_node_ok (mt_node_ok (mt_node_ok (mt_leaf_ok (en_o (sm_icmp_ne dX11_bits_42 (by decide)))) (mt_node_ok (mt_leaf_ok (en_o (sm_aload_n dX11_bits_45 rfl))) (mt_leaf_ok (en_o (sm_get (T := TX11) (by decide) rfl bi_X11 (by decide) bg_801 dX11_bits_46))))) (mt_node_ok (mt_leaf_ok (en_o (sm_get (T := TX3) (by decide) rfl bi_X3 (by decide) bg_876 dX11_bits_49))) (mt_node_ok (mt_leaf_ok (en_o (sm_iload_n dX11_bits_52 rfl))) (mt_leaf_ok ((⟨by decide, bg_18, bg_89, 175, 1, ⟨by decide, by decide, by decide +kernel⟩, bg_877, Or.inr ⟨rfl, bg_90, 1, _, rfl, by decide, rfl, Or.inl ⟨dX11_bits_53, bg_91⟩⟩⟩ : mi_cal _ _ _ (mI 50) _ _)))))) (mt_node_ok (mt_node_ok (mt_leaf_ok (en_o (sm_i2l dX11_bits_56))) (mt_node_ok (mt_leaf_ok (sr_long dX11_bits_57)) (mt_leaf_ok (en_o (sm_iload_n dX11_bits_58 rfl))))) (mt_node_ok (mt_leaf_ok (en_o (sm_iconst dX11_bits_59 rfl))) (mt_node_ok (mt_leaf_ok (en_o (sm_icmp_eq dX11_bits_60 (by decide)))) (mt_leaf_ok (en_o (sm_iload_n dX11_bits_63 rfl))))))) (mt_node_ok (mt_node_ok (mt_node_ok (mt_leaf_ok (en_o (sm_bipush dX11_bits_64 rfl))) (mt_node_ok (mt_leaf_ok (en_o (sm_icmp_ne dX11_bits_66 (by decide)))) (mt_leaf_ok (en_o (sm_aload_n dX11_bits_69 rfl))))) (mt_node_ok (mt_leaf_ok (en_o (sm_get (T := TX11) (by decide) rfl bi_X11 (by decide) bg_801 dX11_bits_70))) (mt_node_ok (mt_leaf_ok (en_o (sm_get (T := TX3) (by decide) rfl bi_X3 (by decide) bg_876 dX11_bits_73))) (mt_leaf_ok (en_o (sm_iload_n dX11_bits_76 rfl)))))) (mt_node_ok (mt_node_ok (mt_leaf_ok ((⟨by decide, bg_18, bg_89, 175, 1, ⟨by decide, by decide, by decide +kernel⟩, bg_877, Or.inr ⟨rfl, bg_90, 1, _, rfl, by decide, rfl, Or.inl ⟨dX11_bits_77, bg_91⟩⟩⟩ : mi_cal _ _ _ (mI 50) _ _))) (mt_node_ok (mt_leaf_ok (en_o (sm_i2l dX11_bits_80))) (mt_leaf_ok (en_o (sm_bipush dX11_bits_81 rfl))))) (mt_node_ok (mt_leaf_ok (en_o (sm_lshl dX11_bits_83))) (mt_node_ok (mt_leaf_ok (en_o (sm_aload_n dX11_bits_84 rfl))) (mt_leaf_ok (en_o (sm_get (T := TX11) (by decide) rfl bi_X11 (by decide) bg_801 dX11_bits_85))))))))
def mb_1_1 (g : xe_G) : Nat → Option mi_N := mt_node 97 (mt_node 92 (mt_node 88 (mt_leaf 88 (.inl (o_get 3 0))) (mt_node 91 (mt_leaf 91 (.inl (o_iload 3 1))) (mt_leaf 92 (.inl (o_push (.int 4) 1))))) (mt_node 93 (mt_leaf 93 (.inl (o_bin (fun x y => x + y) 1))) (mt_node 94 (mt_leaf 94 (.inr (.inl (50, 2, some 1)))) (mt_leaf 97 (.inl (o_i2l)))))) (mt_node 102 (mt_node 98 (mt_leaf 98 (.inl (o_push (.long 4294967295) 3))) (mt_node 101 (mt_leaf 101 (.inl (o_binL (fun x y => x &&& y)))) (mt_leaf 102 (.inl (o_binL (fun x y => x ||| y)))))) (mt_node 103 (mt_leaf 103 (.inr (.inr r_long))) (mt_node 104 (mt_leaf 104 (.inl (o_push (.long 0) 1))) (mt_leaf 105 (.inr (.inr r_long))))))
theorem mb_1_1_ok {g : xe_G} : mt_all (mi_ent g mI (mI 1)) (mb_1_1 g) := mt_node_ok (mt_node_ok (mt_node_ok (mt_leaf_ok (en_o (sm_get (T := TX3) (by decide) rfl bi_X3 (by decide) bg_876 dX11_bits_88))) (mt_node_ok (mt_leaf_ok (en_o (sm_iload_n dX11_bits_91 rfl))) (mt_leaf_ok (en_o (sm_iconst dX11_bits_92 rfl))))) (mt_node_ok (mt_leaf_ok (en_o (sm_iadd dX11_bits_93))) (mt_node_ok (mt_leaf_ok ((⟨by decide, bg_18, bg_89, 175, 1, ⟨by decide, by decide, by decide +kernel⟩, bg_877, Or.inr ⟨rfl, bg_90, 1, _, rfl, by decide, rfl, Or.inl ⟨dX11_bits_94, bg_91⟩⟩⟩ : mi_cal _ _ _ (mI 50) _ _))) (mt_leaf_ok (en_o (sm_i2l dX11_bits_97)))))) (mt_node_ok (mt_node_ok (mt_leaf_ok (en_o (sm_ldc2 bg_878 dX11_bits_98))) (mt_node_ok (mt_leaf_ok (en_o (sm_land dX11_bits_101))) (mt_leaf_ok (en_o (sm_lor dX11_bits_102))))) (mt_node_ok (mt_leaf_ok (sr_long dX11_bits_103)) (mt_node_ok (mt_leaf_ok (en_o (sm_lconst dX11_bits_104 rfl))) (mt_leaf_ok (sr_long dX11_bits_105)))))
def mb_1 (g : xe_G) : Nat × mi_B := (4, mt_node 85 (mb_1_0 g) (mb_1_1 g), mk_node 45 (mk_leaf 45 [0, 3]) (mk_leaf 69 [0, 3]))
theorem mb_1_ok {g : xe_G} : mi_meth g mI (mI 1) (mb_1 g) := ⟨rfl, by decide, mt_node_ok (mb_1_0_ok) (mb_1_1_ok)⟩
theorem dX11_bootstrap_0 : decode cX11_bootstrap 0 = .ok (.aload_n 0, 1) := by decide +kernel
theorem dX11_bootstrap_1 : decode cX11_bootstrap 1 = .ok (.getfield 69, 3) := by decide +kernel
theorem dX11_bootstrap_4 : decode cX11_bootstrap 4 = .ok (.ifnonnull 7, 3) := by decide +kernel
theorem dX11_bootstrap_7 : decode cX11_bootstrap 7 = .ok (.iconst (-1), 1) := by decide +kernel
theorem dX11_bootstrap_8 : decode cX11_bootstrap 8 = .ok (.goto 12, 3) := by decide +kernel
theorem dX11_bootstrap_11 : decode cX11_bootstrap 11 = .ok (.aload_n 0, 1) := by decide +kernel
theorem dX11_bootstrap_12 : decode cX11_bootstrap 12 = .ok (.getfield 69, 3) := by decide +kernel
theorem dX11_bootstrap_15 : decode cX11_bootstrap 15 = .ok (.iload_n 1, 1) := by decide +kernel
theorem dX11_bootstrap_16 : decode cX11_bootstrap 16 = .ok (.iload_n 2, 1) := by decide +kernel
theorem dX11_bootstrap_17 : decode cX11_bootstrap 17 = .ok (.invokevirtual 230, 3) := by decide +kernel
theorem dX11_bootstrap_20 : decode cX11_bootstrap 20 = .ok (.ireturn, 1) := by decide +kernel
def mb_2_0 (g : xe_G) : Nat → Option mi_N := mt_node 8 (mt_node 1 (mt_node 0 (mt_leaf 0 (.inl (o_aload 0 1))) (mt_leaf 1 (.inl (o_get 11 3)))) (mt_node 4 (mt_leaf 4 (.inl (o_null 11 7))) (mt_node 7 (mt_leaf 7 (.inl (o_push (.int (-1)) 1))) (mt_leaf 8 (.inl (o_goto 20)))))) (mt_node 15 (mt_node 11 (mt_leaf 11 (.inl (o_aload 0 1))) (mt_node 12 (mt_leaf 12 (.inl (o_get 11 3))) (mt_leaf 15 (.inl (o_iload 1 1))))) (mt_node 16 (mt_leaf 16 (.inl (o_iload 2 1))) (mt_node 17 (mt_leaf 17 (.inr (.inl (70, 3, some 3)))) (mt_leaf 20 (.inr (.inr (r_int (fun _ => true))))))))
theorem mb_2_0_ok {g : xe_G} : mt_all (mi_ent g mI (mI 2)) (mb_2_0 g) := mt_node_ok (mt_node_ok (mt_node_ok (mt_leaf_ok (en_o (sm_aload_n dX11_bootstrap_0 rfl))) (mt_leaf_ok (en_o (sm_get (T := TX11) (by decide) rfl bi_X11 (by decide) bg_801 dX11_bootstrap_1)))) (mt_node_ok (mt_leaf_ok (en_o (sm_ifnonnull dX11_bootstrap_4 (by decide)))) (mt_node_ok (mt_leaf_ok (en_o (sm_iconst dX11_bootstrap_7 rfl))) (mt_leaf_ok (en_o (sm_goto dX11_bootstrap_8 (by decide))))))) (mt_node_ok (mt_node_ok (mt_leaf_ok (en_o (sm_aload_n dX11_bootstrap_11 rfl))) (mt_node_ok (mt_leaf_ok (en_o (sm_get (T := TX11) (by decide) rfl bi_X11 (by decide) bg_801 dX11_bootstrap_12))) (mt_leaf_ok (en_o (sm_iload_n dX11_bootstrap_15 rfl))))) (mt_node_ok (mt_leaf_ok (en_o (sm_iload_n dX11_bootstrap_16 rfl))) (mt_node_ok (mt_leaf_ok ((⟨by decide, bg_132, bg_331, 230, 2, ⟨by decide, by decide, by decide +kernel⟩, bg_904, Or.inr ⟨rfl, bg_905, 3, _, rfl, by decide, rfl, Or.inl ⟨dX11_bootstrap_17, bg_906⟩⟩⟩ : mi_cal _ _ _ (mI 70) _ _))) (mt_leaf_ok (sr_int dX11_bootstrap_20)))))
def mb_2 (g : xe_G) : Nat × mi_B := (3, mb_2_0 g, mk_leaf 20 [])
theorem mb_2_ok {g : xe_G} : mi_meth g mI (mI 2) (mb_2 g) := ⟨rfl, by decide, mb_2_0_ok⟩
theorem dX11_character_0 : decode cX11_character 0 = .ok (.aload_n 0, 1) := by decide +kernel
theorem dX11_character_1 : decode cX11_character 1 = .ok (.getfield 69, 3) := by decide +kernel
theorem dX11_character_4 : decode cX11_character 4 = .ok (.ifnonnull 7, 3) := by decide +kernel
theorem dX11_character_7 : decode cX11_character 7 = .ok (.iconst (-1), 1) := by decide +kernel
theorem dX11_character_8 : decode cX11_character 8 = .ok (.goto 15, 3) := by decide +kernel
theorem dX11_character_11 : decode cX11_character 11 = .ok (.aload_n 0, 1) := by decide +kernel
theorem dX11_character_12 : decode cX11_character 12 = .ok (.getfield 69, 3) := by decide +kernel
theorem dX11_character_15 : decode cX11_character 15 = .ok (.getfield 103, 3) := by decide +kernel
theorem dX11_character_18 : decode cX11_character 18 = .ok (.iload_n 1, 1) := by decide +kernel
theorem dX11_character_19 : decode cX11_character 19 = .ok (.iload_n 2, 1) := by decide +kernel
theorem dX11_character_20 : decode cX11_character 20 = .ok (.invokevirtual 180, 3) := by decide +kernel
theorem dX11_character_23 : decode cX11_character 23 = .ok (.ireturn, 1) := by decide +kernel
def mb_3_0 (g : xe_G) : Nat → Option mi_N := mt_node 11 (mt_node 4 (mt_node 0 (mt_leaf 0 (.inl (o_aload 0 1))) (mt_node 1 (mt_leaf 1 (.inl (o_get 11 3))) (mt_leaf 4 (.inl (o_null 11 7))))) (mt_node 7 (mt_leaf 7 (.inl (o_push (.int (-1)) 1))) (mt_node 8 (mt_leaf 8 (.inl (o_goto 23))) (mt_leaf 11 (.inl (o_aload 0 1)))))) (mt_node 18 (mt_node 12 (mt_leaf 12 (.inl (o_get 11 3))) (mt_node 15 (mt_leaf 15 (.inl (o_get 3 1))) (mt_leaf 18 (.inl (o_iload 1 1))))) (mt_node 19 (mt_leaf 19 (.inl (o_iload 2 1))) (mt_node 20 (mt_leaf 20 (.inr (.inl (113, 3, some 7)))) (mt_leaf 23 (.inr (.inr (r_int (fun _ => true))))))))
theorem mb_3_0_ok {g : xe_G} : mt_all (mi_ent g mI (mI 3)) (mb_3_0 g) := mt_node_ok (mt_node_ok (mt_node_ok (mt_leaf_ok (en_o (sm_aload_n dX11_character_0 rfl))) (mt_node_ok (mt_leaf_ok (en_o (sm_get (T := TX11) (by decide) rfl bi_X11 (by decide) bg_801 dX11_character_1))) (mt_leaf_ok (en_o (sm_ifnonnull dX11_character_4 (by decide)))))) (mt_node_ok (mt_leaf_ok (en_o (sm_iconst dX11_character_7 rfl))) (mt_node_ok (mt_leaf_ok (en_o (sm_goto dX11_character_8 (by decide)))) (mt_leaf_ok (en_o (sm_aload_n dX11_character_11 rfl)))))) (mt_node_ok (mt_node_ok (mt_leaf_ok (en_o (sm_get (T := TX11) (by decide) rfl bi_X11 (by decide) bg_801 dX11_character_12))) (mt_node_ok (mt_leaf_ok (en_o (sm_get (T := TX3) (by decide) rfl bi_X3 (by decide) bg_826 dX11_character_15))) (mt_leaf_ok (en_o (sm_iload_n dX11_character_18 rfl))))) (mt_node_ok (mt_leaf_ok (en_o (sm_iload_n dX11_character_19 rfl))) (mt_node_ok (mt_leaf_ok ((⟨by decide, bg_23, bg_118, 180, 2, ⟨by decide, by decide, by decide +kernel⟩, bg_880, Or.inr ⟨rfl, bg_119, 7, _, rfl, by decide, rfl, Or.inl ⟨dX11_character_20, bg_120⟩⟩⟩ : mi_cal _ _ _ (mI 113) _ _))) (mt_leaf_ok (sr_int dX11_character_23)))))
def mb_3 (g : xe_G) : Nat × mi_B := (3, mb_3_0 g, mk_leaf 23 [])
theorem mb_3_ok {g : xe_G} : mi_meth g mI (mI 3) (mb_3 g) := ⟨rfl, by decide, mb_3_0_ok⟩
theorem dX11_codeOf_0 : decode cX11_codeOf 0 = .ok (.aload_n 0, 1) := by decide +kernel
theorem dX11_codeOf_1 : decode cX11_codeOf 1 = .ok (.getfield 69, 3) := by decide +kernel
theorem dX11_codeOf_4 : decode cX11_codeOf 4 = .ok (.ifnonnull 7, 3) := by decide +kernel
theorem dX11_codeOf_7 : decode cX11_codeOf 7 = .ok (.aconst_null, 1) := by decide +kernel
theorem dX11_codeOf_8 : decode cX11_codeOf 8 = .ok (.goto 12, 3) := by decide +kernel
theorem dX11_codeOf_11 : decode cX11_codeOf 11 = .ok (.aload_n 0, 1) := by decide +kernel
theorem dX11_codeOf_12 : decode cX11_codeOf 12 = .ok (.getfield 69, 3) := by decide +kernel
theorem dX11_codeOf_15 : decode cX11_codeOf 15 = .ok (.iconst 1, 1) := by decide +kernel
theorem dX11_codeOf_16 : decode cX11_codeOf 16 = .ok (.iload_n 1, 1) := by decide +kernel
theorem dX11_codeOf_17 : decode cX11_codeOf 17 = .ok (.invokevirtual 189, 3) := by decide +kernel
theorem dX11_codeOf_20 : decode cX11_codeOf 20 = .ok (.astore_n 2, 1) := by decide +kernel
theorem dX11_codeOf_21 : decode cX11_codeOf 21 = .ok (.aload_n 2, 1) := by decide +kernel
theorem dX11_codeOf_22 : decode cX11_codeOf 22 = .ok (.ifnonnull 7, 3) := by decide +kernel
theorem dX11_codeOf_25 : decode cX11_codeOf 25 = .ok (.aconst_null, 1) := by decide +kernel
theorem dX11_codeOf_26 : decode cX11_codeOf 26 = .ok (.goto 7, 3) := by decide +kernel
theorem dX11_codeOf_29 : decode cX11_codeOf 29 = .ok (.aload_n 2, 1) := by decide +kernel
theorem dX11_codeOf_30 : decode cX11_codeOf 30 = .ok (.getfield 226, 3) := by decide +kernel
theorem dX11_codeOf_33 : decode cX11_codeOf 33 = .ok (.areturn, 1) := by decide +kernel
def mb_4_0 (g : xe_G) : Nat → Option mi_N := mt_node 16 (mt_node 7 (mt_node 1 (mt_node 0 (mt_leaf 0 (.inl (o_aload 0 1))) (mt_leaf 1 (.inl (o_get 11 3)))) (mt_node 4 (mt_leaf 4 (.inl (o_null 11 7))) (mt_leaf 7 (.inl (o_push .null 1))))) (mt_node 11 (mt_node 8 (mt_leaf 8 (.inl (o_goto 20))) (mt_leaf 11 (.inl (o_aload 0 1)))) (mt_node 12 (mt_leaf 12 (.inl (o_get 11 3))) (mt_node 15 (mt_leaf 15 (.inl (o_push (.int 1) 1))) (mt_leaf 16 (.inl (o_iload 1 1))))))) (mt_node 22 (mt_node 20 (mt_node 17 (mt_leaf 17 (.inr (.inl (72, 3, some 3)))) (mt_leaf 20 (.inl (o_asto 2 1)))) (mt_node 21 (mt_leaf 21 (.inl (o_aload 2 1))) (mt_leaf 22 (.inl (o_null 29 25))))) (mt_node 26 (mt_node 25 (mt_leaf 25 (.inl (o_push .null 1))) (mt_leaf 26 (.inl (o_goto 33)))) (mt_node 29 (mt_leaf 29 (.inl (o_aload 2 1))) (mt_node 30 (mt_leaf 30 (.inl (o_get 6 10))) (mt_leaf 33 (.inr (.inr r_ref)))))))
theorem mb_4_0_ok {g : xe_G} : mt_all (mi_ent g mI (mI 4)) (mb_4_0 g) := mt_node_ok (mt_node_ok (mt_node_ok (mt_node_ok (mt_leaf_ok (en_o (sm_aload_n dX11_codeOf_0 rfl))) (mt_leaf_ok (en_o (sm_get (T := TX11) (by decide) rfl bi_X11 (by decide) bg_801 dX11_codeOf_1)))) (mt_node_ok (mt_leaf_ok (en_o (sm_ifnonnull dX11_codeOf_4 (by decide)))) (mt_leaf_ok (en_o (sm_null dX11_codeOf_7))))) (mt_node_ok (mt_node_ok (mt_leaf_ok (en_o (sm_goto dX11_codeOf_8 (by decide)))) (mt_leaf_ok (en_o (sm_aload_n dX11_codeOf_11 rfl)))) (mt_node_ok (mt_leaf_ok (en_o (sm_get (T := TX11) (by decide) rfl bi_X11 (by decide) bg_801 dX11_codeOf_12))) (mt_node_ok (mt_leaf_ok (en_o (sm_iconst dX11_codeOf_15 rfl))) (mt_leaf_ok (en_o (sm_iload_n dX11_codeOf_16 rfl))))))) (mt_node_ok (mt_node_ok (mt_node_ok (mt_leaf_ok ((⟨by decide, bg_132, bg_330, 189, 2, ⟨by decide, by decide, by decide +kernel⟩, bg_884, Or.inr ⟨rfl, bg_885, 3, _, rfl, by decide, rfl, Or.inl ⟨dX11_codeOf_17, bg_886⟩⟩⟩ : mi_cal _ _ _ (mI 72) _ _))) (mt_leaf_ok (en_s (sm_astore_n dX11_codeOf_20 rfl (by decide))))) (mt_node_ok (mt_leaf_ok (en_o (sm_aload_n dX11_codeOf_21 rfl))) (mt_leaf_ok (en_o (sm_ifnonnull dX11_codeOf_22 (by decide)))))) (mt_node_ok (mt_node_ok (mt_leaf_ok (en_o (sm_null dX11_codeOf_25))) (mt_leaf_ok (en_o (sm_goto dX11_codeOf_26 (by decide))))) (mt_node_ok (mt_leaf_ok (en_o (sm_aload_n dX11_codeOf_29 rfl))) (mt_node_ok (mt_leaf_ok (en_o (sm_get (T := TX6) (by decide) rfl bi_X6 (by decide) bg_902 dX11_codeOf_30))) (mt_leaf_ok (sr_ref (Or.inl ⟨_, rfl⟩) dX11_codeOf_33))))))
def mb_4 (g : xe_G) : Nat × mi_B := (3, mb_4_0 g, mk_node 20 (mk_leaf 20 []) (mk_leaf 33 []))
theorem mb_4_ok {g : xe_G} : mi_meth g mI (mI 4) (mb_4 g) := ⟨rfl, by decide, mb_4_0_ok⟩
theorem dX11_count_0 : decode cX11_count 0 = .ok (.iload_n 1, 1) := by decide +kernel
theorem dX11_count_1 : decode cX11_count 1 = .ok (.ifCond .lt 9, 3) := by decide +kernel
theorem dX11_count_4 : decode cX11_count 4 = .ok (.iload_n 1, 1) := by decide +kernel
theorem dX11_count_5 : decode cX11_count 5 = .ok (.bipush 15, 2) := by decide +kernel
theorem dX11_count_7 : decode cX11_count 7 = .ok (.if_icmp .le 13, 3) := by decide +kernel
theorem dX11_count_20 : decode cX11_count 20 = .ok (.aload_n 0, 1) := by decide +kernel
theorem dX11_count_21 : decode cX11_count 21 = .ok (.getfield 69, 3) := by decide +kernel
theorem dX11_count_24 : decode cX11_count 24 = .ok (.ifnonnull 7, 3) := by decide +kernel
theorem dX11_count_27 : decode cX11_count 27 = .ok (.iconst (-1), 1) := by decide +kernel
theorem dX11_count_28 : decode cX11_count 28 = .ok (.goto 11, 3) := by decide +kernel
theorem dX11_count_31 : decode cX11_count 31 = .ok (.aload_n 0, 1) := by decide +kernel
theorem dX11_count_32 : decode cX11_count 32 = .ok (.getfield 69, 3) := by decide +kernel
theorem dX11_count_35 : decode cX11_count 35 = .ok (.iload_n 1, 1) := by decide +kernel
theorem dX11_count_36 : decode cX11_count 36 = .ok (.invokevirtual 150, 3) := by decide +kernel
theorem dX11_count_39 : decode cX11_count 39 = .ok (.ireturn, 1) := by decide +kernel
def mb_5_0 (g : xe_G) : Nat → Option mi_N := mt_node 21 (mt_node 4 (mt_node 0 (mt_leaf 0 (.inl (o_iload 1 1))) (mt_node 1 (mt_leaf 1 (.inl (o_if (fun x => decide (x < 0)) 10))) (mt_leaf 4 (.inl (o_iload 1 1))))) (mt_node 7 (mt_node 5 (mt_leaf 5 (.inl (o_push (.int 15) 2))) (mt_leaf 7 (.inl (o_if2 (fun x y => decide (x ≤ y)) 20)))) (mt_node 20 (mt_leaf 20 (.inl (o_aload 0 1))) (mt_leaf 21 (.inl (o_get 11 3)))))) (mt_node 31 (mt_node 27 (mt_node 24 (mt_leaf 24 (.inl (o_null 31 27))) (mt_leaf 27 (.inl (o_push (.int (-1)) 1)))) (mt_node 28 (mt_leaf 28 (.inl (o_goto 39))) (mt_leaf 31 (.inl (o_aload 0 1))))) (mt_node 35 (mt_node 32 (mt_leaf 32 (.inl (o_get 11 3))) (mt_leaf 35 (.inl (o_iload 1 1)))) (mt_node 36 (mt_leaf 36 (.inr (.inl (73, 2, some 3)))) (mt_leaf 39 (.inr (.inr (r_int (fun _ => true))))))))
theorem mb_5_0_ok {g : xe_G} : mt_all (mi_ent g mI (mI 5)) (mb_5_0 g) := mt_node_ok (mt_node_ok (mt_node_ok (mt_leaf_ok (en_o (sm_iload_n dX11_count_0 rfl))) (mt_node_ok (mt_leaf_ok (en_o (sm_if_lt dX11_count_1 (by decide)))) (mt_leaf_ok (en_o (sm_iload_n dX11_count_4 rfl))))) (mt_node_ok (mt_node_ok (mt_leaf_ok (en_o (sm_bipush dX11_count_5 rfl))) (mt_leaf_ok (en_o (sm_icmp_le dX11_count_7 (by decide))))) (mt_node_ok (mt_leaf_ok (en_o (sm_aload_n dX11_count_20 rfl))) (mt_leaf_ok (en_o (sm_get (T := TX11) (by decide) rfl bi_X11 (by decide) bg_801 dX11_count_21)))))) (mt_node_ok (mt_node_ok (mt_node_ok (mt_leaf_ok (en_o (sm_ifnonnull dX11_count_24 (by decide)))) (mt_leaf_ok (en_o (sm_iconst dX11_count_27 rfl)))) (mt_node_ok (mt_leaf_ok (en_o (sm_goto dX11_count_28 (by decide)))) (mt_leaf_ok (en_o (sm_aload_n dX11_count_31 rfl))))) (mt_node_ok (mt_node_ok (mt_leaf_ok (en_o (sm_get (T := TX11) (by decide) rfl bi_X11 (by decide) bg_801 dX11_count_32))) (mt_leaf_ok (en_o (sm_iload_n dX11_count_35 rfl)))) (mt_node_ok (mt_leaf_ok ((⟨by decide, bg_132, bg_315, 150, 1, ⟨by decide, by decide, by decide +kernel⟩, bg_866, Or.inr ⟨rfl, bg_867, 3, _, rfl, by decide, rfl, Or.inl ⟨dX11_count_36, bg_868⟩⟩⟩ : mi_cal _ _ _ (mI 73) _ _))) (mt_leaf_ok (sr_int dX11_count_39)))))
def mb_5 (g : xe_G) : Nat × mi_B := (2, mb_5_0 g, mk_leaf 39 [])
theorem mb_5_ok {g : xe_G} : mi_meth g mI (mI 5) (mb_5 g) := ⟨rfl, by decide, mb_5_0_ok⟩
theorem dX11_cut_0 : decode cX11_cut 0 = .ok (.aload_n 0, 1) := by decide +kernel
theorem dX11_cut_1 : decode cX11_cut 1 = .ok (.iload_n 1, 1) := by decide +kernel
theorem dX11_cut_2 : decode cX11_cut 2 = .ok (.invokevirtual 211, 3) := by decide +kernel
theorem dX11_cut_5 : decode cX11_cut 5 = .ok (.astore_n 2, 1) := by decide +kernel
theorem dX11_cut_6 : decode cX11_cut 6 = .ok (.aload_n 2, 1) := by decide +kernel
theorem dX11_cut_7 : decode cX11_cut 7 = .ok (.ifnonnull 7, 3) := by decide +kernel
theorem dX11_cut_10 : decode cX11_cut 10 = .ok (.iconst (-1), 1) := by decide +kernel
theorem dX11_cut_11 : decode cX11_cut 11 = .ok (.goto 7, 3) := by decide +kernel
theorem dX11_cut_14 : decode cX11_cut 14 = .ok (.aload_n 2, 1) := by decide +kernel
theorem dX11_cut_15 : decode cX11_cut 15 = .ok (.invokevirtual 233, 3) := by decide +kernel
theorem dX11_cut_18 : decode cX11_cut 18 = .ok (.ireturn, 1) := by decide +kernel
def mb_6_0 (g : xe_G) : Nat → Option mi_N := mt_node 6 (mt_node 1 (mt_node 0 (mt_leaf 0 (.inl (o_aload 0 1))) (mt_leaf 1 (.inl (o_iload 1 1)))) (mt_node 2 (mt_leaf 2 (.inr (.inl (4, 2, some 11)))) (mt_node 5 (mt_leaf 5 (.inl (o_asto 2 1))) (mt_leaf 6 (.inl (o_aload 2 1)))))) (mt_node 11 (mt_node 7 (mt_leaf 7 (.inl (o_null 14 10))) (mt_node 10 (mt_leaf 10 (.inl (o_push (.int (-1)) 1))) (mt_leaf 11 (.inl (o_goto 18))))) (mt_node 14 (mt_leaf 14 (.inl (o_aload 2 1))) (mt_node 15 (mt_leaf 15 (.inr (.inl (76, 1, some 4)))) (mt_leaf 18 (.inr (.inr (r_int (fun _ => true))))))))
theorem mb_6_0_ok {g : xe_G} : mt_all (mi_ent g mI (mI 6)) (mb_6_0 g) := mt_node_ok (mt_node_ok (mt_node_ok (mt_leaf_ok (en_o (sm_aload_n dX11_cut_0 rfl))) (mt_leaf_ok (en_o (sm_iload_n dX11_cut_1 rfl)))) (mt_node_ok (mt_leaf_ok ((⟨by decide, bg_774, bg_896, 211, 1, ⟨by decide, by decide, by decide +kernel⟩, bg_895, Or.inr ⟨rfl, bg_897, 11, _, rfl, by decide, rfl, Or.inl ⟨dX11_cut_2, bg_898⟩⟩⟩ : mi_cal _ _ _ (mI 4) _ _))) (mt_node_ok (mt_leaf_ok (en_s (sm_astore_n dX11_cut_5 rfl (by decide)))) (mt_leaf_ok (en_o (sm_aload_n dX11_cut_6 rfl)))))) (mt_node_ok (mt_node_ok (mt_leaf_ok (en_o (sm_ifnonnull dX11_cut_7 (by decide)))) (mt_node_ok (mt_leaf_ok (en_o (sm_iconst dX11_cut_10 rfl))) (mt_leaf_ok (en_o (sm_goto dX11_cut_11 (by decide)))))) (mt_node_ok (mt_leaf_ok (en_o (sm_aload_n dX11_cut_14 rfl))) (mt_node_ok (mt_leaf_ok ((⟨by decide, bg_156, bg_354, 233, 0, ⟨by decide, by decide, by decide +kernel⟩, bg_908, Or.inr ⟨rfl, bg_909, 4, _, rfl, by decide, rfl, Or.inl ⟨dX11_cut_15, bg_910⟩⟩⟩ : mi_cal _ _ _ (mI 76) _ _))) (mt_leaf_ok (sr_int dX11_cut_18)))))
def mb_6 (g : xe_G) : Nat × mi_B := (3, mb_6_0 g, mk_leaf 18 [])
theorem mb_6_ok {g : xe_G} : mi_meth g mI (mI 6) (mb_6 g) := ⟨rfl, by decide, mb_6_0_ok⟩
theorem dX11_end_0 : decode cX11_end 0 = .ok (.iload_n 1, 1) := by decide +kernel
theorem dX11_end_1 : decode cX11_end 1 = .ok (.ifCond .lt 11, 3) := by decide +kernel
theorem dX11_end_4 : decode cX11_end 4 = .ok (.iload_n 1, 1) := by decide +kernel
theorem dX11_end_5 : decode cX11_end 5 = .ok (.aload_n 0, 1) := by decide +kernel
theorem dX11_end_6 : decode cX11_end 6 = .ok (.getfield 23, 3) := by decide +kernel
theorem dX11_end_9 : decode cX11_end 9 = .ok (.if_icmp .le 13, 3) := by decide +kernel
theorem dX11_end_22 : decode cX11_end 22 = .ok (.aload_n 0, 1) := by decide +kernel
theorem dX11_end_23 : decode cX11_end 23 = .ok (.aload_n 0, 1) := by decide +kernel
theorem dX11_end_24 : decode cX11_end 24 = .ok (.getfield 9, 3) := by decide +kernel
theorem dX11_end_27 : decode cX11_end 27 = .ok (.iload_n 1, 1) := by decide +kernel
theorem dX11_end_28 : decode cX11_end 28 = .ok (.invokestatic 38, 3) := by decide +kernel
theorem dX11_end_31 : decode cX11_end 31 = .ok (.putfield 16, 3) := by decide +kernel
theorem dX11_end_34 : decode cX11_end 34 = .ok (.aload_n 0, 1) := by decide +kernel
theorem dX11_end_35 : decode cX11_end 35 = .ok (.iconst 0, 1) := by decide +kernel
theorem dX11_end_36 : decode cX11_end 36 = .ok (.putfield 23, 3) := by decide +kernel
theorem dX11_end_39 : decode cX11_end 39 = .ok (.iload_n 1, 1) := by decide +kernel
theorem dX11_end_40 : decode cX11_end 40 = .ok (.ireturn, 1) := by decide +kernel
def mb_7_0 (g : xe_G) : Nat → Option mi_N := mt_node 23 (mt_node 5 (mt_node 1 (mt_node 0 (mt_leaf 0 (.inl (o_iload 1 1))) (mt_leaf 1 (.inl (o_if (fun x => decide (x < 0)) 12)))) (mt_node 4 (mt_leaf 4 (.inl (o_iload 1 1))) (mt_leaf 5 (.inl (o_aload 0 1))))) (mt_node 9 (mt_node 6 (mt_leaf 6 (.inl (o_get 11 1))) (mt_leaf 9 (.inl (o_if2 (fun x y => decide (x ≤ y)) 22)))) (mt_node 22 (mt_leaf 22 (.inl (o_aload 0 1))) (mt_leaf 23 (.inl (o_aload 0 1)))))) (mt_node 31 (mt_node 27 (mt_node 24 (mt_leaf 24 (.inl (o_get 11 0))) (mt_leaf 27 (.inl (o_iload 1 1)))) (mt_node 28 (mt_leaf 28 (.inr (.inl (259, 2, none)))) (mt_leaf 31 (.inl (o_put 11 2 (tyX11 2)))))) (mt_node 35 (mt_node 34 (mt_leaf 34 (.inl (o_aload 0 1))) (mt_leaf 35 (.inl (o_push (.int 0) 1)))) (mt_node 36 (mt_leaf 36 (.inl (o_put 11 1 (tyX11 1)))) (mt_node 39 (mt_leaf 39 (.inl (o_iload 1 1))) (mt_leaf 40 (.inr (.inr (r_int (fun _ => true)))))))))
theorem mb_7_0_ok {g : xe_G} : mt_all (mi_ent g mI (mI 7)) (mb_7_0 g) := mt_node_ok (mt_node_ok (mt_node_ok (mt_node_ok (mt_leaf_ok (en_o (sm_iload_n dX11_end_0 rfl))) (mt_leaf_ok (en_o (sm_if_lt dX11_end_1 (by decide))))) (mt_node_ok (mt_leaf_ok (en_o (sm_iload_n dX11_end_4 rfl))) (mt_leaf_ok (en_o (sm_aload_n dX11_end_5 rfl))))) (mt_node_ok (mt_node_ok (mt_leaf_ok (en_o (sm_get (T := TX11) (by decide) rfl bi_X11 (by decide) bg_766 dX11_end_6))) (mt_leaf_ok (en_o (sm_icmp_le dX11_end_9 (by decide))))) (mt_node_ok (mt_leaf_ok (en_o (sm_aload_n dX11_end_22 rfl))) (mt_leaf_ok (en_o (sm_aload_n dX11_end_23 rfl)))))) (mt_node_ok (mt_node_ok (mt_node_ok (mt_leaf_ok (en_o (sm_get (T := TX11) (by decide) rfl bi_X11 (by decide) bg_761 dX11_end_24))) (mt_leaf_ok (en_o (sm_iload_n dX11_end_27 rfl)))) (mt_node_ok (mt_leaf_ok ((⟨by decide, bg_778, bg_776, 38, 2, ⟨by decide, by decide, by decide +kernel⟩, bg_775, Or.inl ⟨dX11_end_28, rfl, rfl, bg_777⟩⟩ : mi_cal _ _ _ (mI 259) _ _))) (mt_leaf_ok (en_s (sm_put (T := TX11) (by decide) rfl bi_X11 tyX11_ok nmX11 (by decide) rfl (tyX11_ok 2 (by decide)) bg_763 dX11_end_31))))) (mt_node_ok (mt_node_ok (mt_leaf_ok (en_o (sm_aload_n dX11_end_34 rfl))) (mt_leaf_ok (en_o (sm_iconst dX11_end_35 rfl)))) (mt_node_ok (mt_leaf_ok (en_s (sm_put (T := TX11) (by decide) rfl bi_X11 tyX11_ok nmX11 (by decide) rfl (tyX11_ok 1 (by decide)) bg_766 dX11_end_36))) (mt_node_ok (mt_leaf_ok (en_o (sm_iload_n dX11_end_39 rfl))) (mt_leaf_ok (sr_int dX11_end_40))))))
def mb_7 (g : xe_G) : Nat × mi_B := (2, mb_7_0 g, fun _ => none)
theorem mb_7_ok {g : xe_G} : mi_meth g mI (mI 7) (mb_7 g) := ⟨rfl, by decide, mb_7_0_ok⟩
theorem dX11_entry_0 : decode cX11_entry 0 = .ok (.iload_n 2, 1) := by decide +kernel
theorem dX11_entry_1 : decode cX11_entry 1 = .ok (.ifCond .lt 8, 3) := by decide +kernel
theorem dX11_entry_4 : decode cX11_entry 4 = .ok (.iload_n 2, 1) := by decide +kernel
theorem dX11_entry_5 : decode cX11_entry 5 = .ok (.iconst 2, 1) := by decide +kernel
theorem dX11_entry_6 : decode cX11_entry 6 = .ok (.if_icmp .le 13, 3) := by decide +kernel
theorem dX11_entry_19 : decode cX11_entry 19 = .ok (.aload_n 0, 1) := by decide +kernel
theorem dX11_entry_20 : decode cX11_entry 20 = .ok (.getfield 69, 3) := by decide +kernel
theorem dX11_entry_23 : decode cX11_entry 23 = .ok (.ifnull 21, 3) := by decide +kernel
theorem dX11_entry_26 : decode cX11_entry 26 = .ok (.iload_n 1, 1) := by decide +kernel
theorem dX11_entry_27 : decode cX11_entry 27 = .ok (.ifCond .lt 17, 3) := by decide +kernel
theorem dX11_entry_30 : decode cX11_entry 30 = .ok (.iload_n 1, 1) := by decide +kernel
theorem dX11_entry_31 : decode cX11_entry 31 = .ok (.aload_n 0, 1) := by decide +kernel
theorem dX11_entry_32 : decode cX11_entry 32 = .ok (.getfield 69, 3) := by decide +kernel
theorem dX11_entry_35 : decode cX11_entry 35 = .ok (.getfield 103, 3) := by decide +kernel
theorem dX11_entry_38 : decode cX11_entry 38 = .ok (.getfield 156, 3) := by decide +kernel
theorem dX11_entry_41 : decode cX11_entry 41 = .ok (.if_icmp .lt 5, 3) := by decide +kernel
theorem dX11_entry_44 : decode cX11_entry 44 = .ok (.iconst (-1), 1) := by decide +kernel
theorem dX11_entry_45 : decode cX11_entry 45 = .ok (.ireturn, 1) := by decide +kernel
theorem dX11_entry_46 : decode cX11_entry 46 = .ok (.iload_n 2, 1) := by decide +kernel
theorem dX11_entry_47 : decode cX11_entry 47 = .ok (.ifCond .ne 15, 3) := by decide +kernel
theorem dX11_entry_50 : decode cX11_entry 50 = .ok (.aload_n 0, 1) := by decide +kernel
theorem dX11_entry_51 : decode cX11_entry 51 = .ok (.getfield 69, 3) := by decide +kernel
theorem dX11_entry_54 : decode cX11_entry 54 = .ok (.getfield 103, 3) := by decide +kernel
theorem dX11_entry_57 : decode cX11_entry 57 = .ok (.iload_n 1, 1) := by decide +kernel
theorem dX11_entry_58 : decode cX11_entry 58 = .ok (.invokevirtual 159, 3) := by decide +kernel
theorem dX11_entry_61 : decode cX11_entry 61 = .ok (.ireturn, 1) := by decide +kernel
theorem dX11_entry_62 : decode cX11_entry 62 = .ok (.iload_n 2, 1) := by decide +kernel
theorem dX11_entry_63 : decode cX11_entry 63 = .ok (.iconst 1, 1) := by decide +kernel
theorem dX11_entry_64 : decode cX11_entry 64 = .ok (.if_icmp .ne 17, 3) := by decide +kernel
theorem dX11_entry_67 : decode cX11_entry 67 = .ok (.aload_n 0, 1) := by decide +kernel
theorem dX11_entry_68 : decode cX11_entry 68 = .ok (.getfield 69, 3) := by decide +kernel
theorem dX11_entry_71 : decode cX11_entry 71 = .ok (.getfield 103, 3) := by decide +kernel
theorem dX11_entry_74 : decode cX11_entry 74 = .ok (.iload_n 1, 1) := by decide +kernel
theorem dX11_entry_75 : decode cX11_entry 75 = .ok (.invokevirtual 162, 3) := by decide +kernel
theorem dX11_entry_78 : decode cX11_entry 78 = .ok (.goto 14, 3) := by decide +kernel
theorem dX11_entry_81 : decode cX11_entry 81 = .ok (.aload_n 0, 1) := by decide +kernel
theorem dX11_entry_82 : decode cX11_entry 82 = .ok (.getfield 69, 3) := by decide +kernel
theorem dX11_entry_85 : decode cX11_entry 85 = .ok (.getfield 103, 3) := by decide +kernel
theorem dX11_entry_88 : decode cX11_entry 88 = .ok (.iload_n 1, 1) := by decide +kernel
theorem dX11_entry_89 : decode cX11_entry 89 = .ok (.invokevirtual 165, 3) := by decide +kernel
theorem dX11_entry_92 : decode cX11_entry 92 = .ok (.ireturn, 1) := by decide +kernel
def mb_8_0 (g : xe_G) : Nat → Option mi_N := mt_node 47 (mt_node 27 (mt_node 6 (mt_node 1 (mt_node 0 (mt_leaf 0 (.inl (o_iload 2 1))) (mt_leaf 1 (.inl (o_if (fun x => decide (x < 0)) 9)))) (mt_node 4 (mt_leaf 4 (.inl (o_iload 2 1))) (mt_node 5 (mt_leaf 5 (.inl (o_push (.int 2) 1))) (mt_leaf 6 (.inl (o_if2 (fun x y => decide (x ≤ y)) 19)))))) (mt_node 20 (mt_node 19 (mt_leaf 19 (.inl (o_aload 0 1))) (mt_leaf 20 (.inl (o_get 11 3)))) (mt_node 23 (mt_leaf 23 (.inl (o_null 26 44))) (mt_node 26 (mt_leaf 26 (.inl (o_iload 1 1))) (mt_leaf 27 (.inl (o_if (fun x => decide (x < 0)) 44))))))) (mt_node 38 (mt_node 31 (mt_node 30 (mt_leaf 30 (.inl (o_iload 1 1))) (mt_leaf 31 (.inl (o_aload 0 1)))) (mt_node 32 (mt_leaf 32 (.inl (o_get 11 3))) (mt_node 35 (mt_leaf 35 (.inl (o_get 3 1))) (mt_leaf 38 (.inl (o_get 7 0)))))) (mt_node 44 (mt_node 41 (mt_leaf 41 (.inl (o_if2 (fun x y => decide (x < y)) 46))) (mt_leaf 44 (.inl (o_push (.int (-1)) 1)))) (mt_node 45 (mt_leaf 45 (.inr (.inr (r_int (fun _ => true))))) (mt_node 46 (mt_leaf 46 (.inl (o_iload 2 1))) (mt_leaf 47 (.inl (o_if (fun x => decide (¬ x = 0)) 62)))))))) (mt_node 67 (mt_node 58 (mt_node 51 (mt_node 50 (mt_leaf 50 (.inl (o_aload 0 1))) (mt_leaf 51 (.inl (o_get 11 3)))) (mt_node 54 (mt_leaf 54 (.inl (o_get 3 1))) (mt_node 57 (mt_leaf 57 (.inl (o_iload 1 1))) (mt_leaf 58 (.inr (.inl (138, 2, some 7))))))) (mt_node 62 (mt_node 61 (mt_leaf 61 (.inr (.inr (r_int (fun _ => true))))) (mt_leaf 62 (.inl (o_iload 2 1)))) (mt_node 63 (mt_leaf 63 (.inl (o_push (.int 1) 1))) (mt_node 64 (mt_leaf 64 (.inl (o_if2 (fun x y => decide (¬ x = y)) 81))) (mt_leaf 67 (.inl (o_aload 0 1))))))) (mt_node 78 (mt_node 71 (mt_node 68 (mt_leaf 68 (.inl (o_get 11 3))) (mt_leaf 71 (.inl (o_get 3 1)))) (mt_node 74 (mt_leaf 74 (.inl (o_iload 1 1))) (mt_node 75 (mt_leaf 75 (.inr (.inl (117, 2, some 7)))) (mt_leaf 78 (.inl (o_goto 92)))))) (mt_node 85 (mt_node 81 (mt_leaf 81 (.inl (o_aload 0 1))) (mt_node 82 (mt_leaf 82 (.inl (o_get 11 3))) (mt_leaf 85 (.inl (o_get 3 1))))) (mt_node 88 (mt_leaf 88 (.inl (o_iload 1 1))) (mt_node 89 (mt_leaf 89 (.inr (.inl (134, 2, some 7)))) (mt_leaf 92 (.inr (.inr (r_int (fun _ => true))))))))))
theorem mb_8_0_ok {g : xe_G} : mt_all (mi_ent g mI (mI 8)) (mb_8_0 g) := mt_node_ok (mt_node_ok (mt_node_ok (mt_node_ok (mt_node_ok (mt_leaf_ok (en_o (sm_iload_n dX11_entry_0 rfl))) (mt_leaf_ok (en_o (sm_if_lt dX11_entry_1 (by decide))))) (mt_node_ok (mt_leaf_ok (en_o (sm_iload_n dX11_entry_4 rfl))) (mt_node_ok (mt_leaf_ok (en_o (sm_iconst dX11_entry_5 rfl))) (mt_leaf_ok (en_o (sm_icmp_le dX11_entry_6 (by decide))))))) (mt_node_ok (mt_node_ok (mt_leaf_ok (en_o (sm_aload_n dX11_entry_19 rfl))) (mt_leaf_ok (en_o (sm_get (T := TX11) (by decide) rfl bi_X11 (by decide) bg_801 dX11_entry_20)))) (mt_node_ok (mt_leaf_ok (en_o (sm_ifnull dX11_entry_23 (by decide)))) (mt_node_ok (mt_leaf_ok (en_o (sm_iload_n dX11_entry_26 rfl))) (mt_leaf_ok (en_o (sm_if_lt dX11_entry_27 (by decide)))))))) (mt_node_ok (mt_node_ok (mt_node_ok (mt_leaf_ok (en_o (sm_iload_n dX11_entry_30 rfl))) (mt_leaf_ok (en_o (sm_aload_n dX11_entry_31 rfl)))) (mt_node_ok (mt_leaf_ok (en_o (sm_get (T := TX11) (by decide) rfl bi_X11 (by decide) bg_801 dX11_entry_32))) (mt_node_ok (mt_leaf_ok (en_o (sm_get (T := TX3) (by decide) rfl bi_X3 (by decide) bg_826 dX11_entry_35))) (mt_leaf_ok (en_o (sm_get (T := TX7) (by decide) rfl bi_X7 (by decide) bg_870 dX11_entry_38)))))) (mt_node_ok (mt_node_ok (mt_leaf_ok (en_o (sm_icmp_lt dX11_entry_41 (by decide)))) (mt_leaf_ok (en_o (sm_iconst dX11_entry_44 rfl)))) (mt_node_ok (mt_leaf_ok (sr_int dX11_entry_45)) (mt_node_ok (mt_leaf_ok (en_o (sm_iload_n dX11_entry_46 rfl))) (mt_leaf_ok (en_o (sm_if_ne dX11_entry_47 (by decide))))))))) (mt_node_ok (mt_node_ok (mt_node_ok (mt_node_ok (mt_leaf_ok (en_o (sm_aload_n dX11_entry_50 rfl))) (mt_leaf_ok (en_o (sm_get (T := TX11) (by decide) rfl bi_X11 (by decide) bg_801 dX11_entry_51)))) (mt_node_ok (mt_leaf_ok (en_o (sm_get (T := TX3) (by decide) rfl bi_X3 (by decide) bg_826 dX11_entry_54))) (mt_node_ok (mt_leaf_ok (en_o (sm_iload_n dX11_entry_57 rfl))) (mt_leaf_ok ((⟨by decide, bg_23, bg_49, 159, 1, ⟨by decide, by decide, by decide +kernel⟩, bg_871, Or.inr ⟨rfl, bg_50, 7, _, rfl, by decide, rfl, Or.inl ⟨dX11_entry_58, bg_51⟩⟩⟩ : mi_cal _ _ _ (mI 138) _ _)))))) (mt_node_ok (mt_node_ok (mt_leaf_ok (sr_int dX11_entry_61)) (mt_leaf_ok (en_o (sm_iload_n dX11_entry_62 rfl)))) (mt_node_ok (mt_leaf_ok (en_o (sm_iconst dX11_entry_63 rfl))) (mt_node_ok (mt_leaf_ok (en_o (sm_icmp_ne dX11_entry_64 (by decide)))) (mt_leaf_ok (en_o (sm_aload_n dX11_entry_67 rfl))))))) (mt_node_ok (mt_node_ok (mt_node_ok (mt_leaf_ok (en_o (sm_get (T := TX11) (by decide) rfl bi_X11 (by decide) bg_801 dX11_entry_68))) (mt_leaf_ok (en_o (sm_get (T := TX3) (by decide) rfl bi_X3 (by decide) bg_826 dX11_entry_71)))) (mt_node_ok (mt_leaf_ok (en_o (sm_iload_n dX11_entry_74 rfl))) (mt_node_ok (mt_leaf_ok ((⟨by decide, bg_23, bg_206, 162, 1, ⟨by decide, by decide, by decide +kernel⟩, bg_872, Or.inr ⟨rfl, bg_207, 7, _, rfl, by decide, rfl, Or.inl ⟨dX11_entry_75, bg_208⟩⟩⟩ : mi_cal _ _ _ (mI 117) _ _))) (mt_leaf_ok (en_o (sm_goto dX11_entry_78 (by decide))))))) (mt_node_ok (mt_node_ok (mt_leaf_ok (en_o (sm_aload_n dX11_entry_81 rfl))) (mt_node_ok (mt_leaf_ok (en_o (sm_get (T := TX11) (by decide) rfl bi_X11 (by decide) bg_801 dX11_entry_82))) (mt_leaf_ok (en_o (sm_get (T := TX3) (by decide) rfl bi_X3 (by decide) bg_826 dX11_entry_85))))) (mt_node_ok (mt_leaf_ok (en_o (sm_iload_n dX11_entry_88 rfl))) (mt_node_ok (mt_leaf_ok ((⟨by decide, bg_23, bg_549, 165, 1, ⟨by decide, by decide, by decide +kernel⟩, bg_873, Or.inr ⟨rfl, bg_576, 7, _, rfl, by decide, rfl, Or.inl ⟨dX11_entry_89, bg_577⟩⟩⟩ : mi_cal _ _ _ (mI 134) _ _))) (mt_leaf_ok (sr_int dX11_entry_92)))))))
def mb_8 (g : xe_G) : Nat × mi_B := (3, mb_8_0 g, mk_node 44 (mk_leaf 44 []) (mk_leaf 92 []))
theorem mb_8_ok {g : xe_G} : mi_meth g mI (mI 8) (mb_8 g) := ⟨rfl, by decide, mb_8_0_ok⟩
theorem dX11_feed_0 : decode cX11_feed 0 = .ok (.aload_n 0, 1) := by decide +kernel
theorem dX11_feed_1 : decode cX11_feed 1 = .ok (.getfield 23, 3) := by decide +kernel
theorem dX11_feed_4 : decode cX11_feed 4 = .ok (.ldc 26, 2) := by decide +kernel
theorem dX11_feed_6 : decode cX11_feed 6 = .ok (.if_icmp .le 13, 3) := by decide +kernel
theorem dX11_feed_19 : decode cX11_feed 19 = .ok (.aload_n 0, 1) := by decide +kernel
theorem dX11_feed_20 : decode cX11_feed 20 = .ok (.iload_n 1, 1) := by decide +kernel
theorem dX11_feed_21 : decode cX11_feed 21 = .ok (.invokevirtual 34, 3) := by decide +kernel
theorem dX11_feed_24 : decode cX11_feed 24 = .ok (.aload_n 0, 1) := by decide +kernel
theorem dX11_feed_25 : decode cX11_feed 25 = .ok (.iload_n 2, 1) := by decide +kernel
theorem dX11_feed_26 : decode cX11_feed 26 = .ok (.invokevirtual 34, 3) := by decide +kernel
theorem dX11_feed_29 : decode cX11_feed 29 = .ok (.aload_n 0, 1) := by decide +kernel
theorem dX11_feed_30 : decode cX11_feed 30 = .ok (.iload_n 3, 1) := by decide +kernel
theorem dX11_feed_31 : decode cX11_feed 31 = .ok (.invokevirtual 34, 3) := by decide +kernel
theorem dX11_feed_34 : decode cX11_feed 34 = .ok (.aload_n 0, 1) := by decide +kernel
theorem dX11_feed_35 : decode cX11_feed 35 = .ok (.iload 4, 2) := by decide +kernel
theorem dX11_feed_37 : decode cX11_feed 37 = .ok (.invokevirtual 34, 3) := by decide +kernel
theorem dX11_feed_40 : decode cX11_feed 40 = .ok (.aload_n 0, 1) := by decide +kernel
theorem dX11_feed_41 : decode cX11_feed 41 = .ok (.iload 5, 2) := by decide +kernel
theorem dX11_feed_43 : decode cX11_feed 43 = .ok (.invokevirtual 34, 3) := by decide +kernel
theorem dX11_feed_46 : decode cX11_feed 46 = .ok (.aload_n 0, 1) := by decide +kernel
theorem dX11_feed_47 : decode cX11_feed 47 = .ok (.getfield 23, 3) := by decide +kernel
theorem dX11_feed_50 : decode cX11_feed 50 = .ok (.ireturn, 1) := by decide +kernel
def mb_9_0 (g : xe_G) : Nat → Option mi_N := mt_node 29 (mt_node 19 (mt_node 1 (mt_node 0 (mt_leaf 0 (.inl (o_aload 0 1))) (mt_leaf 1 (.inl (o_get 11 1)))) (mt_node 4 (mt_leaf 4 (.inl (o_push (.int 65520) 2))) (mt_node 6 (mt_leaf 6 (.inl (o_if2 (fun x y => decide (x ≤ y)) 19))) (mt_leaf 19 (.inl (o_aload 0 1)))))) (mt_node 24 (mt_node 20 (mt_leaf 20 (.inl (o_iload 1 1))) (mt_node 21 (mt_leaf 21 (.inr (.inl (20, 2, some 11)))) (mt_leaf 24 (.inl (o_aload 0 1))))) (mt_node 25 (mt_leaf 25 (.inl (o_iload 2 1))) (mt_node 26 (mt_leaf 26 (.inr (.inl (20, 2, some 11)))) (mt_leaf 29 (.inl (o_aload 0 1))))))) (mt_node 37 (mt_node 31 (mt_node 30 (mt_leaf 30 (.inl (o_iload 3 1))) (mt_leaf 31 (.inr (.inl (20, 2, some 11))))) (mt_node 34 (mt_leaf 34 (.inl (o_aload 0 1))) (mt_node 35 (mt_leaf 35 (.inl (o_iload 4 2))) (mt_leaf 37 (.inr (.inl (20, 2, some 11))))))) (mt_node 43 (mt_node 40 (mt_leaf 40 (.inl (o_aload 0 1))) (mt_node 41 (mt_leaf 41 (.inl (o_iload 5 2))) (mt_leaf 43 (.inr (.inl (20, 2, some 11)))))) (mt_node 46 (mt_leaf 46 (.inl (o_aload 0 1))) (mt_node 47 (mt_leaf 47 (.inl (o_get 11 1))) (mt_leaf 50 (.inr (.inr (r_int (fun _ => true)))))))))
theorem mb_9_0_ok {g : xe_G} : mt_all (mi_ent g mI (mI 9)) (mb_9_0 g) := mt_node_ok (mt_node_ok (mt_node_ok (mt_node_ok (mt_leaf_ok (en_o (sm_aload_n dX11_feed_0 rfl))) (mt_leaf_ok (en_o (sm_get (T := TX11) (by decide) rfl bi_X11 (by decide) bg_766 dX11_feed_1)))) (mt_node_ok (mt_leaf_ok (en_o (sm_ldc bg_767 dX11_feed_4))) (mt_node_ok (mt_leaf_ok (en_o (sm_icmp_le dX11_feed_6 (by decide)))) (mt_leaf_ok (en_o (sm_aload_n dX11_feed_19 rfl)))))) (mt_node_ok (mt_node_ok (mt_leaf_ok (en_o (sm_iload_n dX11_feed_20 rfl))) (mt_node_ok (mt_leaf_ok ((⟨by decide, bg_774, bg_771, 34, 1, ⟨by decide, by decide, by decide +kernel⟩, bg_770, Or.inr ⟨rfl, bg_772, 11, _, rfl, by decide, rfl, Or.inl ⟨dX11_feed_21, bg_773⟩⟩⟩ : mi_cal _ _ _ (mI 20) _ _))) (mt_leaf_ok (en_o (sm_aload_n dX11_feed_24 rfl))))) (mt_node_ok (mt_leaf_ok (en_o (sm_iload_n dX11_feed_25 rfl))) (mt_node_ok (mt_leaf_ok ((⟨by decide, bg_774, bg_771, 34, 1, ⟨by decide, by decide, by decide +kernel⟩, bg_770, Or.inr ⟨rfl, bg_772, 11, _, rfl, by decide, rfl, Or.inl ⟨dX11_feed_26, bg_773⟩⟩⟩ : mi_cal _ _ _ (mI 20) _ _))) (mt_leaf_ok (en_o (sm_aload_n dX11_feed_29 rfl))))))) (mt_node_ok (mt_node_ok (mt_node_ok (mt_leaf_ok (en_o (sm_iload_n dX11_feed_30 rfl))) (mt_leaf_ok ((⟨by decide, bg_774, bg_771, 34, 1, ⟨by decide, by decide, by decide +kernel⟩, bg_770, Or.inr ⟨rfl, bg_772, 11, _, rfl, by decide, rfl, Or.inl ⟨dX11_feed_31, bg_773⟩⟩⟩ : mi_cal _ _ _ (mI 20) _ _)))) (mt_node_ok (mt_leaf_ok (en_o (sm_aload_n dX11_feed_34 rfl))) (mt_node_ok (mt_leaf_ok (en_o (sm_iload dX11_feed_35))) (mt_leaf_ok ((⟨by decide, bg_774, bg_771, 34, 1, ⟨by decide, by decide, by decide +kernel⟩, bg_770, Or.inr ⟨rfl, bg_772, 11, _, rfl, by decide, rfl, Or.inl ⟨dX11_feed_37, bg_773⟩⟩⟩ : mi_cal _ _ _ (mI 20) _ _)))))) (mt_node_ok (mt_node_ok (mt_leaf_ok (en_o (sm_aload_n dX11_feed_40 rfl))) (mt_node_ok (mt_leaf_ok (en_o (sm_iload dX11_feed_41))) (mt_leaf_ok ((⟨by decide, bg_774, bg_771, 34, 1, ⟨by decide, by decide, by decide +kernel⟩, bg_770, Or.inr ⟨rfl, bg_772, 11, _, rfl, by decide, rfl, Or.inl ⟨dX11_feed_43, bg_773⟩⟩⟩ : mi_cal _ _ _ (mI 20) _ _))))) (mt_node_ok (mt_leaf_ok (en_o (sm_aload_n dX11_feed_46 rfl))) (mt_node_ok (mt_leaf_ok (en_o (sm_get (T := TX11) (by decide) rfl bi_X11 (by decide) bg_766 dX11_feed_47))) (mt_leaf_ok (sr_int dX11_feed_50))))))
def mb_9 (g : xe_G) : Nat × mi_B := (6, mb_9_0 g, fun _ => none)
theorem mb_9_ok {g : xe_G} : mi_meth g mI (mI 9) (mb_9 g) := ⟨rfl, by decide, mb_9_0_ok⟩
theorem dX11_find_0 : decode cX11_find 0 = .ok (.aload_n 0, 1) := by decide +kernel
theorem dX11_find_1 : decode cX11_find 1 = .ok (.getfield 69, 3) := by decide +kernel
theorem dX11_find_4 : decode cX11_find 4 = .ok (.ifnull 33, 3) := by decide +kernel
theorem dX11_find_7 : decode cX11_find 7 = .ok (.aload_n 0, 1) := by decide +kernel
theorem dX11_find_8 : decode cX11_find 8 = .ok (.getfield 69, 3) := by decide +kernel
theorem dX11_find_11 : decode cX11_find 11 = .ok (.getfield 103, 3) := by decide +kernel
theorem dX11_find_14 : decode cX11_find 14 = .ok (.iload_n 2, 1) := by decide +kernel
theorem dX11_find_15 : decode cX11_find 15 = .ok (.invokevirtual 159, 3) := by decide +kernel
theorem dX11_find_18 : decode cX11_find 18 = .ok (.iconst 1, 1) := by decide +kernel
theorem dX11_find_19 : decode cX11_find 19 = .ok (.if_icmp .ne 18, 3) := by decide +kernel
theorem dX11_find_22 : decode cX11_find 22 = .ok (.aload_n 0, 1) := by decide +kernel
theorem dX11_find_23 : decode cX11_find 23 = .ok (.getfield 69, 3) := by decide +kernel
theorem dX11_find_26 : decode cX11_find 26 = .ok (.getfield 103, 3) := by decide +kernel
theorem dX11_find_29 : decode cX11_find 29 = .ok (.iload_n 3, 1) := by decide +kernel
theorem dX11_find_30 : decode cX11_find 30 = .ok (.invokevirtual 159, 3) := by decide +kernel
theorem dX11_find_33 : decode cX11_find 33 = .ok (.iconst 1, 1) := by decide +kernel
theorem dX11_find_34 : decode cX11_find 34 = .ok (.if_icmp .eq 5, 3) := by decide +kernel
theorem dX11_find_37 : decode cX11_find 37 = .ok (.iconst (-1), 1) := by decide +kernel
theorem dX11_find_38 : decode cX11_find 38 = .ok (.ireturn, 1) := by decide +kernel
theorem dX11_find_39 : decode cX11_find 39 = .ok (.iload_n 1, 1) := by decide +kernel
theorem dX11_find_40 : decode cX11_find 40 = .ok (.ifCond .eq 13, 3) := by decide +kernel
theorem dX11_find_43 : decode cX11_find 43 = .ok (.aload_n 0, 1) := by decide +kernel
theorem dX11_find_44 : decode cX11_find 44 = .ok (.getfield 69, 3) := by decide +kernel
theorem dX11_find_47 : decode cX11_find 47 = .ok (.getfield 198, 3) := by decide +kernel
theorem dX11_find_50 : decode cX11_find 50 = .ok (.goto 10, 3) := by decide +kernel
theorem dX11_find_53 : decode cX11_find 53 = .ok (.aload_n 0, 1) := by decide +kernel
theorem dX11_find_54 : decode cX11_find 54 = .ok (.getfield 69, 3) := by decide +kernel
theorem dX11_find_57 : decode cX11_find 57 = .ok (.getfield 202, 3) := by decide +kernel
theorem dX11_find_60 : decode cX11_find 60 = .ok (.astore 4, 2) := by decide +kernel
theorem dX11_find_62 : decode cX11_find 62 = .ok (.aload_n 0, 1) := by decide +kernel
theorem dX11_find_63 : decode cX11_find 63 = .ok (.getfield 69, 3) := by decide +kernel
theorem dX11_find_66 : decode cX11_find 66 = .ok (.getfield 103, 3) := by decide +kernel
theorem dX11_find_69 : decode cX11_find 69 = .ok (.aload 4, 2) := by decide +kernel
theorem dX11_find_71 : decode cX11_find 71 = .ok (.aload 4, 2) := by decide +kernel
theorem dX11_find_73 : decode cX11_find 73 = .ok (.arraylength, 1) := by decide +kernel
theorem dX11_find_74 : decode cX11_find 74 = .ok (.iload_n 2, 1) := by decide +kernel
theorem dX11_find_75 : decode cX11_find 75 = .ok (.iload_n 3, 1) := by decide +kernel
theorem dX11_find_76 : decode cX11_find 76 = .ok (.invokevirtual 205, 3) := by decide +kernel
theorem dX11_find_79 : decode cX11_find 79 = .ok (.ireturn, 1) := by decide +kernel
def mb_10_0 (g : xe_G) : Nat → Option mi_N := mt_node 38 (mt_node 18 (mt_node 7 (mt_node 1 (mt_node 0 (mt_leaf 0 (.inl (o_aload 0 1))) (mt_leaf 1 (.inl (o_get 11 3)))) (mt_node 4 (mt_leaf 4 (.inl (o_null 7 37))) (mt_leaf 7 (.inl (o_aload 0 1))))) (mt_node 11 (mt_node 8 (mt_leaf 8 (.inl (o_get 11 3))) (mt_leaf 11 (.inl (o_get 3 1)))) (mt_node 14 (mt_leaf 14 (.inl (o_iload 2 1))) (mt_node 15 (mt_leaf 15 (.inr (.inl (138, 2, some 7)))) (mt_leaf 18 (.inl (o_push (.int 1) 1))))))) (mt_node 29 (mt_node 22 (mt_node 19 (mt_leaf 19 (.inl (o_if2 (fun x y => decide (¬ x = y)) 37))) (mt_leaf 22 (.inl (o_aload 0 1)))) (mt_node 23 (mt_leaf 23 (.inl (o_get 11 3))) (mt_node 26 (mt_leaf 26 (.inl (o_get 3 1))) (mt_leaf 29 (.inl (o_iload 3 1)))))) (mt_node 33 (mt_node 30 (mt_leaf 30 (.inr (.inl (138, 2, some 7)))) (mt_leaf 33 (.inl (o_push (.int 1) 1)))) (mt_node 34 (mt_leaf 34 (.inl (o_if2 (fun x y => decide (x = y)) 39))) (mt_node 37 (mt_leaf 37 (.inl (o_push (.int (-1)) 1))) (mt_leaf 38 (.inr (.inr (r_int (fun _ => true)))))))))) (mt_node 60 (mt_node 47 (mt_node 40 (mt_node 39 (mt_leaf 39 (.inl (o_iload 1 1))) (mt_leaf 40 (.inl (o_if (fun x => decide (x = 0)) 53)))) (mt_node 43 (mt_leaf 43 (.inl (o_aload 0 1))) (mt_node 44 (mt_leaf 44 (.inl (o_get 11 3))) (mt_leaf 47 (.inl (o_get 3 7)))))) (mt_node 53 (mt_node 50 (mt_leaf 50 (.inl (o_goto 60))) (mt_leaf 53 (.inl (o_aload 0 1)))) (mt_node 54 (mt_leaf 54 (.inl (o_get 11 3))) (mt_node 57 (mt_leaf 57 (.inl (o_get 3 6))) (mt_leaf 60 (.inl (o_asto 4 2))))))) (mt_node 71 (mt_node 63 (mt_node 62 (mt_leaf 62 (.inl (o_aload 0 1))) (mt_leaf 63 (.inl (o_get 11 3)))) (mt_node 66 (mt_leaf 66 (.inl (o_get 3 1))) (mt_node 69 (mt_leaf 69 (.inl (o_aload 4 2))) (mt_leaf 71 (.inl (o_aload 4 2)))))) (mt_node 74 (mt_node 73 (mt_leaf 73 (.inl (o_alen (.object RX6)))) (mt_leaf 74 (.inl (o_iload 2 1)))) (mt_node 75 (mt_leaf 75 (.inl (o_iload 3 1))) (mt_node 76 (mt_leaf 76 (.inr (.inl (132, 5, some 7)))) (mt_leaf 79 (.inr (.inr (r_int (fun _ => true))))))))))
theorem mb_10_0_ok {g : xe_G} : mt_all (mi_ent g mI (mI 10)) (mb_10_0 g) := mt_node_ok (mt_node_ok (mt_node_ok (mt_node_ok (mt_node_ok (mt_leaf_ok (en_o (sm_aload_n dX11_find_0 rfl))) (mt_leaf_ok (en_o (sm_get (T := TX11) (by decide) rfl bi_X11 (by decide) bg_801 dX11_find_1)))) (mt_node_ok (mt_leaf_ok (en_o (sm_ifnull dX11_find_4 (by decide)))) (mt_leaf_ok (en_o (sm_aload_n dX11_find_7 rfl))))) (mt_node_ok (mt_node_ok (mt_leaf_ok (en_o (sm_get (T := TX11) (by decide) rfl bi_X11 (by decide) bg_801 dX11_find_8))) (mt_leaf_ok (en_o (sm_get (T := TX3) (by decide) rfl bi_X3 (by decide) bg_826 dX11_find_11)))) (mt_node_ok (mt_leaf_ok (en_o (sm_iload_n dX11_find_14 rfl))) (mt_node_ok (mt_leaf_ok ((⟨by decide, bg_23, bg_49, 159, 1, ⟨by decide, by decide, by decide +kernel⟩, bg_871, Or.inr ⟨rfl, bg_50, 7, _, rfl, by decide, rfl, Or.inl ⟨dX11_find_15, bg_51⟩⟩⟩ : mi_cal _ _ _ (mI 138) _ _))) (mt_leaf_ok (en_o (sm_iconst dX11_find_18 rfl))))))) (mt_node_ok (mt_node_ok (mt_node_ok (mt_leaf_ok (en_o (sm_icmp_ne dX11_find_19 (by decide)))) (mt_leaf_ok (en_o (sm_aload_n dX11_find_22 rfl)))) (mt_node_ok (mt_leaf_ok (en_o (sm_get (T := TX11) (by decide) rfl bi_X11 (by decide) bg_801 dX11_find_23))) (mt_node_ok (mt_leaf_ok (en_o (sm_get (T := TX3) (by decide) rfl bi_X3 (by decide) bg_826 dX11_find_26))) (mt_leaf_ok (en_o (sm_iload_n dX11_find_29 rfl)))))) (mt_node_ok (mt_node_ok (mt_leaf_ok ((⟨by decide, bg_23, bg_49, 159, 1, ⟨by decide, by decide, by decide +kernel⟩, bg_871, Or.inr ⟨rfl, bg_50, 7, _, rfl, by decide, rfl, Or.inl ⟨dX11_find_30, bg_51⟩⟩⟩ : mi_cal _ _ _ (mI 138) _ _))) (mt_leaf_ok (en_o (sm_iconst dX11_find_33 rfl)))) (mt_node_ok (mt_leaf_ok (en_o (sm_icmp_eq dX11_find_34 (by decide)))) (mt_node_ok (mt_leaf_ok (en_o (sm_iconst dX11_find_37 rfl))) (mt_leaf_ok (sr_int dX11_find_38))))))) (mt_node_ok (mt_node_ok (mt_node_ok (mt_node_ok (mt_leaf_ok (en_o (sm_iload_n dX11_find_39 rfl))) (mt_leaf_ok (en_o (sm_if_eq dX11_find_40 (by decide))))) (mt_node_ok (mt_leaf_ok (en_o (sm_aload_n dX11_find_43 rfl))) (mt_node_ok (mt_leaf_ok (en_o (sm_get (T := TX11) (by decide) rfl bi_X11 (by decide) bg_801 dX11_find_44))) (mt_leaf_ok (en_o (sm_get (T := TX3) (by decide) rfl bi_X3 (by decide) bg_891 dX11_find_47)))))) (mt_node_ok (mt_node_ok (mt_leaf_ok (en_o (sm_goto dX11_find_50 (by decide)))) (mt_leaf_ok (en_o (sm_aload_n dX11_find_53 rfl)))) (mt_node_ok (mt_leaf_ok (en_o (sm_get (T := TX11) (by decide) rfl bi_X11 (by decide) bg_801 dX11_find_54))) (mt_node_ok (mt_leaf_ok (en_o (sm_get (T := TX3) (by decide) rfl bi_X3 (by decide) bg_892 dX11_find_57))) (mt_leaf_ok (en_s (sm_astore dX11_find_60 (by decide)))))))) (mt_node_ok (mt_node_ok (mt_node_ok (mt_leaf_ok (en_o (sm_aload_n dX11_find_62 rfl))) (mt_leaf_ok (en_o (sm_get (T := TX11) (by decide) rfl bi_X11 (by decide) bg_801 dX11_find_63)))) (mt_node_ok (mt_leaf_ok (en_o (sm_get (T := TX3) (by decide) rfl bi_X3 (by decide) bg_826 dX11_find_66))) (mt_node_ok (mt_leaf_ok (en_o (sm_aload dX11_find_69))) (mt_leaf_ok (en_o (sm_aload dX11_find_71)))))) (mt_node_ok (mt_node_ok (mt_leaf_ok (en_o (sm_alen dX11_find_73))) (mt_leaf_ok (en_o (sm_iload_n dX11_find_74 rfl)))) (mt_node_ok (mt_leaf_ok (en_o (sm_iload_n dX11_find_75 rfl))) (mt_node_ok (mt_leaf_ok ((⟨by decide, bg_23, bg_240, 205, 4, ⟨by decide, by decide, by decide +kernel⟩, bg_893, Or.inr ⟨rfl, bg_241, 7, _, rfl, by decide, rfl, Or.inl ⟨dX11_find_76, bg_242⟩⟩⟩ : mi_cal _ _ _ (mI 132) _ _))) (mt_leaf_ok (sr_int dX11_find_79)))))))
def mb_10 (g : xe_G) : Nat × mi_B := (5, mb_10_0 g, mk_node 37 (mk_leaf 37 []) (mk_leaf 60 [0, 2, 3]))
theorem mb_10_ok {g : xe_G} : mi_meth g mI (mI 10) (mb_10 g) := ⟨rfl, by decide, mb_10_0_ok⟩
theorem dX11_holds_0 : decode cX11_holds 0 = .ok (.aload_n 0, 1) := by decide +kernel
theorem dX11_holds_1 : decode cX11_holds 1 = .ok (.getfield 103, 3) := by decide +kernel
theorem dX11_holds_4 : decode cX11_holds 4 = .ok (.invokevirtual 107, 3) := by decide +kernel
theorem dX11_holds_7 : decode cX11_holds 7 = .ok (.new 112, 3) := by decide +kernel
theorem dX11_holds_10 : decode cX11_holds 10 = .ok (.dup, 1) := by decide +kernel
theorem dX11_holds_11 : decode cX11_holds 11 = .ok (.aload_n 0, 1) := by decide +kernel
theorem dX11_holds_12 : decode cX11_holds 12 = .ok (.aload_n 1, 1) := by decide +kernel
theorem dX11_holds_13 : decode cX11_holds 13 = .ok (.invokespecial 114, 3) := by decide +kernel
theorem dX11_holds_16 : decode cX11_holds 16 = .ok (.astore_n 2, 1) := by decide +kernel
theorem dX11_holds_17 : decode cX11_holds 17 = .ok (.new 115, 3) := by decide +kernel
theorem dX11_holds_20 : decode cX11_holds 20 = .ok (.dup, 1) := by decide +kernel
theorem dX11_holds_21 : decode cX11_holds 21 = .ok (.aload_n 0, 1) := by decide +kernel
theorem dX11_holds_22 : decode cX11_holds 22 = .ok (.aload_n 1, 1) := by decide +kernel
theorem dX11_holds_23 : decode cX11_holds 23 = .ok (.invokespecial 117, 3) := by decide +kernel
theorem dX11_holds_26 : decode cX11_holds 26 = .ok (.astore_n 3, 1) := by decide +kernel
theorem dX11_holds_27 : decode cX11_holds 27 = .ok (.new 118, 3) := by decide +kernel
theorem dX11_holds_30 : decode cX11_holds 30 = .ok (.dup, 1) := by decide +kernel
theorem dX11_holds_31 : decode cX11_holds 31 = .ok (.aload_n 0, 1) := by decide +kernel
theorem dX11_holds_32 : decode cX11_holds 32 = .ok (.aload_n 1, 1) := by decide +kernel
theorem dX11_holds_33 : decode cX11_holds 33 = .ok (.aload_n 3, 1) := by decide +kernel
theorem dX11_holds_34 : decode cX11_holds 34 = .ok (.invokespecial 120, 3) := by decide +kernel
theorem dX11_holds_37 : decode cX11_holds 37 = .ok (.astore 4, 2) := by decide +kernel
theorem dX11_holds_39 : decode cX11_holds 39 = .ok (.aload_n 2, 1) := by decide +kernel
theorem dX11_holds_40 : decode cX11_holds 40 = .ok (.invokevirtual 123, 3) := by decide +kernel
theorem dX11_holds_43 : decode cX11_holds 43 = .ok (.ifCond .eq 57, 3) := by decide +kernel
theorem dX11_holds_46 : decode cX11_holds 46 = .ok (.aload 4, 2) := by decide +kernel
theorem dX11_holds_48 : decode cX11_holds 48 = .ok (.invokevirtual 126, 3) := by decide +kernel
theorem dX11_holds_51 : decode cX11_holds 51 = .ok (.ifCond .eq 49, 3) := by decide +kernel
theorem dX11_holds_54 : decode cX11_holds 54 = .ok (.aload 4, 2) := by decide +kernel
theorem dX11_holds_56 : decode cX11_holds 56 = .ok (.invokevirtual 129, 3) := by decide +kernel
theorem dX11_holds_59 : decode cX11_holds 59 = .ok (.ifCond .eq 41, 3) := by decide +kernel
theorem dX11_holds_62 : decode cX11_holds 62 = .ok (.aload 4, 2) := by decide +kernel
theorem dX11_holds_64 : decode cX11_holds 64 = .ok (.invokevirtual 132, 3) := by decide +kernel
theorem dX11_holds_67 : decode cX11_holds 67 = .ok (.ifCond .eq 33, 3) := by decide +kernel
theorem dX11_holds_70 : decode cX11_holds 70 = .ok (.aload 4, 2) := by decide +kernel
theorem dX11_holds_72 : decode cX11_holds 72 = .ok (.invokevirtual 135, 3) := by decide +kernel
theorem dX11_holds_75 : decode cX11_holds 75 = .ok (.ifCond .eq 25, 3) := by decide +kernel
theorem dX11_holds_78 : decode cX11_holds 78 = .ok (.aload_n 3, 1) := by decide +kernel
theorem dX11_holds_79 : decode cX11_holds 79 = .ok (.invokevirtual 138, 3) := by decide +kernel
theorem dX11_holds_82 : decode cX11_holds 82 = .ok (.ifCond .eq 18, 3) := by decide +kernel
theorem dX11_holds_85 : decode cX11_holds 85 = .ok (.aload_n 2, 1) := by decide +kernel
theorem dX11_holds_86 : decode cX11_holds 86 = .ok (.aload_n 0, 1) := by decide +kernel
theorem dX11_holds_87 : decode cX11_holds 87 = .ok (.getfield 141, 3) := by decide +kernel
theorem dX11_holds_90 : decode cX11_holds 90 = .ok (.invokevirtual 144, 3) := by decide +kernel
theorem dX11_holds_93 : decode cX11_holds 93 = .ok (.ifCond .eq 7, 3) := by decide +kernel
theorem dX11_holds_96 : decode cX11_holds 96 = .ok (.iconst 1, 1) := by decide +kernel
theorem dX11_holds_97 : decode cX11_holds 97 = .ok (.goto 4, 3) := by decide +kernel
theorem dX11_holds_100 : decode cX11_holds 100 = .ok (.iconst 0, 1) := by decide +kernel
theorem dX11_holds_101 : decode cX11_holds 101 = .ok (.ireturn, 1) := by decide +kernel
def mb_11_0 (g : xe_G) : Nat → Option mi_N := mt_node 40 (mt_node 21 (mt_node 11 (mt_node 4 (mt_node 0 (mt_leaf 0 (.inl (o_aload 0 1))) (mt_node 1 (mt_leaf 1 (.inl (o_get 3 1))) (mt_leaf 4 (.inr (.inl (114, 1, some 7)))))) (mt_node 7 (mt_leaf 7 (.inl (o_new 8 3 [.null, .int 0, .null]))) (mt_node 10 (mt_leaf 10 (.inl (o_dup))) (mt_leaf 11 (.inl (o_aload 0 1)))))) (mt_node 16 (mt_node 12 (mt_leaf 12 (.inl (o_aload 1 1))) (mt_node 13 (mt_leaf 13 (.inr (.inl (143, 3, some 8)))) (mt_leaf 16 (.inl (o_asto 2 1))))) (mt_node 17 (mt_leaf 17 (.inl (o_new 0 5 [.null, .null, .null, .null, .int 0]))) (mt_node 20 (mt_leaf 20 (.inl (o_dup))) (mt_leaf 21 (.inl (o_aload 0 1))))))) (mt_node 31 (mt_node 26 (mt_node 22 (mt_leaf 22 (.inl (o_aload 1 1))) (mt_node 23 (mt_leaf 23 (.inr (.inl (21, 3, some 0)))) (mt_leaf 26 (.inl (o_asto 3 1))))) (mt_node 27 (mt_leaf 27 (.inl (o_new 2 5 [.null, .null, .null, .null, .null]))) (mt_node 30 (mt_leaf 30 (.inl (o_dup))) (mt_leaf 31 (.inl (o_aload 0 1)))))) (mt_node 34 (mt_node 32 (mt_leaf 32 (.inl (o_aload 1 1))) (mt_node 33 (mt_leaf 33 (.inl (o_aload 3 1))) (mt_leaf 34 (.inr (.inl (51, 4, some 2)))))) (mt_node 37 (mt_leaf 37 (.inl (o_asto 4 2))) (mt_node 39 (mt_leaf 39 (.inl (o_aload 2 1))) (mt_leaf 40 (.inr (.inl (146, 1, some 8))))))))) (mt_node 72 (mt_node 56 (mt_node 48 (mt_node 43 (mt_leaf 43 (.inl (o_if (fun x => decide (x = 0)) 100))) (mt_node 46 (mt_leaf 46 (.inl (o_aload 4 2))) (mt_leaf 48 (.inr (.inl (60, 1, some 2)))))) (mt_node 51 (mt_leaf 51 (.inl (o_if (fun x => decide (x = 0)) 100))) (mt_node 54 (mt_leaf 54 (.inl (o_aload 4 2))) (mt_leaf 56 (.inr (.inl (62, 1, some 2))))))) (mt_node 64 (mt_node 59 (mt_leaf 59 (.inl (o_if (fun x => decide (x = 0)) 100))) (mt_node 62 (mt_leaf 62 (.inl (o_aload 4 2))) (mt_leaf 64 (.inr (.inl (57, 1, some 2)))))) (mt_node 67 (mt_leaf 67 (.inl (o_if (fun x => decide (x = 0)) 100))) (mt_node 70 (mt_leaf 70 (.inl (o_aload 4 2))) (mt_leaf 72 (.inr (.inl (67, 1, some 2)))))))) (mt_node 86 (mt_node 79 (mt_node 75 (mt_leaf 75 (.inl (o_if (fun x => decide (x = 0)) 100))) (mt_node 78 (mt_leaf 78 (.inl (o_aload 3 1))) (mt_leaf 79 (.inr (.inl (38, 1, some 0)))))) (mt_node 82 (mt_leaf 82 (.inl (o_if (fun x => decide (x = 0)) 100))) (mt_node 85 (mt_leaf 85 (.inl (o_aload 2 1))) (mt_leaf 86 (.inl (o_aload 0 1)))))) (mt_node 93 (mt_node 87 (mt_leaf 87 (.inl (o_get 3 11))) (mt_node 90 (mt_leaf 90 (.inr (.inl (144, 2, some 8)))) (mt_leaf 93 (.inl (o_if (fun x => decide (x = 0)) 100))))) (mt_node 96 (mt_leaf 96 (.inl (o_push (.int 1) 1))) (mt_node 97 (mt_leaf 97 (.inl (o_goto 101))) (mt_leaf 100 (.inl (o_push (.int 0) 1))))))))
theorem mb_11_0_ok {g : xe_G} : mt_all (mi_ent g mI (mI 11)) (mb_11_0 g) := mt_node_ok (mt_node_ok (mt_node_ok (mt_node_ok (mt_node_ok (mt_leaf_ok (en_o (sm_aload_n dX11_holds_0 rfl))) (mt_node_ok (mt_leaf_ok (en_o (sm_get (T := TX3) (by decide) rfl bi_X3 (by decide) bg_826 dX11_holds_1))) (mt_leaf_ok ((⟨by decide, bg_23, bg_582, 107, 0, ⟨by decide, by decide, by decide +kernel⟩, bg_827, Or.inr ⟨rfl, bg_828, 7, _, rfl, by decide, rfl, Or.inl ⟨dX11_holds_4, bg_829⟩⟩⟩ : mi_cal _ _ _ (mI 114) _ _))))) (mt_node_ok (mt_leaf_ok (en_s (sm_new (T := TX8) (by decide) rfl bi_X8 tyX8_ok bg_830 bg_831 bg_611 (by decide) rfl dX11_holds_7))) (mt_node_ok (mt_leaf_ok (en_o (sm_dup dX11_holds_10))) (mt_leaf_ok (en_o (sm_aload_n dX11_holds_11 rfl)))))) (mt_node_ok (mt_node_ok (mt_leaf_ok (en_o (sm_aload_n dX11_holds_12 rfl))) (mt_node_ok (mt_leaf_ok ((⟨by decide, bg_611, bg_598, 114, 2, ⟨by decide, by decide, by decide +kernel⟩, bg_832, Or.inr ⟨rfl, bg_833, 8, _, rfl, by decide, rfl, Or.inr ⟨dX11_holds_13, rfl, rfl⟩⟩⟩ : mi_cal _ _ _ (mI 143) _ _))) (mt_leaf_ok (en_s (sm_astore_n dX11_holds_16 rfl (by decide)))))) (mt_node_ok (mt_leaf_ok (en_s (sm_new (T := TX0) (by decide) rfl bi_X0 tyX0_ok bg_834 bg_835 bg_28 (by decide) rfl dX11_holds_17))) (mt_node_ok (mt_leaf_ok (en_o (sm_dup dX11_holds_20))) (mt_leaf_ok (en_o (sm_aload_n dX11_holds_21 rfl))))))) (mt_node_ok (mt_node_ok (mt_node_ok (mt_leaf_ok (en_o (sm_aload_n dX11_holds_22 rfl))) (mt_node_ok (mt_leaf_ok ((⟨by decide, bg_28, bg_0, 117, 2, ⟨by decide, by decide, by decide +kernel⟩, bg_836, Or.inr ⟨rfl, bg_837, 0, _, rfl, by decide, rfl, Or.inr ⟨dX11_holds_23, rfl, rfl⟩⟩⟩ : mi_cal _ _ _ (mI 21) _ _))) (mt_leaf_ok (en_s (sm_astore_n dX11_holds_26 rfl (by decide)))))) (mt_node_ok (mt_leaf_ok (en_s (sm_new (T := TX2) (by decide) rfl bi_X2 tyX2_ok bg_838 bg_839 bg_198 (by decide) rfl dX11_holds_27))) (mt_node_ok (mt_leaf_ok (en_o (sm_dup dX11_holds_30))) (mt_leaf_ok (en_o (sm_aload_n dX11_holds_31 rfl)))))) (mt_node_ok (mt_node_ok (mt_leaf_ok (en_o (sm_aload_n dX11_holds_32 rfl))) (mt_node_ok (mt_leaf_ok (en_o (sm_aload_n dX11_holds_33 rfl))) (mt_leaf_ok ((⟨by decide, bg_198, bg_183, 120, 3, ⟨by decide, by decide, by decide +kernel⟩, bg_840, Or.inr ⟨rfl, bg_841, 2, _, rfl, by decide, rfl, Or.inr ⟨dX11_holds_34, rfl, rfl⟩⟩⟩ : mi_cal _ _ _ (mI 51) _ _))))) (mt_node_ok (mt_leaf_ok (en_s (sm_astore dX11_holds_37 (by decide)))) (mt_node_ok (mt_leaf_ok (en_o (sm_aload_n dX11_holds_39 rfl))) (mt_leaf_ok ((⟨by decide, bg_611, bg_605, 123, 0, ⟨by decide, by decide, by decide +kernel⟩, bg_842, Or.inr ⟨rfl, bg_843, 8, _, rfl, by decide, rfl, Or.inl ⟨dX11_holds_40, bg_844⟩⟩⟩ : mi_cal _ _ _ (mI 146) _ _)))))))) (mt_node_ok (mt_node_ok (mt_node_ok (mt_node_ok (mt_leaf_ok (en_o (sm_if_eq dX11_holds_43 (by decide)))) (mt_node_ok (mt_leaf_ok (en_o (sm_aload dX11_holds_46))) (mt_leaf_ok ((⟨by decide, bg_198, bg_192, 126, 0, ⟨by decide, by decide, by decide +kernel⟩, bg_845, Or.inr ⟨rfl, bg_846, 2, _, rfl, by decide, rfl, Or.inl ⟨dX11_holds_48, bg_847⟩⟩⟩ : mi_cal _ _ _ (mI 60) _ _))))) (mt_node_ok (mt_leaf_ok (en_o (sm_if_eq dX11_holds_51 (by decide)))) (mt_node_ok (mt_leaf_ok (en_o (sm_aload dX11_holds_54))) (mt_leaf_ok ((⟨by decide, bg_198, bg_214, 129, 0, ⟨by decide, by decide, by decide +kernel⟩, bg_848, Or.inr ⟨rfl, bg_849, 2, _, rfl, by decide, rfl, Or.inl ⟨dX11_holds_56, bg_850⟩⟩⟩ : mi_cal _ _ _ (mI 62) _ _)))))) (mt_node_ok (mt_node_ok (mt_leaf_ok (en_o (sm_if_eq dX11_holds_59 (by decide)))) (mt_node_ok (mt_leaf_ok (en_o (sm_aload dX11_holds_62))) (mt_leaf_ok ((⟨by decide, bg_198, bg_220, 132, 0, ⟨by decide, by decide, by decide +kernel⟩, bg_851, Or.inr ⟨rfl, bg_852, 2, _, rfl, by decide, rfl, Or.inl ⟨dX11_holds_64, bg_853⟩⟩⟩ : mi_cal _ _ _ (mI 57) _ _))))) (mt_node_ok (mt_leaf_ok (en_o (sm_if_eq dX11_holds_67 (by decide)))) (mt_node_ok (mt_leaf_ok (en_o (sm_aload dX11_holds_70))) (mt_leaf_ok ((⟨by decide, bg_198, bg_247, 135, 0, ⟨by decide, by decide, by decide +kernel⟩, bg_854, Or.inr ⟨rfl, bg_855, 2, _, rfl, by decide, rfl, Or.inl ⟨dX11_holds_72, bg_856⟩⟩⟩ : mi_cal _ _ _ (mI 67) _ _))))))) (mt_node_ok (mt_node_ok (mt_node_ok (mt_leaf_ok (en_o (sm_if_eq dX11_holds_75 (by decide)))) (mt_node_ok (mt_leaf_ok (en_o (sm_aload_n dX11_holds_78 rfl))) (mt_leaf_ok ((⟨by decide, bg_28, bg_76, 138, 0, ⟨by decide, by decide, by decide +kernel⟩, bg_857, Or.inr ⟨rfl, bg_858, 0, _, rfl, by decide, rfl, Or.inl ⟨dX11_holds_79, bg_859⟩⟩⟩ : mi_cal _ _ _ (mI 38) _ _))))) (mt_node_ok (mt_leaf_ok (en_o (sm_if_eq dX11_holds_82 (by decide)))) (mt_node_ok (mt_leaf_ok (en_o (sm_aload_n dX11_holds_85 rfl))) (mt_leaf_ok (en_o (sm_aload_n dX11_holds_86 rfl)))))) (mt_node_ok (mt_node_ok (mt_leaf_ok (en_o (sm_get (T := TX3) (by decide) rfl bi_X3 (by decide) bg_860 dX11_holds_87))) (mt_node_ok (mt_leaf_ok ((⟨by decide, bg_611, bg_620, 144, 1, ⟨by decide, by decide, by decide +kernel⟩, bg_861, Or.inr ⟨rfl, bg_862, 8, _, rfl, by decide, rfl, Or.inl ⟨dX11_holds_90, bg_863⟩⟩⟩ : mi_cal _ _ _ (mI 144) _ _))) (mt_leaf_ok (en_o (sm_if_eq dX11_holds_93 (by decide)))))) (mt_node_ok (mt_leaf_ok (en_o (sm_iconst dX11_holds_96 rfl))) (mt_node_ok (mt_leaf_ok (en_o (sm_goto dX11_holds_97 (by decide)))) (mt_leaf_ok (en_o (sm_iconst dX11_holds_100 rfl))))))))
def mb_11_1 (g : xe_G) : Nat → Option mi_N := mt_leaf 101 (.inr (.inr (r_int mi_cz)))
theorem mb_11_1_ok {g : xe_G} : mt_all (mi_ent g mI (mI 11)) (mb_11_1 g) := mt_leaf_ok (sr_nar mi_cz_ok dX11_holds_101)
def mb_11 (g : xe_G) : Nat × mi_B := (5, mt_node 100 (mb_11_0 g) (mb_11_1 g), mk_node 100 (mk_leaf 100 []) (mk_leaf 101 []))
theorem mb_11_ok {g : xe_G} : mi_meth g mI (mI 11) (mb_11 g) := ⟨rfl, by decide, mt_node_ok (mb_11_0_ok) (mb_11_1_ok)⟩
theorem dX11_instruction_0 : decode cX11_instruction 0 = .ok (.iload_n 3, 1) := by decide +kernel
theorem dX11_instruction_1 : decode cX11_instruction 1 = .ok (.ifCond .lt 8, 3) := by decide +kernel
theorem dX11_instruction_4 : decode cX11_instruction 4 = .ok (.iload_n 3, 1) := by decide +kernel
theorem dX11_instruction_5 : decode cX11_instruction 5 = .ok (.iconst 4, 1) := by decide +kernel
theorem dX11_instruction_6 : decode cX11_instruction 6 = .ok (.if_icmp .le 13, 3) := by decide +kernel
theorem dX11_instruction_19 : decode cX11_instruction 19 = .ok (.aload_n 0, 1) := by decide +kernel
theorem dX11_instruction_20 : decode cX11_instruction 20 = .ok (.iload_n 1, 1) := by decide +kernel
theorem dX11_instruction_21 : decode cX11_instruction 21 = .ok (.invokevirtual 211, 3) := by decide +kernel
theorem dX11_instruction_24 : decode cX11_instruction 24 = .ok (.astore 4, 2) := by decide +kernel
theorem dX11_instruction_26 : decode cX11_instruction 26 = .ok (.aload 4, 2) := by decide +kernel
theorem dX11_instruction_28 : decode cX11_instruction 28 = .ok (.ifnull 16, 3) := by decide +kernel
theorem dX11_instruction_31 : decode cX11_instruction 31 = .ok (.iload_n 2, 1) := by decide +kernel
theorem dX11_instruction_32 : decode cX11_instruction 32 = .ok (.ifCond .lt 12, 3) := by decide +kernel
theorem dX11_instruction_35 : decode cX11_instruction 35 = .ok (.iload_n 2, 1) := by decide +kernel
theorem dX11_instruction_36 : decode cX11_instruction 36 = .ok (.aload 4, 2) := by decide +kernel
theorem dX11_instruction_38 : decode cX11_instruction 38 = .ok (.invokevirtual 233, 3) := by decide +kernel
theorem dX11_instruction_41 : decode cX11_instruction 41 = .ok (.if_icmp .lt 7, 3) := by decide +kernel
theorem dX11_instruction_44 : decode cX11_instruction 44 = .ok (.iconst (-1), 1) := by decide +kernel
theorem dX11_instruction_45 : decode cX11_instruction 45 = .ok (.goto 10, 3) := by decide +kernel
theorem dX11_instruction_48 : decode cX11_instruction 48 = .ok (.aload 4, 2) := by decide +kernel
theorem dX11_instruction_50 : decode cX11_instruction 50 = .ok (.iload_n 2, 1) := by decide +kernel
theorem dX11_instruction_51 : decode cX11_instruction 51 = .ok (.iload_n 3, 1) := by decide +kernel
theorem dX11_instruction_52 : decode cX11_instruction 52 = .ok (.invokevirtual 239, 3) := by decide +kernel
theorem dX11_instruction_55 : decode cX11_instruction 55 = .ok (.ireturn, 1) := by decide +kernel
def mb_12_0 (g : xe_G) : Nat → Option mi_N := mt_node 31 (mt_node 19 (mt_node 4 (mt_node 0 (mt_leaf 0 (.inl (o_iload 3 1))) (mt_node 1 (mt_leaf 1 (.inl (o_if (fun x => decide (x < 0)) 9))) (mt_leaf 4 (.inl (o_iload 3 1))))) (mt_node 5 (mt_leaf 5 (.inl (o_push (.int 4) 1))) (mt_node 6 (mt_leaf 6 (.inl (o_if2 (fun x y => decide (x ≤ y)) 19))) (mt_leaf 19 (.inl (o_aload 0 1)))))) (mt_node 24 (mt_node 20 (mt_leaf 20 (.inl (o_iload 1 1))) (mt_node 21 (mt_leaf 21 (.inr (.inl (4, 2, some 11)))) (mt_leaf 24 (.inl (o_asto 4 2))))) (mt_node 26 (mt_leaf 26 (.inl (o_aload 4 2))) (mt_node 28 (mt_leaf 28 (.inl (o_null 31 44))) (mt_leaf 31 (.inl (o_iload 2 1))))))) (mt_node 44 (mt_node 36 (mt_node 32 (mt_leaf 32 (.inl (o_if (fun x => decide (x < 0)) 44))) (mt_node 35 (mt_leaf 35 (.inl (o_iload 2 1))) (mt_leaf 36 (.inl (o_aload 4 2))))) (mt_node 38 (mt_leaf 38 (.inr (.inl (76, 1, some 4)))) (mt_node 41 (mt_leaf 41 (.inl (o_if2 (fun x y => decide (x < y)) 48))) (mt_leaf 44 (.inl (o_push (.int (-1)) 1)))))) (mt_node 50 (mt_node 45 (mt_leaf 45 (.inl (o_goto 55))) (mt_node 48 (mt_leaf 48 (.inl (o_aload 4 2))) (mt_leaf 50 (.inl (o_iload 2 1))))) (mt_node 51 (mt_leaf 51 (.inl (o_iload 3 1))) (mt_node 52 (mt_leaf 52 (.inr (.inl (80, 3, some 4)))) (mt_leaf 55 (.inr (.inr (r_int (fun _ => true)))))))))
theorem mb_12_0_ok {g : xe_G} : mt_all (mi_ent g mI (mI 12)) (mb_12_0 g) := mt_node_ok (mt_node_ok (mt_node_ok (mt_node_ok (mt_leaf_ok (en_o (sm_iload_n dX11_instruction_0 rfl))) (mt_node_ok (mt_leaf_ok (en_o (sm_if_lt dX11_instruction_1 (by decide)))) (mt_leaf_ok (en_o (sm_iload_n dX11_instruction_4 rfl))))) (mt_node_ok (mt_leaf_ok (en_o (sm_iconst dX11_instruction_5 rfl))) (mt_node_ok (mt_leaf_ok (en_o (sm_icmp_le dX11_instruction_6 (by decide)))) (mt_leaf_ok (en_o (sm_aload_n dX11_instruction_19 rfl)))))) (mt_node_ok (mt_node_ok (mt_leaf_ok (en_o (sm_iload_n dX11_instruction_20 rfl))) (mt_node_ok (mt_leaf_ok ((⟨by decide, bg_774, bg_896, 211, 1, ⟨by decide, by decide, by decide +kernel⟩, bg_895, Or.inr ⟨rfl, bg_897, 11, _, rfl, by decide, rfl, Or.inl ⟨dX11_instruction_21, bg_898⟩⟩⟩ : mi_cal _ _ _ (mI 4) _ _))) (mt_leaf_ok (en_s (sm_astore dX11_instruction_24 (by decide)))))) (mt_node_ok (mt_leaf_ok (en_o (sm_aload dX11_instruction_26))) (mt_node_ok (mt_leaf_ok (en_o (sm_ifnull dX11_instruction_28 (by decide)))) (mt_leaf_ok (en_o (sm_iload_n dX11_instruction_31 rfl))))))) (mt_node_ok (mt_node_ok (mt_node_ok (mt_leaf_ok (en_o (sm_if_lt dX11_instruction_32 (by decide)))) (mt_node_ok (mt_leaf_ok (en_o (sm_iload_n dX11_instruction_35 rfl))) (mt_leaf_ok (en_o (sm_aload dX11_instruction_36))))) (mt_node_ok (mt_leaf_ok ((⟨by decide, bg_156, bg_354, 233, 0, ⟨by decide, by decide, by decide +kernel⟩, bg_908, Or.inr ⟨rfl, bg_909, 4, _, rfl, by decide, rfl, Or.inl ⟨dX11_instruction_38, bg_910⟩⟩⟩ : mi_cal _ _ _ (mI 76) _ _))) (mt_node_ok (mt_leaf_ok (en_o (sm_icmp_lt dX11_instruction_41 (by decide)))) (mt_leaf_ok (en_o (sm_iconst dX11_instruction_44 rfl)))))) (mt_node_ok (mt_node_ok (mt_leaf_ok (en_o (sm_goto dX11_instruction_45 (by decide)))) (mt_node_ok (mt_leaf_ok (en_o (sm_aload dX11_instruction_48))) (mt_leaf_ok (en_o (sm_iload_n dX11_instruction_50 rfl))))) (mt_node_ok (mt_leaf_ok (en_o (sm_iload_n dX11_instruction_51 rfl))) (mt_node_ok (mt_leaf_ok ((⟨by decide, bg_156, bg_373, 239, 2, ⟨by decide, by decide, by decide +kernel⟩, bg_912, Or.inr ⟨rfl, bg_913, 4, _, rfl, by decide, rfl, Or.inl ⟨dX11_instruction_52, bg_914⟩⟩⟩ : mi_cal _ _ _ (mI 80) _ _))) (mt_leaf_ok (sr_int dX11_instruction_55))))))
def mb_12 (g : xe_G) : Nat × mi_B := (5, mb_12_0 g, mk_node 44 (mk_leaf 44 []) (mk_leaf 55 []))
theorem mb_12_ok {g : xe_G} : mi_meth g mI (mI 12) (mb_12 g) := ⟨rfl, by decide, mb_12_0_ok⟩
theorem dX11_isWhole_0 : decode cX11_isWhole 0 = .ok (.new 79, 3) := by decide +kernel
theorem dX11_isWhole_3 : decode cX11_isWhole 3 = .ok (.dup, 1) := by decide +kernel
theorem dX11_isWhole_4 : decode cX11_isWhole 4 = .ok (.aload_n 0, 1) := by decide +kernel
theorem dX11_isWhole_5 : decode cX11_isWhole 5 = .ok (.aload_n 1, 1) := by decide +kernel
theorem dX11_isWhole_6 : decode cX11_isWhole 6 = .ok (.invokespecial 81, 3) := by decide +kernel
theorem dX11_isWhole_9 : decode cX11_isWhole 9 = .ok (.astore_n 2, 1) := by decide +kernel
theorem dX11_isWhole_10 : decode cX11_isWhole 10 = .ok (.aload_n 2, 1) := by decide +kernel
theorem dX11_isWhole_11 : decode cX11_isWhole 11 = .ok (.invokevirtual 84, 3) := by decide +kernel
theorem dX11_isWhole_14 : decode cX11_isWhole 14 = .ok (.ifCond .eq 42, 3) := by decide +kernel
theorem dX11_isWhole_17 : decode cX11_isWhole 17 = .ok (.aload_n 2, 1) := by decide +kernel
theorem dX11_isWhole_18 : decode cX11_isWhole 18 = .ok (.invokevirtual 88, 3) := by decide +kernel
theorem dX11_isWhole_21 : decode cX11_isWhole 21 = .ok (.ifCond .eq 35, 3) := by decide +kernel
theorem dX11_isWhole_24 : decode cX11_isWhole 24 = .ok (.aload_n 2, 1) := by decide +kernel
theorem dX11_isWhole_25 : decode cX11_isWhole 25 = .ok (.invokevirtual 91, 3) := by decide +kernel
theorem dX11_isWhole_28 : decode cX11_isWhole 28 = .ok (.ifCond .eq 28, 3) := by decide +kernel
theorem dX11_isWhole_31 : decode cX11_isWhole 31 = .ok (.aload_n 2, 1) := by decide +kernel
theorem dX11_isWhole_32 : decode cX11_isWhole 32 = .ok (.invokevirtual 94, 3) := by decide +kernel
theorem dX11_isWhole_35 : decode cX11_isWhole 35 = .ok (.ifCond .eq 21, 3) := by decide +kernel
theorem dX11_isWhole_38 : decode cX11_isWhole 38 = .ok (.aload_n 2, 1) := by decide +kernel
theorem dX11_isWhole_39 : decode cX11_isWhole 39 = .ok (.invokevirtual 97, 3) := by decide +kernel
theorem dX11_isWhole_42 : decode cX11_isWhole 42 = .ok (.ifCond .eq 14, 3) := by decide +kernel
theorem dX11_isWhole_45 : decode cX11_isWhole 45 = .ok (.aload_n 2, 1) := by decide +kernel
theorem dX11_isWhole_46 : decode cX11_isWhole 46 = .ok (.invokevirtual 100, 3) := by decide +kernel
theorem dX11_isWhole_49 : decode cX11_isWhole 49 = .ok (.ifCond .eq 7, 3) := by decide +kernel
theorem dX11_isWhole_52 : decode cX11_isWhole 52 = .ok (.iconst 1, 1) := by decide +kernel
theorem dX11_isWhole_53 : decode cX11_isWhole 53 = .ok (.goto 4, 3) := by decide +kernel
theorem dX11_isWhole_56 : decode cX11_isWhole 56 = .ok (.iconst 0, 1) := by decide +kernel
theorem dX11_isWhole_57 : decode cX11_isWhole 57 = .ok (.ireturn, 1) := by decide +kernel
def mb_13_0 (g : xe_G) : Nat → Option mi_N := mt_node 25 (mt_node 10 (mt_node 4 (mt_node 0 (mt_leaf 0 (.inl (o_new 9 5 [.null, .null, .null, .int 0, .int 0]))) (mt_node 3 (mt_leaf 3 (.inl (o_dup))) (mt_leaf 4 (.inl (o_aload 0 1))))) (mt_node 6 (mt_node 5 (mt_leaf 5 (.inl (o_aload 1 1))) (mt_leaf 6 (.inr (.inl (154, 3, some 9))))) (mt_node 9 (mt_leaf 9 (.inl (o_asto 2 1))) (mt_leaf 10 (.inl (o_aload 2 1)))))) (mt_node 17 (mt_node 11 (mt_leaf 11 (.inr (.inl (165, 1, some 9)))) (mt_node 14 (mt_leaf 14 (.inl (o_if (fun x => decide (x = 0)) 56))) (mt_leaf 17 (.inl (o_aload 2 1))))) (mt_node 21 (mt_node 18 (mt_leaf 18 (.inr (.inl (169, 1, some 9)))) (mt_leaf 21 (.inl (o_if (fun x => decide (x = 0)) 56)))) (mt_node 24 (mt_leaf 24 (.inl (o_aload 2 1))) (mt_leaf 25 (.inr (.inl (161, 1, some 9)))))))) (mt_node 42 (mt_node 32 (mt_node 28 (mt_leaf 28 (.inl (o_if (fun x => decide (x = 0)) 56))) (mt_node 31 (mt_leaf 31 (.inl (o_aload 2 1))) (mt_leaf 32 (.inr (.inl (164, 1, some 9)))))) (mt_node 38 (mt_node 35 (mt_leaf 35 (.inl (o_if (fun x => decide (x = 0)) 56))) (mt_leaf 38 (.inl (o_aload 2 1)))) (mt_node 39 (mt_leaf 39 (.inr (.inl (168, 1, some 9)))) (mt_leaf 42 (.inl (o_if (fun x => decide (x = 0)) 56)))))) (mt_node 49 (mt_node 45 (mt_leaf 45 (.inl (o_aload 2 1))) (mt_node 46 (mt_leaf 46 (.inr (.inl (162, 1, some 9)))) (mt_leaf 49 (.inl (o_if (fun x => decide (x = 0)) 56))))) (mt_node 53 (mt_node 52 (mt_leaf 52 (.inl (o_push (.int 1) 1))) (mt_leaf 53 (.inl (o_goto 57)))) (mt_node 56 (mt_leaf 56 (.inl (o_push (.int 0) 1))) (mt_leaf 57 (.inr (.inr (r_int mi_cz))))))))
theorem mb_13_0_ok {g : xe_G} : mt_all (mi_ent g mI (mI 13)) (mb_13_0 g) := mt_node_ok (mt_node_ok (mt_node_ok (mt_node_ok (mt_leaf_ok (en_s (sm_new (T := TX9) (by decide) rfl bi_X9 tyX9_ok bg_804 bg_805 bg_679 (by decide) rfl dX11_isWhole_0))) (mt_node_ok (mt_leaf_ok (en_o (sm_dup dX11_isWhole_3))) (mt_leaf_ok (en_o (sm_aload_n dX11_isWhole_4 rfl))))) (mt_node_ok (mt_node_ok (mt_leaf_ok (en_o (sm_aload_n dX11_isWhole_5 rfl))) (mt_leaf_ok ((⟨by decide, bg_679, bg_659, 81, 2, ⟨by decide, by decide, by decide +kernel⟩, bg_806, Or.inr ⟨rfl, bg_807, 9, _, rfl, by decide, rfl, Or.inr ⟨dX11_isWhole_6, rfl, rfl⟩⟩⟩ : mi_cal _ _ _ (mI 154) _ _)))) (mt_node_ok (mt_leaf_ok (en_s (sm_astore_n dX11_isWhole_9 rfl (by decide)))) (mt_leaf_ok (en_o (sm_aload_n dX11_isWhole_10 rfl)))))) (mt_node_ok (mt_node_ok (mt_leaf_ok ((⟨by decide, bg_679, bg_675, 84, 0, ⟨by decide, by decide, by decide +kernel⟩, bg_808, Or.inr ⟨rfl, bg_809, 9, _, rfl, by decide, rfl, Or.inl ⟨dX11_isWhole_11, bg_810⟩⟩⟩ : mi_cal _ _ _ (mI 165) _ _))) (mt_node_ok (mt_leaf_ok (en_o (sm_if_eq dX11_isWhole_14 (by decide)))) (mt_leaf_ok (en_o (sm_aload_n dX11_isWhole_17 rfl))))) (mt_node_ok (mt_node_ok (mt_leaf_ok ((⟨by decide, bg_679, bg_683, 88, 0, ⟨by decide, by decide, by decide +kernel⟩, bg_811, Or.inr ⟨rfl, bg_812, 9, _, rfl, by decide, rfl, Or.inl ⟨dX11_isWhole_18, bg_813⟩⟩⟩ : mi_cal _ _ _ (mI 169) _ _))) (mt_leaf_ok (en_o (sm_if_eq dX11_isWhole_21 (by decide))))) (mt_node_ok (mt_leaf_ok (en_o (sm_aload_n dX11_isWhole_24 rfl))) (mt_leaf_ok ((⟨by decide, bg_679, bg_728, 91, 0, ⟨by decide, by decide, by decide +kernel⟩, bg_814, Or.inr ⟨rfl, bg_815, 9, _, rfl, by decide, rfl, Or.inl ⟨dX11_isWhole_25, bg_816⟩⟩⟩ : mi_cal _ _ _ (mI 161) _ _))))))) (mt_node_ok (mt_node_ok (mt_node_ok (mt_leaf_ok (en_o (sm_if_eq dX11_isWhole_28 (by decide)))) (mt_node_ok (mt_leaf_ok (en_o (sm_aload_n dX11_isWhole_31 rfl))) (mt_leaf_ok ((⟨by decide, bg_679, bg_731, 94, 0, ⟨by decide, by decide, by decide +kernel⟩, bg_817, Or.inr ⟨rfl, bg_818, 9, _, rfl, by decide, rfl, Or.inl ⟨dX11_isWhole_32, bg_819⟩⟩⟩ : mi_cal _ _ _ (mI 164) _ _))))) (mt_node_ok (mt_node_ok (mt_leaf_ok (en_o (sm_if_eq dX11_isWhole_35 (by decide)))) (mt_leaf_ok (en_o (sm_aload_n dX11_isWhole_38 rfl)))) (mt_node_ok (mt_leaf_ok ((⟨by decide, bg_679, bg_742, 97, 0, ⟨by decide, by decide, by decide +kernel⟩, bg_820, Or.inr ⟨rfl, bg_821, 9, _, rfl, by decide, rfl, Or.inl ⟨dX11_isWhole_39, bg_822⟩⟩⟩ : mi_cal _ _ _ (mI 168) _ _))) (mt_leaf_ok (en_o (sm_if_eq dX11_isWhole_42 (by decide))))))) (mt_node_ok (mt_node_ok (mt_leaf_ok (en_o (sm_aload_n dX11_isWhole_45 rfl))) (mt_node_ok (mt_leaf_ok ((⟨by decide, bg_679, bg_751, 100, 0, ⟨by decide, by decide, by decide +kernel⟩, bg_823, Or.inr ⟨rfl, bg_824, 9, _, rfl, by decide, rfl, Or.inl ⟨dX11_isWhole_46, bg_825⟩⟩⟩ : mi_cal _ _ _ (mI 162) _ _))) (mt_leaf_ok (en_o (sm_if_eq dX11_isWhole_49 (by decide)))))) (mt_node_ok (mt_node_ok (mt_leaf_ok (en_o (sm_iconst dX11_isWhole_52 rfl))) (mt_leaf_ok (en_o (sm_goto dX11_isWhole_53 (by decide))))) (mt_node_ok (mt_leaf_ok (en_o (sm_iconst dX11_isWhole_56 rfl))) (mt_leaf_ok (sr_nar mi_cz_ok dX11_isWhole_57))))))
def mb_13 (g : xe_G) : Nat × mi_B := (3, mb_13_0 g, mk_node 56 (mk_leaf 56 []) (mk_leaf 57 []))
theorem mb_13_ok {g : xe_G} : mi_meth g mI (mI 13) (mb_13 g) := ⟨rfl, by decide, mb_13_0_ok⟩
theorem dX11_jump_0 : decode cX11_jump 0 = .ok (.aload_n 0, 1) := by decide +kernel
theorem dX11_jump_1 : decode cX11_jump 1 = .ok (.iload_n 1, 1) := by decide +kernel
theorem dX11_jump_2 : decode cX11_jump 2 = .ok (.invokevirtual 211, 3) := by decide +kernel
theorem dX11_jump_5 : decode cX11_jump 5 = .ok (.astore 5, 2) := by decide +kernel
theorem dX11_jump_7 : decode cX11_jump 7 = .ok (.aload 5, 2) := by decide +kernel
theorem dX11_jump_9 : decode cX11_jump 9 = .ok (.ifnull 16, 3) := by decide +kernel
theorem dX11_jump_12 : decode cX11_jump 12 = .ok (.iload_n 2, 1) := by decide +kernel
theorem dX11_jump_13 : decode cX11_jump 13 = .ok (.ifCond .lt 12, 3) := by decide +kernel
theorem dX11_jump_16 : decode cX11_jump 16 = .ok (.iload_n 2, 1) := by decide +kernel
theorem dX11_jump_17 : decode cX11_jump 17 = .ok (.aload 5, 2) := by decide +kernel
theorem dX11_jump_19 : decode cX11_jump 19 = .ok (.invokevirtual 233, 3) := by decide +kernel
theorem dX11_jump_22 : decode cX11_jump 22 = .ok (.if_icmp .lt 7, 3) := by decide +kernel
theorem dX11_jump_25 : decode cX11_jump 25 = .ok (.iconst (-1), 1) := by decide +kernel
theorem dX11_jump_26 : decode cX11_jump 26 = .ok (.goto 12, 3) := by decide +kernel
theorem dX11_jump_29 : decode cX11_jump 29 = .ok (.aload 5, 2) := by decide +kernel
theorem dX11_jump_31 : decode cX11_jump 31 = .ok (.iload_n 2, 1) := by decide +kernel
theorem dX11_jump_32 : decode cX11_jump 32 = .ok (.iload_n 3, 1) := by decide +kernel
theorem dX11_jump_33 : decode cX11_jump 33 = .ok (.iload 4, 2) := by decide +kernel
theorem dX11_jump_35 : decode cX11_jump 35 = .ok (.invokevirtual 241, 3) := by decide +kernel
theorem dX11_jump_38 : decode cX11_jump 38 = .ok (.ireturn, 1) := by decide +kernel
def mb_14_0 (g : xe_G) : Nat → Option mi_N := mt_node 17 (mt_node 7 (mt_node 1 (mt_node 0 (mt_leaf 0 (.inl (o_aload 0 1))) (mt_leaf 1 (.inl (o_iload 1 1)))) (mt_node 2 (mt_leaf 2 (.inr (.inl (4, 2, some 11)))) (mt_node 5 (mt_leaf 5 (.inl (o_asto 5 2))) (mt_leaf 7 (.inl (o_aload 5 2)))))) (mt_node 12 (mt_node 9 (mt_leaf 9 (.inl (o_null 12 25))) (mt_leaf 12 (.inl (o_iload 2 1)))) (mt_node 13 (mt_leaf 13 (.inl (o_if (fun x => decide (x < 0)) 25))) (mt_node 16 (mt_leaf 16 (.inl (o_iload 2 1))) (mt_leaf 17 (.inl (o_aload 5 2))))))) (mt_node 29 (mt_node 22 (mt_node 19 (mt_leaf 19 (.inr (.inl (76, 1, some 4)))) (mt_leaf 22 (.inl (o_if2 (fun x y => decide (x < y)) 29)))) (mt_node 25 (mt_leaf 25 (.inl (o_push (.int (-1)) 1))) (mt_node 26 (mt_leaf 26 (.inl (o_goto 38))) (mt_leaf 29 (.inl (o_aload 5 2)))))) (mt_node 32 (mt_node 31 (mt_leaf 31 (.inl (o_iload 2 1))) (mt_leaf 32 (.inl (o_iload 3 1)))) (mt_node 33 (mt_leaf 33 (.inl (o_iload 4 2))) (mt_node 35 (mt_leaf 35 (.inr (.inl (84, 4, some 4)))) (mt_leaf 38 (.inr (.inr (r_int (fun _ => true)))))))))
theorem mb_14_0_ok {g : xe_G} : mt_all (mi_ent g mI (mI 14)) (mb_14_0 g) := mt_node_ok (mt_node_ok (mt_node_ok (mt_node_ok (mt_leaf_ok (en_o (sm_aload_n dX11_jump_0 rfl))) (mt_leaf_ok (en_o (sm_iload_n dX11_jump_1 rfl)))) (mt_node_ok (mt_leaf_ok ((⟨by decide, bg_774, bg_896, 211, 1, ⟨by decide, by decide, by decide +kernel⟩, bg_895, Or.inr ⟨rfl, bg_897, 11, _, rfl, by decide, rfl, Or.inl ⟨dX11_jump_2, bg_898⟩⟩⟩ : mi_cal _ _ _ (mI 4) _ _))) (mt_node_ok (mt_leaf_ok (en_s (sm_astore dX11_jump_5 (by decide)))) (mt_leaf_ok (en_o (sm_aload dX11_jump_7)))))) (mt_node_ok (mt_node_ok (mt_leaf_ok (en_o (sm_ifnull dX11_jump_9 (by decide)))) (mt_leaf_ok (en_o (sm_iload_n dX11_jump_12 rfl)))) (mt_node_ok (mt_leaf_ok (en_o (sm_if_lt dX11_jump_13 (by decide)))) (mt_node_ok (mt_leaf_ok (en_o (sm_iload_n dX11_jump_16 rfl))) (mt_leaf_ok (en_o (sm_aload dX11_jump_17))))))) (mt_node_ok (mt_node_ok (mt_node_ok (mt_leaf_ok ((⟨by decide, bg_156, bg_354, 233, 0, ⟨by decide, by decide, by decide +kernel⟩, bg_908, Or.inr ⟨rfl, bg_909, 4, _, rfl, by decide, rfl, Or.inl ⟨dX11_jump_19, bg_910⟩⟩⟩ : mi_cal _ _ _ (mI 76) _ _))) (mt_leaf_ok (en_o (sm_icmp_lt dX11_jump_22 (by decide))))) (mt_node_ok (mt_leaf_ok (en_o (sm_iconst dX11_jump_25 rfl))) (mt_node_ok (mt_leaf_ok (en_o (sm_goto dX11_jump_26 (by decide)))) (mt_leaf_ok (en_o (sm_aload dX11_jump_29)))))) (mt_node_ok (mt_node_ok (mt_leaf_ok (en_o (sm_iload_n dX11_jump_31 rfl))) (mt_leaf_ok (en_o (sm_iload_n dX11_jump_32 rfl)))) (mt_node_ok (mt_leaf_ok (en_o (sm_iload dX11_jump_33))) (mt_node_ok (mt_leaf_ok ((⟨by decide, bg_156, bg_396, 241, 3, ⟨by decide, by decide, by decide +kernel⟩, bg_916, Or.inr ⟨rfl, bg_917, 4, _, rfl, by decide, rfl, Or.inl ⟨dX11_jump_35, bg_918⟩⟩⟩ : mi_cal _ _ _ (mI 84) _ _))) (mt_leaf_ok (sr_int dX11_jump_38))))))
def mb_14 (g : xe_G) : Nat × mi_B := (6, mb_14_0 g, mk_node 25 (mk_leaf 25 []) (mk_leaf 38 []))
theorem mb_14_ok {g : xe_G} : mi_meth g mI (mI 14) (mb_14 g) := ⟨rfl, by decide, mb_14_0_ok⟩
theorem dX11_member_0 : decode cX11_member 0 = .ok (.iload_n 3, 1) := by decide +kernel
theorem dX11_member_1 : decode cX11_member 1 = .ok (.ifCond .lt 9, 3) := by decide +kernel
theorem dX11_member_4 : decode cX11_member 4 = .ok (.iload_n 3, 1) := by decide +kernel
theorem dX11_member_5 : decode cX11_member 5 = .ok (.bipush 9, 2) := by decide +kernel
theorem dX11_member_7 : decode cX11_member 7 = .ok (.if_icmp .le 13, 3) := by decide +kernel
theorem dX11_member_20 : decode cX11_member 20 = .ok (.aload_n 0, 1) := by decide +kernel
theorem dX11_member_21 : decode cX11_member 21 = .ok (.getfield 69, 3) := by decide +kernel
theorem dX11_member_24 : decode cX11_member 24 = .ok (.ifnonnull 7, 3) := by decide +kernel
theorem dX11_member_27 : decode cX11_member 27 = .ok (.aconst_null, 1) := by decide +kernel
theorem dX11_member_28 : decode cX11_member 28 = .ok (.goto 12, 3) := by decide +kernel
theorem dX11_member_31 : decode cX11_member 31 = .ok (.aload_n 0, 1) := by decide +kernel
theorem dX11_member_32 : decode cX11_member 32 = .ok (.getfield 69, 3) := by decide +kernel
theorem dX11_member_35 : decode cX11_member 35 = .ok (.iload_n 1, 1) := by decide +kernel
theorem dX11_member_36 : decode cX11_member 36 = .ok (.iload_n 2, 1) := by decide +kernel
theorem dX11_member_37 : decode cX11_member 37 = .ok (.invokevirtual 189, 3) := by decide +kernel
theorem dX11_member_40 : decode cX11_member 40 = .ok (.astore 4, 2) := by decide +kernel
theorem dX11_member_42 : decode cX11_member 42 = .ok (.aload 4, 2) := by decide +kernel
theorem dX11_member_44 : decode cX11_member 44 = .ok (.ifnonnull 7, 3) := by decide +kernel
theorem dX11_member_47 : decode cX11_member 47 = .ok (.iconst (-1), 1) := by decide +kernel
theorem dX11_member_48 : decode cX11_member 48 = .ok (.goto 10, 3) := by decide +kernel
theorem dX11_member_51 : decode cX11_member 51 = .ok (.aload 4, 2) := by decide +kernel
theorem dX11_member_53 : decode cX11_member 53 = .ok (.iload_n 1, 1) := by decide +kernel
theorem dX11_member_54 : decode cX11_member 54 = .ok (.iload_n 3, 1) := by decide +kernel
theorem dX11_member_55 : decode cX11_member 55 = .ok (.invokevirtual 193, 3) := by decide +kernel
theorem dX11_member_58 : decode cX11_member 58 = .ok (.ireturn, 1) := by decide +kernel
def mb_15_0 (g : xe_G) : Nat → Option mi_N := mt_node 32 (mt_node 20 (mt_node 4 (mt_node 0 (mt_leaf 0 (.inl (o_iload 3 1))) (mt_node 1 (mt_leaf 1 (.inl (o_if (fun x => decide (x < 0)) 10))) (mt_leaf 4 (.inl (o_iload 3 1))))) (mt_node 5 (mt_leaf 5 (.inl (o_push (.int 9) 2))) (mt_node 7 (mt_leaf 7 (.inl (o_if2 (fun x y => decide (x ≤ y)) 20))) (mt_leaf 20 (.inl (o_aload 0 1)))))) (mt_node 27 (mt_node 21 (mt_leaf 21 (.inl (o_get 11 3))) (mt_node 24 (mt_leaf 24 (.inl (o_null 31 27))) (mt_leaf 27 (.inl (o_push .null 1))))) (mt_node 28 (mt_leaf 28 (.inl (o_goto 40))) (mt_node 31 (mt_leaf 31 (.inl (o_aload 0 1))) (mt_leaf 32 (.inl (o_get 11 3))))))) (mt_node 44 (mt_node 37 (mt_node 35 (mt_leaf 35 (.inl (o_iload 1 1))) (mt_node 36 (mt_leaf 36 (.inl (o_iload 2 1))) (mt_leaf 37 (.inr (.inl (72, 3, some 3)))))) (mt_node 40 (mt_leaf 40 (.inl (o_asto 4 2))) (mt_node 42 (mt_leaf 42 (.inl (o_aload 4 2))) (mt_leaf 44 (.inl (o_null 51 47)))))) (mt_node 51 (mt_node 47 (mt_leaf 47 (.inl (o_push (.int (-1)) 1))) (mt_node 48 (mt_leaf 48 (.inl (o_goto 58))) (mt_leaf 51 (.inl (o_aload 4 2))))) (mt_node 54 (mt_node 53 (mt_leaf 53 (.inl (o_iload 1 1))) (mt_leaf 54 (.inl (o_iload 3 1)))) (mt_node 55 (mt_leaf 55 (.inr (.inl (109, 3, some 6)))) (mt_leaf 58 (.inr (.inr (r_int (fun _ => true)))))))))
theorem mb_15_0_ok {g : xe_G} : mt_all (mi_ent g mI (mI 15)) (mb_15_0 g) := mt_node_ok (mt_node_ok (mt_node_ok (mt_node_ok (mt_leaf_ok (en_o (sm_iload_n dX11_member_0 rfl))) (mt_node_ok (mt_leaf_ok (en_o (sm_if_lt dX11_member_1 (by decide)))) (mt_leaf_ok (en_o (sm_iload_n dX11_member_4 rfl))))) (mt_node_ok (mt_leaf_ok (en_o (sm_bipush dX11_member_5 rfl))) (mt_node_ok (mt_leaf_ok (en_o (sm_icmp_le dX11_member_7 (by decide)))) (mt_leaf_ok (en_o (sm_aload_n dX11_member_20 rfl)))))) (mt_node_ok (mt_node_ok (mt_leaf_ok (en_o (sm_get (T := TX11) (by decide) rfl bi_X11 (by decide) bg_801 dX11_member_21))) (mt_node_ok (mt_leaf_ok (en_o (sm_ifnonnull dX11_member_24 (by decide)))) (mt_leaf_ok (en_o (sm_null dX11_member_27))))) (mt_node_ok (mt_leaf_ok (en_o (sm_goto dX11_member_28 (by decide)))) (mt_node_ok (mt_leaf_ok (en_o (sm_aload_n dX11_member_31 rfl))) (mt_leaf_ok (en_o (sm_get (T := TX11) (by decide) rfl bi_X11 (by decide) bg_801 dX11_member_32))))))) (mt_node_ok (mt_node_ok (mt_node_ok (mt_leaf_ok (en_o (sm_iload_n dX11_member_35 rfl))) (mt_node_ok (mt_leaf_ok (en_o (sm_iload_n dX11_member_36 rfl))) (mt_leaf_ok ((⟨by decide, bg_132, bg_330, 189, 2, ⟨by decide, by decide, by decide +kernel⟩, bg_884, Or.inr ⟨rfl, bg_885, 3, _, rfl, by decide, rfl, Or.inl ⟨dX11_member_37, bg_886⟩⟩⟩ : mi_cal _ _ _ (mI 72) _ _))))) (mt_node_ok (mt_leaf_ok (en_s (sm_astore dX11_member_40 (by decide)))) (mt_node_ok (mt_leaf_ok (en_o (sm_aload dX11_member_42))) (mt_leaf_ok (en_o (sm_ifnonnull dX11_member_44 (by decide))))))) (mt_node_ok (mt_node_ok (mt_leaf_ok (en_o (sm_iconst dX11_member_47 rfl))) (mt_node_ok (mt_leaf_ok (en_o (sm_goto dX11_member_48 (by decide)))) (mt_leaf_ok (en_o (sm_aload dX11_member_51))))) (mt_node_ok (mt_node_ok (mt_leaf_ok (en_o (sm_iload_n dX11_member_53 rfl))) (mt_leaf_ok (en_o (sm_iload_n dX11_member_54 rfl)))) (mt_node_ok (mt_leaf_ok ((⟨by decide, bg_46, bg_521, 193, 2, ⟨by decide, by decide, by decide +kernel⟩, bg_887, Or.inr ⟨rfl, bg_888, 6, _, rfl, by decide, rfl, Or.inl ⟨dX11_member_55, bg_889⟩⟩⟩ : mi_cal _ _ _ (mI 109) _ _))) (mt_leaf_ok (sr_int dX11_member_58))))))
def mb_15 (g : xe_G) : Nat × mi_B := (5, mb_15_0 g, mk_node 40 (mk_leaf 40 [1, 3]) (mk_leaf 58 []))
theorem mb_15_ok {g : xe_G} : mi_meth g mI (mI 15) (mb_15 g) := ⟨rfl, by decide, mb_15_0_ok⟩
theorem dX11_place_0 : decode cX11_place 0 = .ok (.aload_n 0, 1) := by decide +kernel
theorem dX11_place_1 : decode cX11_place 1 = .ok (.getfield 19, 3) := by decide +kernel
theorem dX11_place_4 : decode cX11_place 4 = .ok (.ireturn, 1) := by decide +kernel
def mb_16_0 (g : xe_G) : Nat → Option mi_N := mt_node 0 (mt_leaf 0 (.inl (o_aload 0 1))) (mt_node 1 (mt_leaf 1 (.inl (o_get 11 4))) (mt_leaf 4 (.inr (.inr (r_int (fun _ => true))))))
theorem mb_16_0_ok {g : xe_G} : mt_all (mi_ent g mI (mI 16)) (mb_16_0 g) := mt_node_ok (mt_leaf_ok (en_o (sm_aload_n dX11_place_0 rfl))) (mt_node_ok (mt_leaf_ok (en_o (sm_get (T := TX11) (by decide) rfl bi_X11 (by decide) bg_764 dX11_place_1))) (mt_leaf_ok (sr_int dX11_place_4)))
def mb_16 (g : xe_G) : Nat × mi_B := (1, mb_16_0 g, fun _ => none)
theorem mb_16_ok {g : xe_G} : mi_meth g mI (mI 16) (mb_16 g) := ⟨rfl, by decide, mb_16_0_ok⟩
theorem dX11_places_0 : decode cX11_places 0 = .ok (.aload_n 0, 1) := by decide +kernel
theorem dX11_places_1 : decode cX11_places 1 = .ok (.getfield 69, 3) := by decide +kernel
theorem dX11_places_4 : decode cX11_places 4 = .ok (.ifnonnull 7, 3) := by decide +kernel
theorem dX11_places_7 : decode cX11_places 7 = .ok (.iconst (-1), 1) := by decide +kernel
theorem dX11_places_8 : decode cX11_places 8 = .ok (.goto 14, 3) := by decide +kernel
theorem dX11_places_11 : decode cX11_places 11 = .ok (.aload_n 0, 1) := by decide +kernel
theorem dX11_places_12 : decode cX11_places 12 = .ok (.getfield 69, 3) := by decide +kernel
theorem dX11_places_15 : decode cX11_places 15 = .ok (.getfield 103, 3) := by decide +kernel
theorem dX11_places_18 : decode cX11_places 18 = .ok (.iload_n 1, 1) := by decide +kernel
theorem dX11_places_19 : decode cX11_places 19 = .ok (.invokevirtual 184, 3) := by decide +kernel
theorem dX11_places_22 : decode cX11_places 22 = .ok (.ireturn, 1) := by decide +kernel
def mb_17_0 (g : xe_G) : Nat → Option mi_N := mt_node 8 (mt_node 1 (mt_node 0 (mt_leaf 0 (.inl (o_aload 0 1))) (mt_leaf 1 (.inl (o_get 11 3)))) (mt_node 4 (mt_leaf 4 (.inl (o_null 11 7))) (mt_node 7 (mt_leaf 7 (.inl (o_push (.int (-1)) 1))) (mt_leaf 8 (.inl (o_goto 22)))))) (mt_node 15 (mt_node 11 (mt_leaf 11 (.inl (o_aload 0 1))) (mt_node 12 (mt_leaf 12 (.inl (o_get 11 3))) (mt_leaf 15 (.inl (o_get 3 1))))) (mt_node 18 (mt_leaf 18 (.inl (o_iload 1 1))) (mt_node 19 (mt_leaf 19 (.inr (.inl (131, 2, some 7)))) (mt_leaf 22 (.inr (.inr (r_int (fun _ => true))))))))
theorem mb_17_0_ok {g : xe_G} : mt_all (mi_ent g mI (mI 17)) (mb_17_0 g) := mt_node_ok (mt_node_ok (mt_node_ok (mt_leaf_ok (en_o (sm_aload_n dX11_places_0 rfl))) (mt_leaf_ok (en_o (sm_get (T := TX11) (by decide) rfl bi_X11 (by decide) bg_801 dX11_places_1)))) (mt_node_ok (mt_leaf_ok (en_o (sm_ifnonnull dX11_places_4 (by decide)))) (mt_node_ok (mt_leaf_ok (en_o (sm_iconst dX11_places_7 rfl))) (mt_leaf_ok (en_o (sm_goto dX11_places_8 (by decide))))))) (mt_node_ok (mt_node_ok (mt_leaf_ok (en_o (sm_aload_n dX11_places_11 rfl))) (mt_node_ok (mt_leaf_ok (en_o (sm_get (T := TX11) (by decide) rfl bi_X11 (by decide) bg_801 dX11_places_12))) (mt_leaf_ok (en_o (sm_get (T := TX3) (by decide) rfl bi_X3 (by decide) bg_826 dX11_places_15))))) (mt_node_ok (mt_leaf_ok (en_o (sm_iload_n dX11_places_18 rfl))) (mt_node_ok (mt_leaf_ok ((⟨by decide, bg_23, bg_434, 184, 1, ⟨by decide, by decide, by decide +kernel⟩, bg_882, Or.inr ⟨rfl, bg_435, 7, _, rfl, by decide, rfl, Or.inl ⟨dX11_places_19, bg_436⟩⟩⟩ : mi_cal _ _ _ (mI 131) _ _))) (mt_leaf_ok (sr_int dX11_places_22)))))
def mb_17 (g : xe_G) : Nat × mi_B := (2, mb_17_0 g, mk_leaf 22 [])
theorem mb_17_ok {g : xe_G} : mi_meth g mI (mI 17) (mb_17 g) := ⟨rfl, by decide, mb_17_0_ok⟩
theorem dX11_read_0 : decode cX11_read 0 = .ok (.new 49, 3) := by decide +kernel
theorem dX11_read_3 : decode cX11_read 3 = .ok (.dup, 1) := by decide +kernel
theorem dX11_read_4 : decode cX11_read 4 = .ok (.new 51, 3) := by decide +kernel
theorem dX11_read_7 : decode cX11_read 7 = .ok (.dup, 1) := by decide +kernel
theorem dX11_read_8 : decode cX11_read 8 = .ok (.aload_n 0, 1) := by decide +kernel
theorem dX11_read_9 : decode cX11_read 9 = .ok (.getfield 16, 3) := by decide +kernel
theorem dX11_read_12 : decode cX11_read 12 = .ok (.invokespecial 53, 3) := by decide +kernel
theorem dX11_read_15 : decode cX11_read 15 = .ok (.invokespecial 56, 3) := by decide +kernel
theorem dX11_read_18 : decode cX11_read 18 = .ok (.astore_n 1, 1) := by decide +kernel
theorem dX11_read_19 : decode cX11_read 19 = .ok (.new 59, 3) := by decide +kernel
theorem dX11_read_22 : decode cX11_read 22 = .ok (.dup, 1) := by decide +kernel
theorem dX11_read_23 : decode cX11_read 23 = .ok (.invokespecial 61, 3) := by decide +kernel
theorem dX11_read_26 : decode cX11_read 26 = .ok (.astore_n 2, 1) := by decide +kernel
theorem dX11_read_27 : decode cX11_read 27 = .ok (.aload_n 0, 1) := by decide +kernel
theorem dX11_read_28 : decode cX11_read 28 = .ok (.getstatic 13, 3) := by decide +kernel
theorem dX11_read_31 : decode cX11_read 31 = .ok (.putfield 16, 3) := by decide +kernel
theorem dX11_read_34 : decode cX11_read 34 = .ok (.aload_n 1, 1) := by decide +kernel
theorem dX11_read_35 : decode cX11_read 35 = .ok (.aload_n 2, 1) := by decide +kernel
theorem dX11_read_36 : decode cX11_read 36 = .ok (.invokestatic 62, 3) := by decide +kernel
theorem dX11_read_39 : decode cX11_read 39 = .ok (.ifCond .eq 16, 3) := by decide +kernel
theorem dX11_read_42 : decode cX11_read 42 = .ok (.aload_n 1, 1) := by decide +kernel
theorem dX11_read_43 : decode cX11_read 43 = .ok (.aload_n 2, 1) := by decide +kernel
theorem dX11_read_44 : decode cX11_read 44 = .ok (.invokestatic 66, 3) := by decide +kernel
theorem dX11_read_47 : decode cX11_read 47 = .ok (.ifCond .eq 8, 3) := by decide +kernel
theorem dX11_read_50 : decode cX11_read 50 = .ok (.aload_n 0, 1) := by decide +kernel
theorem dX11_read_51 : decode cX11_read 51 = .ok (.aload_n 1, 1) := by decide +kernel
theorem dX11_read_52 : decode cX11_read 52 = .ok (.putfield 69, 3) := by decide +kernel
theorem dX11_read_55 : decode cX11_read 55 = .ok (.aload_n 0, 1) := by decide +kernel
theorem dX11_read_56 : decode cX11_read 56 = .ok (.aload_n 2, 1) := by decide +kernel
theorem dX11_read_57 : decode cX11_read 57 = .ok (.getfield 73, 3) := by decide +kernel
theorem dX11_read_60 : decode cX11_read 60 = .ok (.putfield 19, 3) := by decide +kernel
theorem dX11_read_63 : decode cX11_read 63 = .ok (.aload_n 2, 1) := by decide +kernel
theorem dX11_read_64 : decode cX11_read 64 = .ok (.getfield 76, 3) := by decide +kernel
theorem dX11_read_67 : decode cX11_read 67 = .ok (.ireturn, 1) := by decide +kernel
def mb_18_0 (g : xe_G) : Nat → Option mi_N := mt_node 34 (mt_node 15 (mt_node 7 (mt_node 3 (mt_node 0 (mt_leaf 0 (.inl (o_new 3 17 [.null, .null, .int 0, .int 0, .int 0, .int 0, .null, .null, .int 0, .int 0, .int 0, .int 0, .int 0, .int 0, .int 0, .int 0, .int 0]))) (mt_leaf 3 (.inl (o_dup)))) (mt_node 4 (mt_leaf 4 (.inl (o_new 1 1 [.null]))) (mt_leaf 7 (.inl (o_dup))))) (mt_node 9 (mt_node 8 (mt_leaf 8 (.inl (o_aload 0 1))) (mt_leaf 9 (.inl (o_get 11 2)))) (mt_node 12 (mt_leaf 12 (.inr (.inl (44, 2, some 1)))) (mt_leaf 15 (.inr (.inl (68, 2, some 3))))))) (mt_node 23 (mt_node 19 (mt_node 18 (mt_leaf 18 (.inl (o_asto 1 1))) (mt_leaf 19 (.inl (o_new 10 2 [.int 0, .int 0])))) (mt_node 22 (mt_leaf 22 (.inl (o_dup))) (mt_leaf 23 (.inr (.inl (171, 1, some 10)))))) (mt_node 27 (mt_node 26 (mt_leaf 26 (.inl (o_asto 2 1))) (mt_leaf 27 (.inl (o_aload 0 1)))) (mt_node 28 (mt_leaf 28 (.inl (o_push (.ref g.1) 3))) (mt_node 31 (mt_leaf 31 (.inl (o_put 11 2 (tyX11 2)))) (mt_leaf 34 (.inl (o_aload 1 1)))))))) (mt_node 50 (mt_node 42 (mt_node 36 (mt_node 35 (mt_leaf 35 (.inl (o_aload 2 1))) (mt_leaf 36 (.inr (.inl (13, 2, none))))) (mt_node 39 (mt_leaf 39 (.inl (o_if (fun x => decide (x = 0)) 55))) (mt_leaf 42 (.inl (o_aload 1 1))))) (mt_node 44 (mt_node 43 (mt_leaf 43 (.inl (o_aload 2 1))) (mt_leaf 44 (.inr (.inl (11, 2, none))))) (mt_node 47 (mt_leaf 47 (.inl (o_if (fun x => decide (x = 0)) 55))) (mt_leaf 50 (.inl (o_aload 0 1)))))) (mt_node 56 (mt_node 52 (mt_node 51 (mt_leaf 51 (.inl (o_aload 1 1))) (mt_leaf 52 (.inl (o_put 11 3 (tyX11 3))))) (mt_node 55 (mt_leaf 55 (.inl (o_aload 0 1))) (mt_leaf 56 (.inl (o_aload 2 1))))) (mt_node 60 (mt_node 57 (mt_leaf 57 (.inl (o_get 10 1))) (mt_leaf 60 (.inl (o_put 11 4 (tyX11 4))))) (mt_node 63 (mt_leaf 63 (.inl (o_aload 2 1))) (mt_node 64 (mt_leaf 64 (.inl (o_get 10 0))) (mt_leaf 67 (.inr (.inr (r_int (fun _ => true))))))))))
theorem mb_18_0_ok {g : xe_G} : mt_all (mi_ent g mI (mI 18)) (mb_18_0 g) := mt_node_ok (mt_node_ok (mt_node_ok (mt_node_ok (mt_node_ok (mt_leaf_ok (en_s (sm_new (T := TX3) (by decide) rfl bi_X3 tyX3_ok bg_783 bg_784 bg_132 (by decide) rfl dX11_read_0))) (mt_leaf_ok (en_o (sm_dup dX11_read_3)))) (mt_node_ok (mt_leaf_ok (en_s (sm_new (T := TX1) (by decide) rfl bi_X1 tyX1_ok bg_785 bg_786 bg_18 (by decide) rfl dX11_read_4))) (mt_leaf_ok (en_o (sm_dup dX11_read_7))))) (mt_node_ok (mt_node_ok (mt_leaf_ok (en_o (sm_aload_n dX11_read_8 rfl))) (mt_leaf_ok (en_o (sm_get (T := TX11) (by decide) rfl bi_X11 (by decide) bg_763 dX11_read_9)))) (mt_node_ok (mt_leaf_ok ((⟨by decide, bg_18, bg_176, 53, 1, ⟨by decide, by decide, by decide +kernel⟩, bg_787, Or.inr ⟨rfl, bg_788, 1, _, rfl, by decide, rfl, Or.inr ⟨dX11_read_12, rfl, rfl⟩⟩⟩ : mi_cal _ _ _ (mI 44) _ _))) (mt_leaf_ok ((⟨by decide, bg_132, bg_300, 56, 1, ⟨by decide, by decide, by decide +kernel⟩, bg_789, Or.inr ⟨rfl, bg_790, 3, _, rfl, by decide, rfl, Or.inr ⟨dX11_read_15, rfl, rfl⟩⟩⟩ : mi_cal _ _ _ (mI 68) _ _)))))) (mt_node_ok (mt_node_ok (mt_node_ok (mt_leaf_ok (en_s (sm_astore_n dX11_read_18 rfl (by decide)))) (mt_leaf_ok (en_s (sm_new (T := TX10) (by decide) rfl bi_X10 tyX10_ok bg_791 bg_792 bg_41 (by decide) rfl dX11_read_19)))) (mt_node_ok (mt_leaf_ok (en_o (sm_dup dX11_read_22))) (mt_leaf_ok ((⟨by decide, bg_41, bg_754, 61, 0, ⟨by decide, by decide, by decide +kernel⟩, bg_793, Or.inr ⟨rfl, bg_794, 10, _, rfl, by decide, rfl, Or.inr ⟨dX11_read_23, rfl, rfl⟩⟩⟩ : mi_cal _ _ _ (mI 171) _ _))))) (mt_node_ok (mt_node_ok (mt_leaf_ok (en_s (sm_astore_n dX11_read_26 rfl (by decide)))) (mt_leaf_ok (en_o (sm_aload_n dX11_read_27 rfl)))) (mt_node_ok (mt_leaf_ok (en_o (sm_nob bg_762 dX11_read_28))) (mt_node_ok (mt_leaf_ok (en_s (sm_put (T := TX11) (by decide) rfl bi_X11 tyX11_ok nmX11 (by decide) rfl (tyX11_ok 2 (by decide)) bg_763 dX11_read_31))) (mt_leaf_ok (en_o (sm_aload_n dX11_read_34 rfl)))))))) (mt_node_ok (mt_node_ok (mt_node_ok (mt_node_ok (mt_leaf_ok (en_o (sm_aload_n dX11_read_35 rfl))) (mt_leaf_ok ((⟨by decide, bg_774, bg_796, 62, 2, ⟨by decide, by decide, by decide +kernel⟩, bg_795, Or.inl ⟨dX11_read_36, rfl, rfl, bg_797⟩⟩ : mi_cal _ _ _ (mI 13) _ _)))) (mt_node_ok (mt_leaf_ok (en_o (sm_if_eq dX11_read_39 (by decide)))) (mt_leaf_ok (en_o (sm_aload_n dX11_read_42 rfl))))) (mt_node_ok (mt_node_ok (mt_leaf_ok (en_o (sm_aload_n dX11_read_43 rfl))) (mt_leaf_ok ((⟨by decide, bg_774, bg_799, 66, 2, ⟨by decide, by decide, by decide +kernel⟩, bg_798, Or.inl ⟨dX11_read_44, rfl, rfl, bg_800⟩⟩ : mi_cal _ _ _ (mI 11) _ _)))) (mt_node_ok (mt_leaf_ok (en_o (sm_if_eq dX11_read_47 (by decide)))) (mt_leaf_ok (en_o (sm_aload_n dX11_read_50 rfl)))))) (mt_node_ok (mt_node_ok (mt_node_ok (mt_leaf_ok (en_o (sm_aload_n dX11_read_51 rfl))) (mt_leaf_ok (en_s (sm_put (T := TX11) (by decide) rfl bi_X11 tyX11_ok nmX11 (by decide) rfl (tyX11_ok 3 (by decide)) bg_801 dX11_read_52)))) (mt_node_ok (mt_leaf_ok (en_o (sm_aload_n dX11_read_55 rfl))) (mt_leaf_ok (en_o (sm_aload_n dX11_read_56 rfl))))) (mt_node_ok (mt_node_ok (mt_leaf_ok (en_o (sm_get (T := TX10) (by decide) rfl bi_X10 (by decide) bg_802 dX11_read_57))) (mt_leaf_ok (en_s (sm_put (T := TX11) (by decide) rfl bi_X11 tyX11_ok nmX11 (by decide) rfl (tyX11_ok 4 (by decide)) bg_764 dX11_read_60)))) (mt_node_ok (mt_leaf_ok (en_o (sm_aload_n dX11_read_63 rfl))) (mt_node_ok (mt_leaf_ok (en_o (sm_get (T := TX10) (by decide) rfl bi_X10 (by decide) bg_803 dX11_read_64))) (mt_leaf_ok (sr_int dX11_read_67)))))))
def mb_18 (g : xe_G) : Nat × mi_B := (3, mb_18_0 g, mk_leaf 55 [0, 2])
theorem mb_18_ok {g : xe_G} : mi_meth g mI (mI 18) (mb_18 g) := ⟨rfl, by decide, mb_18_0_ok⟩
theorem dX11_row_0 : decode cX11_row 0 = .ok (.iload_n 3, 1) := by decide +kernel
theorem dX11_row_1 : decode cX11_row 1 = .ok (.ifCond .lt 8, 3) := by decide +kernel
theorem dX11_row_4 : decode cX11_row 4 = .ok (.iload_n 3, 1) := by decide +kernel
theorem dX11_row_5 : decode cX11_row 5 = .ok (.iconst 3, 1) := by decide +kernel
theorem dX11_row_6 : decode cX11_row 6 = .ok (.if_icmp .le 13, 3) := by decide +kernel
theorem dX11_row_19 : decode cX11_row 19 = .ok (.aload_n 0, 1) := by decide +kernel
theorem dX11_row_20 : decode cX11_row 20 = .ok (.iload_n 1, 1) := by decide +kernel
theorem dX11_row_21 : decode cX11_row 21 = .ok (.invokevirtual 211, 3) := by decide +kernel
theorem dX11_row_24 : decode cX11_row 24 = .ok (.astore 4, 2) := by decide +kernel
theorem dX11_row_26 : decode cX11_row 26 = .ok (.aload 4, 2) := by decide +kernel
theorem dX11_row_28 : decode cX11_row 28 = .ok (.ifnull 16, 3) := by decide +kernel
theorem dX11_row_31 : decode cX11_row 31 = .ok (.iload_n 2, 1) := by decide +kernel
theorem dX11_row_32 : decode cX11_row 32 = .ok (.ifCond .lt 12, 3) := by decide +kernel
theorem dX11_row_35 : decode cX11_row 35 = .ok (.iload_n 2, 1) := by decide +kernel
theorem dX11_row_36 : decode cX11_row 36 = .ok (.aload 4, 2) := by decide +kernel
theorem dX11_row_38 : decode cX11_row 38 = .ok (.getfield 215, 3) := by decide +kernel
theorem dX11_row_41 : decode cX11_row 41 = .ok (.if_icmp .lt 5, 3) := by decide +kernel
theorem dX11_row_44 : decode cX11_row 44 = .ok (.iconst (-1), 1) := by decide +kernel
theorem dX11_row_45 : decode cX11_row 45 = .ok (.ireturn, 1) := by decide +kernel
theorem dX11_row_46 : decode cX11_row 46 = .ok (.aload_n 0, 1) := by decide +kernel
theorem dX11_row_47 : decode cX11_row 47 = .ok (.getfield 69, 3) := by decide +kernel
theorem dX11_row_50 : decode cX11_row 50 = .ok (.getfield 171, 3) := by decide +kernel
theorem dX11_row_53 : decode cX11_row 53 = .ok (.aload 4, 2) := by decide +kernel
theorem dX11_row_55 : decode cX11_row 55 = .ok (.getfield 220, 3) := by decide +kernel
theorem dX11_row_58 : decode cX11_row 58 = .ok (.bipush 8, 2) := by decide +kernel
theorem dX11_row_60 : decode cX11_row 60 = .ok (.iload_n 2, 1) := by decide +kernel
theorem dX11_row_61 : decode cX11_row 61 = .ok (.imul, 1) := by decide +kernel
theorem dX11_row_62 : decode cX11_row 62 = .ok (.iadd, 1) := by decide +kernel
theorem dX11_row_63 : decode cX11_row 63 = .ok (.iconst 2, 1) := by decide +kernel
theorem dX11_row_64 : decode cX11_row 64 = .ok (.iload_n 3, 1) := by decide +kernel
theorem dX11_row_65 : decode cX11_row 65 = .ok (.imul, 1) := by decide +kernel
theorem dX11_row_66 : decode cX11_row 66 = .ok (.iadd, 1) := by decide +kernel
theorem dX11_row_67 : decode cX11_row 67 = .ok (.invokevirtual 223, 3) := by decide +kernel
theorem dX11_row_70 : decode cX11_row 70 = .ok (.ireturn, 1) := by decide +kernel
def mb_19_0 (g : xe_G) : Nat → Option mi_N := mt_node 41 (mt_node 21 (mt_node 5 (mt_node 1 (mt_node 0 (mt_leaf 0 (.inl (o_iload 3 1))) (mt_leaf 1 (.inl (o_if (fun x => decide (x < 0)) 9)))) (mt_node 4 (mt_leaf 4 (.inl (o_iload 3 1))) (mt_leaf 5 (.inl (o_push (.int 3) 1))))) (mt_node 19 (mt_node 6 (mt_leaf 6 (.inl (o_if2 (fun x y => decide (x ≤ y)) 19))) (mt_leaf 19 (.inl (o_aload 0 1)))) (mt_node 20 (mt_leaf 20 (.inl (o_iload 1 1))) (mt_leaf 21 (.inr (.inl (4, 2, some 11))))))) (mt_node 31 (mt_node 26 (mt_node 24 (mt_leaf 24 (.inl (o_asto 4 2))) (mt_leaf 26 (.inl (o_aload 4 2)))) (mt_node 28 (mt_leaf 28 (.inl (o_null 31 44))) (mt_leaf 31 (.inl (o_iload 2 1))))) (mt_node 35 (mt_node 32 (mt_leaf 32 (.inl (o_if (fun x => decide (x < 0)) 44))) (mt_leaf 35 (.inl (o_iload 2 1)))) (mt_node 36 (mt_leaf 36 (.inl (o_aload 4 2))) (mt_node 38 (mt_leaf 38 (.inl (o_get 4 4))) (mt_leaf 41 (.inl (o_if2 (fun x y => decide (x < y)) 46)))))))) (mt_node 58 (mt_node 47 (mt_node 45 (mt_node 44 (mt_leaf 44 (.inl (o_push (.int (-1)) 1))) (mt_leaf 45 (.inr (.inr (r_int (fun _ => true)))))) (mt_node 46 (mt_leaf 46 (.inl (o_aload 0 1))) (mt_leaf 47 (.inl (o_get 11 3))))) (mt_node 53 (mt_node 50 (mt_leaf 50 (.inl (o_get 3 0))) (mt_leaf 53 (.inl (o_aload 4 2)))) (mt_node 55 (mt_leaf 55 (.inl (o_get 4 3))) (mt_leaf 58 (.inl (o_push (.int 8) 2)))))) (mt_node 63 (mt_node 61 (mt_node 60 (mt_leaf 60 (.inl (o_iload 2 1))) (mt_leaf 61 (.inl (o_bin (fun x y => x * y) 1)))) (mt_node 62 (mt_leaf 62 (.inl (o_bin (fun x y => x + y) 1))) (mt_leaf 63 (.inl (o_push (.int 2) 1))))) (mt_node 65 (mt_node 64 (mt_leaf 64 (.inl (o_iload 3 1))) (mt_leaf 65 (.inl (o_bin (fun x y => x * y) 1)))) (mt_node 66 (mt_leaf 66 (.inl (o_bin (fun x y => x + y) 1))) (mt_node 67 (mt_leaf 67 (.inr (.inl (49, 2, some 1)))) (mt_leaf 70 (.inr (.inr (r_int (fun _ => true))))))))))
theorem mb_19_0_ok {g : xe_G} : mt_all (mi_ent g mI (mI 19)) (mb_19_0 g) := mt_node_ok (mt_node_ok (mt_node_ok (mt_node_ok (mt_node_ok (mt_leaf_ok (en_o (sm_iload_n dX11_row_0 rfl))) (mt_leaf_ok (en_o (sm_if_lt dX11_row_1 (by decide))))) (mt_node_ok (mt_leaf_ok (en_o (sm_iload_n dX11_row_4 rfl))) (mt_leaf_ok (en_o (sm_iconst dX11_row_5 rfl))))) (mt_node_ok (mt_node_ok (mt_leaf_ok (en_o (sm_icmp_le dX11_row_6 (by decide)))) (mt_leaf_ok (en_o (sm_aload_n dX11_row_19 rfl)))) (mt_node_ok (mt_leaf_ok (en_o (sm_iload_n dX11_row_20 rfl))) (mt_leaf_ok ((⟨by decide, bg_774, bg_896, 211, 1, ⟨by decide, by decide, by decide +kernel⟩, bg_895, Or.inr ⟨rfl, bg_897, 11, _, rfl, by decide, rfl, Or.inl ⟨dX11_row_21, bg_898⟩⟩⟩ : mi_cal _ _ _ (mI 4) _ _)))))) (mt_node_ok (mt_node_ok (mt_node_ok (mt_leaf_ok (en_s (sm_astore dX11_row_24 (by decide)))) (mt_leaf_ok (en_o (sm_aload dX11_row_26)))) (mt_node_ok (mt_leaf_ok (en_o (sm_ifnull dX11_row_28 (by decide)))) (mt_leaf_ok (en_o (sm_iload_n dX11_row_31 rfl))))) (mt_node_ok (mt_node_ok (mt_leaf_ok (en_o (sm_if_lt dX11_row_32 (by decide)))) (mt_leaf_ok (en_o (sm_iload_n dX11_row_35 rfl)))) (mt_node_ok (mt_leaf_ok (en_o (sm_aload dX11_row_36))) (mt_node_ok (mt_leaf_ok (en_o (sm_get (T := TX4) (by decide) rfl bi_X4 (by decide) bg_899 dX11_row_38))) (mt_leaf_ok (en_o (sm_icmp_lt dX11_row_41 (by decide))))))))) (mt_node_ok (mt_node_ok (mt_node_ok (mt_node_ok (mt_leaf_ok (en_o (sm_iconst dX11_row_44 rfl))) (mt_leaf_ok (sr_int dX11_row_45))) (mt_node_ok (mt_leaf_ok (en_o (sm_aload_n dX11_row_46 rfl))) (mt_leaf_ok (en_o (sm_get (T := TX11) (by decide) rfl bi_X11 (by decide) bg_801 dX11_row_47))))) (mt_node_ok (mt_node_ok (mt_leaf_ok (en_o (sm_get (T := TX3) (by decide) rfl bi_X3 (by decide) bg_876 dX11_row_50))) (mt_leaf_ok (en_o (sm_aload dX11_row_53)))) (mt_node_ok (mt_leaf_ok (en_o (sm_get (T := TX4) (by decide) rfl bi_X4 (by decide) bg_900 dX11_row_55))) (mt_leaf_ok (en_o (sm_bipush dX11_row_58 rfl)))))) (mt_node_ok (mt_node_ok (mt_node_ok (mt_leaf_ok (en_o (sm_iload_n dX11_row_60 rfl))) (mt_leaf_ok (en_o (sm_imul dX11_row_61)))) (mt_node_ok (mt_leaf_ok (en_o (sm_iadd dX11_row_62))) (mt_leaf_ok (en_o (sm_iconst dX11_row_63 rfl))))) (mt_node_ok (mt_node_ok (mt_leaf_ok (en_o (sm_iload_n dX11_row_64 rfl))) (mt_leaf_ok (en_o (sm_imul dX11_row_65)))) (mt_node_ok (mt_leaf_ok (en_o (sm_iadd dX11_row_66))) (mt_node_ok (mt_leaf_ok ((⟨by decide, bg_18, bg_15, 223, 1, ⟨by decide, by decide, by decide +kernel⟩, bg_901, Or.inr ⟨rfl, bg_16, 1, _, rfl, by decide, rfl, Or.inl ⟨dX11_row_67, bg_17⟩⟩⟩ : mi_cal _ _ _ (mI 49) _ _))) (mt_leaf_ok (sr_int dX11_row_70)))))))
def mb_19 (g : xe_G) : Nat × mi_B := (5, mb_19_0 g, mk_leaf 44 [])
theorem mb_19_ok {g : xe_G} : mi_meth g mI (mI 19) (mb_19 g) := ⟨rfl, by decide, mb_19_0_ok⟩
theorem dX11_takeWord_0 : decode cX11_takeWord 0 = .ok (.aload_n 0, 1) := by decide +kernel
theorem dX11_takeWord_1 : decode cX11_takeWord 1 = .ok (.getfield 9, 3) := by decide +kernel
theorem dX11_takeWord_4 : decode cX11_takeWord 4 = .ok (.arraylength, 1) := by decide +kernel
theorem dX11_takeWord_5 : decode cX11_takeWord 5 = .ok (.aload_n 0, 1) := by decide +kernel
theorem dX11_takeWord_6 : decode cX11_takeWord 6 = .ok (.getfield 23, 3) := by decide +kernel
theorem dX11_takeWord_9 : decode cX11_takeWord 9 = .ok (.isub, 1) := by decide +kernel
theorem dX11_takeWord_10 : decode cX11_takeWord 10 = .ok (.iconst 4, 1) := by decide +kernel
theorem dX11_takeWord_11 : decode cX11_takeWord 11 = .ok (.if_icmp .ge 21, 3) := by decide +kernel
theorem dX11_takeWord_14 : decode cX11_takeWord 14 = .ok (.aload_n 0, 1) := by decide +kernel
theorem dX11_takeWord_15 : decode cX11_takeWord 15 = .ok (.aload_n 0, 1) := by decide +kernel
theorem dX11_takeWord_16 : decode cX11_takeWord 16 = .ok (.getfield 9, 3) := by decide +kernel
theorem dX11_takeWord_19 : decode cX11_takeWord 19 = .ok (.aload_n 0, 1) := by decide +kernel
theorem dX11_takeWord_20 : decode cX11_takeWord 20 = .ok (.getfield 9, 3) := by decide +kernel
theorem dX11_takeWord_23 : decode cX11_takeWord 23 = .ok (.arraylength, 1) := by decide +kernel
theorem dX11_takeWord_24 : decode cX11_takeWord 24 = .ok (.iconst 2, 1) := by decide +kernel
theorem dX11_takeWord_25 : decode cX11_takeWord 25 = .ok (.imul, 1) := by decide +kernel
theorem dX11_takeWord_26 : decode cX11_takeWord 26 = .ok (.invokestatic 38, 3) := by decide +kernel
theorem dX11_takeWord_29 : decode cX11_takeWord 29 = .ok (.putfield 9, 3) := by decide +kernel
theorem dX11_takeWord_32 : decode cX11_takeWord 32 = .ok (.aload_n 0, 1) := by decide +kernel
theorem dX11_takeWord_33 : decode cX11_takeWord 33 = .ok (.getfield 9, 3) := by decide +kernel
theorem dX11_takeWord_36 : decode cX11_takeWord 36 = .ok (.aload_n 0, 1) := by decide +kernel
theorem dX11_takeWord_37 : decode cX11_takeWord 37 = .ok (.getfield 23, 3) := by decide +kernel
theorem dX11_takeWord_40 : decode cX11_takeWord 40 = .ok (.iload_n 1, 1) := by decide +kernel
theorem dX11_takeWord_41 : decode cX11_takeWord 41 = .ok (.bipush 24, 2) := by decide +kernel
theorem dX11_takeWord_43 : decode cX11_takeWord 43 = .ok (.iushr, 1) := by decide +kernel
theorem dX11_takeWord_44 : decode cX11_takeWord 44 = .ok (.i2b, 1) := by decide +kernel
theorem dX11_takeWord_45 : decode cX11_takeWord 45 = .ok (.bastore, 1) := by decide +kernel
theorem dX11_takeWord_46 : decode cX11_takeWord 46 = .ok (.aload_n 0, 1) := by decide +kernel
theorem dX11_takeWord_47 : decode cX11_takeWord 47 = .ok (.getfield 9, 3) := by decide +kernel
theorem dX11_takeWord_50 : decode cX11_takeWord 50 = .ok (.aload_n 0, 1) := by decide +kernel
theorem dX11_takeWord_51 : decode cX11_takeWord 51 = .ok (.getfield 23, 3) := by decide +kernel
theorem dX11_takeWord_54 : decode cX11_takeWord 54 = .ok (.iconst 1, 1) := by decide +kernel
theorem dX11_takeWord_55 : decode cX11_takeWord 55 = .ok (.iadd, 1) := by decide +kernel
theorem dX11_takeWord_56 : decode cX11_takeWord 56 = .ok (.iload_n 1, 1) := by decide +kernel
theorem dX11_takeWord_57 : decode cX11_takeWord 57 = .ok (.bipush 16, 2) := by decide +kernel
theorem dX11_takeWord_59 : decode cX11_takeWord 59 = .ok (.iushr, 1) := by decide +kernel
theorem dX11_takeWord_60 : decode cX11_takeWord 60 = .ok (.i2b, 1) := by decide +kernel
theorem dX11_takeWord_61 : decode cX11_takeWord 61 = .ok (.bastore, 1) := by decide +kernel
theorem dX11_takeWord_62 : decode cX11_takeWord 62 = .ok (.aload_n 0, 1) := by decide +kernel
theorem dX11_takeWord_63 : decode cX11_takeWord 63 = .ok (.getfield 9, 3) := by decide +kernel
theorem dX11_takeWord_66 : decode cX11_takeWord 66 = .ok (.aload_n 0, 1) := by decide +kernel
theorem dX11_takeWord_67 : decode cX11_takeWord 67 = .ok (.getfield 23, 3) := by decide +kernel
theorem dX11_takeWord_70 : decode cX11_takeWord 70 = .ok (.iconst 2, 1) := by decide +kernel
theorem dX11_takeWord_71 : decode cX11_takeWord 71 = .ok (.iadd, 1) := by decide +kernel
theorem dX11_takeWord_72 : decode cX11_takeWord 72 = .ok (.iload_n 1, 1) := by decide +kernel
theorem dX11_takeWord_73 : decode cX11_takeWord 73 = .ok (.bipush 8, 2) := by decide +kernel
theorem dX11_takeWord_75 : decode cX11_takeWord 75 = .ok (.iushr, 1) := by decide +kernel
theorem dX11_takeWord_76 : decode cX11_takeWord 76 = .ok (.i2b, 1) := by decide +kernel
theorem dX11_takeWord_77 : decode cX11_takeWord 77 = .ok (.bastore, 1) := by decide +kernel
theorem dX11_takeWord_78 : decode cX11_takeWord 78 = .ok (.aload_n 0, 1) := by decide +kernel
theorem dX11_takeWord_79 : decode cX11_takeWord 79 = .ok (.getfield 9, 3) := by decide +kernel
theorem dX11_takeWord_82 : decode cX11_takeWord 82 = .ok (.aload_n 0, 1) := by decide +kernel
theorem dX11_takeWord_83 : decode cX11_takeWord 83 = .ok (.getfield 23, 3) := by decide +kernel
theorem dX11_takeWord_86 : decode cX11_takeWord 86 = .ok (.iconst 3, 1) := by decide +kernel
theorem dX11_takeWord_87 : decode cX11_takeWord 87 = .ok (.iadd, 1) := by decide +kernel
theorem dX11_takeWord_88 : decode cX11_takeWord 88 = .ok (.iload_n 1, 1) := by decide +kernel
theorem dX11_takeWord_89 : decode cX11_takeWord 89 = .ok (.i2b, 1) := by decide +kernel
theorem dX11_takeWord_90 : decode cX11_takeWord 90 = .ok (.bastore, 1) := by decide +kernel
theorem dX11_takeWord_91 : decode cX11_takeWord 91 = .ok (.aload_n 0, 1) := by decide +kernel
theorem dX11_takeWord_92 : decode cX11_takeWord 92 = .ok (.dup, 1) := by decide +kernel
theorem dX11_takeWord_93 : decode cX11_takeWord 93 = .ok (.getfield 23, 3) := by decide +kernel
theorem dX11_takeWord_96 : decode cX11_takeWord 96 = .ok (.iconst 4, 1) := by decide +kernel
theorem dX11_takeWord_97 : decode cX11_takeWord 97 = .ok (.iadd, 1) := by decide +kernel
theorem dX11_takeWord_98 : decode cX11_takeWord 98 = .ok (.putfield 23, 3) := by decide +kernel
theorem dX11_takeWord_101 : decode cX11_takeWord 101 = .ok (.return_, 1) := by decide +kernel
def mb_20_0 (g : xe_G) : Nat → Option mi_N := mt_node 41 (mt_node 19 (mt_node 9 (mt_node 4 (mt_node 0 (mt_leaf 0 (.inl (o_aload 0 1))) (mt_node 1 (mt_leaf 1 (.inl (o_get 11 0))) (mt_leaf 4 (.inl (o_alen .byte))))) (mt_node 5 (mt_leaf 5 (.inl (o_aload 0 1))) (mt_node 6 (mt_leaf 6 (.inl (o_get 11 1))) (mt_leaf 9 (.inl (o_bin (fun x y => x - y) 1)))))) (mt_node 14 (mt_node 10 (mt_leaf 10 (.inl (o_push (.int 4) 1))) (mt_node 11 (mt_leaf 11 (.inl (o_if2 (fun x y => decide (y ≤ x)) 32))) (mt_leaf 14 (.inl (o_aload 0 1))))) (mt_node 15 (mt_leaf 15 (.inl (o_aload 0 1))) (mt_node 16 (mt_leaf 16 (.inl (o_get 11 0))) (mt_leaf 19 (.inl (o_aload 0 1))))))) (mt_node 29 (mt_node 24 (mt_node 20 (mt_leaf 20 (.inl (o_get 11 0))) (mt_node 23 (mt_leaf 23 (.inl (o_alen .byte))) (mt_leaf 24 (.inl (o_push (.int 2) 1))))) (mt_node 25 (mt_leaf 25 (.inl (o_bin (fun x y => x * y) 1))) (mt_node 26 (mt_leaf 26 (.inr (.inl (259, 2, none)))) (mt_leaf 29 (.inl (o_put 11 0 (tyX11 0))))))) (mt_node 36 (mt_node 32 (mt_leaf 32 (.inl (o_aload 0 1))) (mt_node 33 (mt_leaf 33 (.inl (o_get 11 0))) (mt_leaf 36 (.inl (o_aload 0 1))))) (mt_node 37 (mt_leaf 37 (.inl (o_get 11 1))) (mt_node 40 (mt_leaf 40 (.inl (o_iload 1 1))) (mt_leaf 41 (.inl (o_push (.int 24) 2)))))))) (mt_node 59 (mt_node 50 (mt_node 45 (mt_node 43 (mt_leaf 43 (.inl (o_bin (fun x y => (x.toUInt32 >>> (y.toUInt32 &&& Int32.toUInt32 31)).toInt32) 1))) (mt_node 44 (mt_leaf 44 (.inl (o_un (fun x => x.toInt8.toInt32)))) (mt_leaf 45 (.inl (o_ast .byte (vp_nar .byte)))))) (mt_node 46 (mt_leaf 46 (.inl (o_aload 0 1))) (mt_node 47 (mt_leaf 47 (.inl (o_get 11 0))) (mt_leaf 50 (.inl (o_aload 0 1)))))) (mt_node 55 (mt_node 51 (mt_leaf 51 (.inl (o_get 11 1))) (mt_node 54 (mt_leaf 54 (.inl (o_push (.int 1) 1))) (mt_leaf 55 (.inl (o_bin (fun x y => x + y) 1))))) (mt_node 56 (mt_leaf 56 (.inl (o_iload 1 1))) (mt_node 57 (mt_leaf 57 (.inl (o_push (.int 16) 2))) (mt_leaf 59 (.inl (o_bin (fun x y => (x.toUInt32 >>> (y.toUInt32 &&& Int32.toUInt32 31)).toInt32) 1))))))) (mt_node 67 (mt_node 62 (mt_node 60 (mt_leaf 60 (.inl (o_un (fun x => x.toInt8.toInt32)))) (mt_node 61 (mt_leaf 61 (.inl (o_ast .byte (vp_nar .byte)))) (mt_leaf 62 (.inl (o_aload 0 1))))) (mt_node 63 (mt_leaf 63 (.inl (o_get 11 0))) (mt_node 66 (mt_leaf 66 (.inl (o_aload 0 1))) (mt_leaf 67 (.inl (o_get 11 1)))))) (mt_node 72 (mt_node 70 (mt_leaf 70 (.inl (o_push (.int 2) 1))) (mt_node 71 (mt_leaf 71 (.inl (o_bin (fun x y => x + y) 1))) (mt_leaf 72 (.inl (o_iload 1 1))))) (mt_node 73 (mt_leaf 73 (.inl (o_push (.int 8) 2))) (mt_node 75 (mt_leaf 75 (.inl (o_bin (fun x y => (x.toUInt32 >>> (y.toUInt32 &&& Int32.toUInt32 31)).toInt32) 1))) (mt_leaf 76 (.inl (o_un (fun x => x.toInt8.toInt32)))))))))
theorem mb_20_0_ok {g : xe_G} : mt_all (mi_ent g mI (mI 20)) (mb_20_0 g) := mt_node_ok (mt_node_ok (mt_node_ok (mt_node_ok (mt_node_ok (mt_leaf_ok (en_o (sm_aload_n dX11_takeWord_0 rfl))) (mt_node_ok (mt_leaf_ok (en_o (sm_get (T := TX11) (by decide) rfl bi_X11 (by decide) bg_761 dX11_takeWord_1))) (mt_leaf_ok (en_o (sm_alen dX11_takeWord_4))))) (mt_node_ok (mt_leaf_ok (en_o (sm_aload_n dX11_takeWord_5 rfl))) (mt_node_ok (mt_leaf_ok (en_o (sm_get (T := TX11) (by decide) rfl bi_X11 (by decide) bg_766 dX11_takeWord_6))) (mt_leaf_ok (en_o (sm_isub dX11_takeWord_9)))))) (mt_node_ok (mt_node_ok (mt_leaf_ok (en_o (sm_iconst dX11_takeWord_10 rfl))) (mt_node_ok (mt_leaf_ok (en_o (sm_icmp_ge dX11_takeWord_11 (by decide)))) (mt_leaf_ok (en_o (sm_aload_n dX11_takeWord_14 rfl))))) (mt_node_ok (mt_leaf_ok (en_o (sm_aload_n dX11_takeWord_15 rfl))) (mt_node_ok (mt_leaf_ok (en_o (sm_get (T := TX11) (by decide) rfl bi_X11 (by decide) bg_761 dX11_takeWord_16))) (mt_leaf_ok (en_o (sm_aload_n dX11_takeWord_19 rfl))))))) (mt_node_ok (mt_node_ok (mt_node_ok (mt_leaf_ok (en_o (sm_get (T := TX11) (by decide) rfl bi_X11 (by decide) bg_761 dX11_takeWord_20))) (mt_node_ok (mt_leaf_ok (en_o (sm_alen dX11_takeWord_23))) (mt_leaf_ok (en_o (sm_iconst dX11_takeWord_24 rfl))))) (mt_node_ok (mt_leaf_ok (en_o (sm_imul dX11_takeWord_25))) (mt_node_ok (mt_leaf_ok ((⟨by decide, bg_778, bg_776, 38, 2, ⟨by decide, by decide, by decide +kernel⟩, bg_775, Or.inl ⟨dX11_takeWord_26, rfl, rfl, bg_777⟩⟩ : mi_cal _ _ _ (mI 259) _ _))) (mt_leaf_ok (en_s (sm_put (T := TX11) (by decide) rfl bi_X11 tyX11_ok nmX11 (by decide) rfl (tyX11_ok 0 (by decide)) bg_761 dX11_takeWord_29)))))) (mt_node_ok (mt_node_ok (mt_leaf_ok (en_o (sm_aload_n dX11_takeWord_32 rfl))) (mt_node_ok (mt_leaf_ok (en_o (sm_get (T := TX11) (by decide) rfl bi_X11 (by decide) bg_761 dX11_takeWord_33))) (mt_leaf_ok (en_o (sm_aload_n dX11_takeWord_36 rfl))))) (mt_node_ok (mt_leaf_ok (en_o (sm_get (T := TX11) (by decide) rfl bi_X11 (by decide) bg_766 dX11_takeWord_37))) (mt_node_ok (mt_leaf_ok (en_o (sm_iload_n dX11_takeWord_40 rfl))) (mt_leaf_ok (en_o (sm_bipush dX11_takeWord_41 rfl)))))))) (mt_node_ok (mt_node_ok (mt_node_ok (mt_node_ok (mt_leaf_ok (en_o (sm_iushr dX11_takeWord_43))) (mt_node_ok (mt_leaf_ok (en_o (sm_i2b dX11_takeWord_44))) (mt_leaf_ok (en_s (sm_bast dX11_takeWord_45))))) (mt_node_ok (mt_leaf_ok (en_o (sm_aload_n dX11_takeWord_46 rfl))) (mt_node_ok (mt_leaf_ok (en_o (sm_get (T := TX11) (by decide) rfl bi_X11 (by decide) bg_761 dX11_takeWord_47))) (mt_leaf_ok (en_o (sm_aload_n dX11_takeWord_50 rfl)))))) (mt_node_ok (mt_node_ok (mt_leaf_ok (en_o (sm_get (T := TX11) (by decide) rfl bi_X11 (by decide) bg_766 dX11_takeWord_51))) (mt_node_ok (mt_leaf_ok (en_o (sm_iconst dX11_takeWord_54 rfl))) (mt_leaf_ok (en_o (sm_iadd dX11_takeWord_55))))) (mt_node_ok (mt_leaf_ok (en_o (sm_iload_n dX11_takeWord_56 rfl))) (mt_node_ok (mt_leaf_ok (en_o (sm_bipush dX11_takeWord_57 rfl))) (mt_leaf_ok (en_o (sm_iushr dX11_takeWord_59))))))) (mt_node_ok (mt_node_ok (mt_node_ok (mt_leaf_ok (en_o (sm_i2b dX11_takeWord_60))) (mt_node_ok (mt_leaf_ok (en_s (sm_bast dX11_takeWord_61))) (mt_leaf_ok (en_o (sm_aload_n dX11_takeWord_62 rfl))))) (mt_node_ok (mt_leaf_ok (en_o (sm_get (T := TX11) (by decide) rfl bi_X11 (by decide) bg_761 dX11_takeWord_63))) (mt_node_ok (mt_leaf_ok (en_o (sm_aload_n dX11_takeWord_66 rfl))) (mt_leaf_ok (en_o (sm_get (T := TX11) (by decide) rfl bi_X11 (by decide) bg_766 dX11_takeWord_67)))))) (mt_node_ok (mt_node_ok (mt_leaf_ok (en_o (sm_iconst dX11_takeWord_70 rfl))) (mt_node_ok (mt_leaf_ok (en_o (sm_iadd dX11_takeWord_71))) (mt_leaf_ok (en_o (sm_iload_n dX11_takeWord_72 rfl))))) (mt_node_ok (mt_leaf_ok (en_o (sm_bipush dX11_takeWord_73 rfl))) (mt_node_ok (mt_leaf_ok (en_o (sm_iushr dX11_takeWord_75))) (mt_leaf_ok (en_o (sm_i2b dX11_takeWord_76))))))))
def mb_20_1 (g : xe_G) : Nat → Option mi_N := mt_node 88 (mt_node 82 (mt_node 78 (mt_node 77 (mt_leaf 77 (.inl (o_ast .byte (vp_nar .byte)))) (mt_leaf 78 (.inl (o_aload 0 1)))) (mt_node 79 (mt_leaf 79 (.inl (o_get 11 0))) (mt_leaf 82 (.inl (o_aload 0 1))))) (mt_node 86 (mt_node 83 (mt_leaf 83 (.inl (o_get 11 1))) (mt_leaf 86 (.inl (o_push (.int 3) 1)))) (mt_node 87 (mt_leaf 87 (.inl (o_bin (fun x y => x + y) 1))) (mt_leaf 88 (.inl (o_iload 1 1)))))) (mt_node 92 (mt_node 90 (mt_node 89 (mt_leaf 89 (.inl (o_un (fun x => x.toInt8.toInt32)))) (mt_leaf 90 (.inl (o_ast .byte (vp_nar .byte))))) (mt_node 91 (mt_leaf 91 (.inl (o_aload 0 1))) (mt_leaf 92 (.inl (o_dup))))) (mt_node 96 (mt_node 93 (mt_leaf 93 (.inl (o_get 11 1))) (mt_leaf 96 (.inl (o_push (.int 4) 1)))) (mt_node 97 (mt_leaf 97 (.inl (o_bin (fun x y => x + y) 1))) (mt_node 98 (mt_leaf 98 (.inl (o_put 11 1 (tyX11 1)))) (mt_leaf 101 (.inr (.inr r_void)))))))
theorem mb_20_1_ok {g : xe_G} : mt_all (mi_ent g mI (mI 20)) (mb_20_1 g) := mt_node_ok (mt_node_ok (mt_node_ok (mt_node_ok (mt_leaf_ok (en_s (sm_bast dX11_takeWord_77))) (mt_leaf_ok (en_o (sm_aload_n dX11_takeWord_78 rfl)))) (mt_node_ok (mt_leaf_ok (en_o (sm_get (T := TX11) (by decide) rfl bi_X11 (by decide) bg_761 dX11_takeWord_79))) (mt_leaf_ok (en_o (sm_aload_n dX11_takeWord_82 rfl))))) (mt_node_ok (mt_node_ok (mt_leaf_ok (en_o (sm_get (T := TX11) (by decide) rfl bi_X11 (by decide) bg_766 dX11_takeWord_83))) (mt_leaf_ok (en_o (sm_iconst dX11_takeWord_86 rfl)))) (mt_node_ok (mt_leaf_ok (en_o (sm_iadd dX11_takeWord_87))) (mt_leaf_ok (en_o (sm_iload_n dX11_takeWord_88 rfl)))))) (mt_node_ok (mt_node_ok (mt_node_ok (mt_leaf_ok (en_o (sm_i2b dX11_takeWord_89))) (mt_leaf_ok (en_s (sm_bast dX11_takeWord_90)))) (mt_node_ok (mt_leaf_ok (en_o (sm_aload_n dX11_takeWord_91 rfl))) (mt_leaf_ok (en_o (sm_dup dX11_takeWord_92))))) (mt_node_ok (mt_node_ok (mt_leaf_ok (en_o (sm_get (T := TX11) (by decide) rfl bi_X11 (by decide) bg_766 dX11_takeWord_93))) (mt_leaf_ok (en_o (sm_iconst dX11_takeWord_96 rfl)))) (mt_node_ok (mt_leaf_ok (en_o (sm_iadd dX11_takeWord_97))) (mt_node_ok (mt_leaf_ok (en_s (sm_put (T := TX11) (by decide) rfl bi_X11 tyX11_ok nmX11 (by decide) rfl (tyX11_ok 1 (by decide)) bg_766 dX11_takeWord_98))) (mt_leaf_ok (sr_void dX11_takeWord_101))))))
def mb_20 (g : xe_G) : Nat × mi_B := (2, mt_node 76 (mb_20_0 g) (mb_20_1 g), mk_leaf 32 [0, 1])
theorem mb_20_ok {g : xe_G} : mi_meth g mI (mI 20) (mb_20 g) := ⟨rfl, by decide, mt_node_ok (mb_20_0_ok) (mb_20_1_ok)⟩
theorem dX0_init_0 : decode cX0_init 0 = .ok (.aload_n 0, 1) := by decide +kernel
theorem dX0_init_1 : decode cX0_init 1 = .ok (.invokespecial 3, 3) := by decide +kernel
theorem dX0_init_4 : decode cX0_init 4 = .ok (.aload_n 0, 1) := by decide +kernel
theorem dX0_init_5 : decode cX0_init 5 = .ok (.aload_n 1, 1) := by decide +kernel
theorem dX0_init_6 : decode cX0_init 6 = .ok (.putfield 9, 3) := by decide +kernel
theorem dX0_init_9 : decode cX0_init 9 = .ok (.aload_n 0, 1) := by decide +kernel
theorem dX0_init_10 : decode cX0_init 10 = .ok (.aload_n 2, 1) := by decide +kernel
theorem dX0_init_11 : decode cX0_init 11 = .ok (.putfield 15, 3) := by decide +kernel
theorem dX0_init_14 : decode cX0_init 14 = .ok (.aload_n 0, 1) := by decide +kernel
theorem dX0_init_15 : decode cX0_init 15 = .ok (.aload_n 1, 1) := by decide +kernel
theorem dX0_init_16 : decode cX0_init 16 = .ok (.getfield 19, 3) := by decide +kernel
theorem dX0_init_19 : decode cX0_init 19 = .ok (.putfield 25, 3) := by decide +kernel
theorem dX0_init_22 : decode cX0_init 22 = .ok (.aload_n 0, 1) := by decide +kernel
theorem dX0_init_23 : decode cX0_init 23 = .ok (.aload_n 1, 1) := by decide +kernel
theorem dX0_init_24 : decode cX0_init 24 = .ok (.getfield 26, 3) := by decide +kernel
theorem dX0_init_27 : decode cX0_init 27 = .ok (.putfield 30, 3) := by decide +kernel
theorem dX0_init_30 : decode cX0_init 30 = .ok (.return_, 1) := by decide +kernel
def mb_21_0 (g : xe_G) : Nat → Option mi_N := mt_node 11 (mt_node 5 (mt_node 1 (mt_node 0 (mt_leaf 0 (.inl (o_aload 0 1))) (mt_leaf 1 (.inl (o_drop 3)))) (mt_node 4 (mt_leaf 4 (.inl (o_aload 0 1))) (mt_leaf 5 (.inl (o_aload 1 1))))) (mt_node 9 (mt_node 6 (mt_leaf 6 (.inl (o_put 0 0 (tyX0 0)))) (mt_leaf 9 (.inl (o_aload 0 1)))) (mt_node 10 (mt_leaf 10 (.inl (o_aload 2 1))) (mt_leaf 11 (.inl (o_put 0 3 (tyX0 3))))))) (mt_node 19 (mt_node 15 (mt_node 14 (mt_leaf 14 (.inl (o_aload 0 1))) (mt_leaf 15 (.inl (o_aload 1 1)))) (mt_node 16 (mt_leaf 16 (.inl (o_get 3 0))) (mt_leaf 19 (.inl (o_put 0 1 (tyX0 1)))))) (mt_node 23 (mt_node 22 (mt_leaf 22 (.inl (o_aload 0 1))) (mt_leaf 23 (.inl (o_aload 1 1)))) (mt_node 24 (mt_leaf 24 (.inl (o_get 3 1))) (mt_node 27 (mt_leaf 27 (.inl (o_put 0 2 (tyX0 2)))) (mt_leaf 30 (.inr (.inr r_void)))))))
theorem mb_21_0_ok {g : xe_G} : mt_all (mi_ent g mI (mI 21)) (mb_21_0 g) := mt_node_ok (mt_node_ok (mt_node_ok (mt_node_ok (mt_leaf_ok (en_o (sm_aload_n dX0_init_0 rfl))) (mt_leaf_ok (en_o (sm_obj bg_1 bg_3 bg_2 dX0_init_1)))) (mt_node_ok (mt_leaf_ok (en_o (sm_aload_n dX0_init_4 rfl))) (mt_leaf_ok (en_o (sm_aload_n dX0_init_5 rfl))))) (mt_node_ok (mt_node_ok (mt_leaf_ok (en_s (sm_putF (T := TX0) (by decide) rfl bi_X0 tyX0_ok nmX0 (by decide) rfl rfl rfl (tyX0_ok 0 (by decide)) bg_4 dX0_init_6))) (mt_leaf_ok (en_o (sm_aload_n dX0_init_9 rfl)))) (mt_node_ok (mt_leaf_ok (en_o (sm_aload_n dX0_init_10 rfl))) (mt_leaf_ok (en_s (sm_putF (T := TX0) (by decide) rfl bi_X0 tyX0_ok nmX0 (by decide) rfl rfl rfl (tyX0_ok 3 (by decide)) bg_5 dX0_init_11)))))) (mt_node_ok (mt_node_ok (mt_node_ok (mt_leaf_ok (en_o (sm_aload_n dX0_init_14 rfl))) (mt_leaf_ok (en_o (sm_aload_n dX0_init_15 rfl)))) (mt_node_ok (mt_leaf_ok (en_o (sm_get (T := TX3) (by decide) rfl bi_X3 (by decide) bg_6 dX0_init_16))) (mt_leaf_ok (en_s (sm_putF (T := TX0) (by decide) rfl bi_X0 tyX0_ok nmX0 (by decide) rfl rfl rfl (tyX0_ok 1 (by decide)) bg_7 dX0_init_19))))) (mt_node_ok (mt_node_ok (mt_leaf_ok (en_o (sm_aload_n dX0_init_22 rfl))) (mt_leaf_ok (en_o (sm_aload_n dX0_init_23 rfl)))) (mt_node_ok (mt_leaf_ok (en_o (sm_get (T := TX3) (by decide) rfl bi_X3 (by decide) bg_8 dX0_init_24))) (mt_node_ok (mt_leaf_ok (en_s (sm_putF (T := TX0) (by decide) rfl bi_X0 tyX0_ok nmX0 (by decide) rfl rfl rfl (tyX0_ok 2 (by decide)) bg_9 dX0_init_27))) (mt_leaf_ok (sr_void dX0_init_30))))))
def mb_21 (g : xe_G) : Nat × mi_B := (3, mb_21_0 g, fun _ => none)
theorem mb_21_ok {g : xe_G} : mi_meth g mI (mI 21) (mb_21 g) := ⟨rfl, by decide, mb_21_0_ok⟩
theorem dX0_areClasses_0 : decode cX0_areClasses 0 = .ok (.aload_n 0, 1) := by decide +kernel
theorem dX0_areClasses_1 : decode cX0_areClasses 1 = .ok (.getfield 25, 3) := by decide +kernel
theorem dX0_areClasses_4 : decode cX0_areClasses 4 = .ok (.iload_n 1, 1) := by decide +kernel
theorem dX0_areClasses_5 : decode cX0_areClasses 5 = .ok (.bipush 6, 2) := by decide +kernel
theorem dX0_areClasses_7 : decode cX0_areClasses 7 = .ok (.iadd, 1) := by decide +kernel
theorem dX0_areClasses_8 : decode cX0_areClasses 8 = .ok (.invokevirtual 43, 3) := by decide +kernel
theorem dX0_areClasses_11 : decode cX0_areClasses 11 = .ok (.istore_n 2, 1) := by decide +kernel
theorem dX0_areClasses_12 : decode cX0_areClasses 12 = .ok (.iconst 0, 1) := by decide +kernel
theorem dX0_areClasses_13 : decode cX0_areClasses 13 = .ok (.istore_n 3, 1) := by decide +kernel
theorem dX0_areClasses_14 : decode cX0_areClasses 14 = .ok (.iload_n 3, 1) := by decide +kernel
theorem dX0_areClasses_15 : decode cX0_areClasses 15 = .ok (.iload_n 2, 1) := by decide +kernel
theorem dX0_areClasses_16 : decode cX0_areClasses 16 = .ok (.if_icmp .ge 38, 3) := by decide +kernel
theorem dX0_areClasses_19 : decode cX0_areClasses 19 = .ok (.aload_n 0, 1) := by decide +kernel
theorem dX0_areClasses_20 : decode cX0_areClasses 20 = .ok (.getfield 30, 3) := by decide +kernel
theorem dX0_areClasses_23 : decode cX0_areClasses 23 = .ok (.aload_n 0, 1) := by decide +kernel
theorem dX0_areClasses_24 : decode cX0_areClasses 24 = .ok (.getfield 25, 3) := by decide +kernel
theorem dX0_areClasses_27 : decode cX0_areClasses 27 = .ok (.iload_n 1, 1) := by decide +kernel
theorem dX0_areClasses_28 : decode cX0_areClasses 28 = .ok (.bipush 8, 2) := by decide +kernel
theorem dX0_areClasses_30 : decode cX0_areClasses 30 = .ok (.iadd, 1) := by decide +kernel
theorem dX0_areClasses_31 : decode cX0_areClasses 31 = .ok (.iconst 2, 1) := by decide +kernel
theorem dX0_areClasses_32 : decode cX0_areClasses 32 = .ok (.iload_n 3, 1) := by decide +kernel
theorem dX0_areClasses_33 : decode cX0_areClasses 33 = .ok (.imul, 1) := by decide +kernel
theorem dX0_areClasses_34 : decode cX0_areClasses 34 = .ok (.iadd, 1) := by decide +kernel
theorem dX0_areClasses_35 : decode cX0_areClasses 35 = .ok (.invokevirtual 43, 3) := by decide +kernel
theorem dX0_areClasses_38 : decode cX0_areClasses 38 = .ok (.invokevirtual 80, 3) := by decide +kernel
theorem dX0_areClasses_41 : decode cX0_areClasses 41 = .ok (.bipush 7, 2) := by decide +kernel
theorem dX0_areClasses_43 : decode cX0_areClasses 43 = .ok (.if_icmp .eq 5, 3) := by decide +kernel
theorem dX0_areClasses_46 : decode cX0_areClasses 46 = .ok (.iconst 0, 1) := by decide +kernel
theorem dX0_areClasses_47 : decode cX0_areClasses 47 = .ok (.ireturn, 1) := by decide +kernel
theorem dX0_areClasses_48 : decode cX0_areClasses 48 = .ok (.iinc 3 1, 3) := by decide +kernel
theorem dX0_areClasses_51 : decode cX0_areClasses 51 = .ok (.goto (-37), 3) := by decide +kernel
theorem dX0_areClasses_54 : decode cX0_areClasses 54 = .ok (.iconst 1, 1) := by decide +kernel
theorem dX0_areClasses_55 : decode cX0_areClasses 55 = .ok (.ireturn, 1) := by decide +kernel
def mb_22_0 (g : xe_G) : Nat → Option mi_N := mt_node 24 (mt_node 12 (mt_node 5 (mt_node 1 (mt_node 0 (mt_leaf 0 (.inl (o_aload 0 1))) (mt_leaf 1 (.inl (o_get 0 1)))) (mt_node 4 (mt_leaf 4 (.inl (o_iload 1 1))) (mt_leaf 5 (.inl (o_push (.int 6) 2))))) (mt_node 8 (mt_node 7 (mt_leaf 7 (.inl (o_bin (fun x y => x + y) 1))) (mt_leaf 8 (.inr (.inl (49, 2, some 1))))) (mt_node 11 (mt_leaf 11 (.inl (o_isto 2 1))) (mt_leaf 12 (.inl (o_push (.int 0) 1)))))) (mt_node 16 (mt_node 14 (mt_node 13 (mt_leaf 13 (.inl (o_isto 3 1))) (mt_leaf 14 (.inl (o_iload 3 1)))) (mt_node 15 (mt_leaf 15 (.inl (o_iload 2 1))) (mt_leaf 16 (.inl (o_if2 (fun x y => decide (y ≤ x)) 54))))) (mt_node 20 (mt_node 19 (mt_leaf 19 (.inl (o_aload 0 1))) (mt_leaf 20 (.inl (o_get 0 2)))) (mt_node 23 (mt_leaf 23 (.inl (o_aload 0 1))) (mt_leaf 24 (.inl (o_get 0 1))))))) (mt_node 35 (mt_node 31 (mt_node 28 (mt_node 27 (mt_leaf 27 (.inl (o_iload 1 1))) (mt_leaf 28 (.inl (o_push (.int 8) 2)))) (mt_node 30 (mt_leaf 30 (.inl (o_bin (fun x y => x + y) 1))) (mt_leaf 31 (.inl (o_push (.int 2) 1))))) (mt_node 33 (mt_node 32 (mt_leaf 32 (.inl (o_iload 3 1))) (mt_leaf 33 (.inl (o_bin (fun x y => x * y) 1)))) (mt_node 34 (mt_leaf 34 (.inl (o_bin (fun x y => x + y) 1))) (mt_leaf 35 (.inr (.inl (49, 2, some 1))))))) (mt_node 46 (mt_node 41 (mt_node 38 (mt_leaf 38 (.inr (.inl (138, 2, some 7)))) (mt_leaf 41 (.inl (o_push (.int 7) 2)))) (mt_node 43 (mt_leaf 43 (.inl (o_if2 (fun x y => decide (x = y)) 48))) (mt_leaf 46 (.inl (o_push (.int 0) 1))))) (mt_node 48 (mt_node 47 (mt_leaf 47 (.inr (.inr (r_int mi_cz)))) (mt_leaf 48 (.inl (o_iinc 3 1)))) (mt_node 51 (mt_leaf 51 (.inl (o_goto 14))) (mt_node 54 (mt_leaf 54 (.inl (o_push (.int 1) 1))) (mt_leaf 55 (.inr (.inr (r_int mi_cz)))))))))
theorem mb_22_0_ok {g : xe_G} : mt_all (mi_ent g mI (mI 22)) (mb_22_0 g) := mt_node_ok (mt_node_ok (mt_node_ok (mt_node_ok (mt_node_ok (mt_leaf_ok (en_o (sm_aload_n dX0_areClasses_0 rfl))) (mt_leaf_ok (en_o (sm_get (T := TX0) (by decide) rfl bi_X0 (by decide) bg_7 dX0_areClasses_1)))) (mt_node_ok (mt_leaf_ok (en_o (sm_iload_n dX0_areClasses_4 rfl))) (mt_leaf_ok (en_o (sm_bipush dX0_areClasses_5 rfl))))) (mt_node_ok (mt_node_ok (mt_leaf_ok (en_o (sm_iadd dX0_areClasses_7))) (mt_leaf_ok ((⟨by decide, bg_18, bg_15, 43, 1, ⟨by decide, by decide, by decide +kernel⟩, bg_14, Or.inr ⟨rfl, bg_16, 1, _, rfl, by decide, rfl, Or.inl ⟨dX0_areClasses_8, bg_17⟩⟩⟩ : mi_cal _ _ _ (mI 49) _ _)))) (mt_node_ok (mt_leaf_ok (en_s (sm_istore_n dX0_areClasses_11 rfl (by decide)))) (mt_leaf_ok (en_o (sm_iconst dX0_areClasses_12 rfl)))))) (mt_node_ok (mt_node_ok (mt_node_ok (mt_leaf_ok (en_s (sm_istore_n dX0_areClasses_13 rfl (by decide)))) (mt_leaf_ok (en_o (sm_iload_n dX0_areClasses_14 rfl)))) (mt_node_ok (mt_leaf_ok (en_o (sm_iload_n dX0_areClasses_15 rfl))) (mt_leaf_ok (en_o (sm_icmp_ge dX0_areClasses_16 (by decide)))))) (mt_node_ok (mt_node_ok (mt_leaf_ok (en_o (sm_aload_n dX0_areClasses_19 rfl))) (mt_leaf_ok (en_o (sm_get (T := TX0) (by decide) rfl bi_X0 (by decide) bg_9 dX0_areClasses_20)))) (mt_node_ok (mt_leaf_ok (en_o (sm_aload_n dX0_areClasses_23 rfl))) (mt_leaf_ok (en_o (sm_get (T := TX0) (by decide) rfl bi_X0 (by decide) bg_7 dX0_areClasses_24))))))) (mt_node_ok (mt_node_ok (mt_node_ok (mt_node_ok (mt_leaf_ok (en_o (sm_iload_n dX0_areClasses_27 rfl))) (mt_leaf_ok (en_o (sm_bipush dX0_areClasses_28 rfl)))) (mt_node_ok (mt_leaf_ok (en_o (sm_iadd dX0_areClasses_30))) (mt_leaf_ok (en_o (sm_iconst dX0_areClasses_31 rfl))))) (mt_node_ok (mt_node_ok (mt_leaf_ok (en_o (sm_iload_n dX0_areClasses_32 rfl))) (mt_leaf_ok (en_o (sm_imul dX0_areClasses_33)))) (mt_node_ok (mt_leaf_ok (en_o (sm_iadd dX0_areClasses_34))) (mt_leaf_ok ((⟨by decide, bg_18, bg_15, 43, 1, ⟨by decide, by decide, by decide +kernel⟩, bg_14, Or.inr ⟨rfl, bg_16, 1, _, rfl, by decide, rfl, Or.inl ⟨dX0_areClasses_35, bg_17⟩⟩⟩ : mi_cal _ _ _ (mI 49) _ _)))))) (mt_node_ok (mt_node_ok (mt_node_ok (mt_leaf_ok ((⟨by decide, bg_23, bg_49, 80, 1, ⟨by decide, by decide, by decide +kernel⟩, bg_48, Or.inr ⟨rfl, bg_50, 7, _, rfl, by decide, rfl, Or.inl ⟨dX0_areClasses_38, bg_51⟩⟩⟩ : mi_cal _ _ _ (mI 138) _ _))) (mt_leaf_ok (en_o (sm_bipush dX0_areClasses_41 rfl)))) (mt_node_ok (mt_leaf_ok (en_o (sm_icmp_eq dX0_areClasses_43 (by decide)))) (mt_leaf_ok (en_o (sm_iconst dX0_areClasses_46 rfl))))) (mt_node_ok (mt_node_ok (mt_leaf_ok (sr_nar mi_cz_ok dX0_areClasses_47)) (mt_leaf_ok (en_s (sm_iinc dX0_areClasses_48 rfl (by decide))))) (mt_node_ok (mt_leaf_ok (en_o (sm_goto dX0_areClasses_51 (by decide)))) (mt_node_ok (mt_leaf_ok (en_o (sm_iconst dX0_areClasses_54 rfl))) (mt_leaf_ok (sr_nar mi_cz_ok dX0_areClasses_55)))))))
def mb_22 (g : xe_G) : Nat × mi_B := (4, mb_22_0 g, mk_leaf 14 [0, 1, 2, 3])
theorem mb_22_ok {g : xe_G} : mi_meth g mI (mI 22) (mb_22 g) := ⟨rfl, by decide, mb_22_0_ok⟩
theorem dX0_behind_0 : decode cX0_behind 0 = .ok (.iload_n 1, 1) := by decide +kernel
theorem dX0_behind_1 : decode cX0_behind 1 = .ok (.bipush 6, 2) := by decide +kernel
theorem dX0_behind_3 : decode cX0_behind 3 = .ok (.iadd, 1) := by decide +kernel
theorem dX0_behind_4 : decode cX0_behind 4 = .ok (.aload_n 0, 1) := by decide +kernel
theorem dX0_behind_5 : decode cX0_behind 5 = .ok (.getfield 25, 3) := by decide +kernel
theorem dX0_behind_8 : decode cX0_behind 8 = .ok (.iload_n 1, 1) := by decide +kernel
theorem dX0_behind_9 : decode cX0_behind 9 = .ok (.iconst 2, 1) := by decide +kernel
theorem dX0_behind_10 : decode cX0_behind 10 = .ok (.iadd, 1) := by decide +kernel
theorem dX0_behind_11 : decode cX0_behind 11 = .ok (.invokevirtual 120, 3) := by decide +kernel
theorem dX0_behind_14 : decode cX0_behind 14 = .ok (.iadd, 1) := by decide +kernel
theorem dX0_behind_15 : decode cX0_behind 15 = .ok (.ireturn, 1) := by decide +kernel
def mb_23_0 (g : xe_G) : Nat → Option mi_N := mt_node 5 (mt_node 1 (mt_node 0 (mt_leaf 0 (.inl (o_iload 1 1))) (mt_leaf 1 (.inl (o_push (.int 6) 2)))) (mt_node 3 (mt_leaf 3 (.inl (o_bin (fun x y => x + y) 1))) (mt_node 4 (mt_leaf 4 (.inl (o_aload 0 1))) (mt_leaf 5 (.inl (o_get 0 1)))))) (mt_node 10 (mt_node 8 (mt_leaf 8 (.inl (o_iload 1 1))) (mt_node 9 (mt_leaf 9 (.inl (o_push (.int 2) 1))) (mt_leaf 10 (.inl (o_bin (fun x y => x + y) 1))))) (mt_node 11 (mt_leaf 11 (.inr (.inl (50, 2, some 1)))) (mt_node 14 (mt_leaf 14 (.inl (o_bin (fun x y => x + y) 1))) (mt_leaf 15 (.inr (.inr (r_int (fun _ => true))))))))
theorem mb_23_0_ok {g : xe_G} : mt_all (mi_ent g mI (mI 23)) (mb_23_0 g) := mt_node_ok (mt_node_ok (mt_node_ok (mt_leaf_ok (en_o (sm_iload_n dX0_behind_0 rfl))) (mt_leaf_ok (en_o (sm_bipush dX0_behind_1 rfl)))) (mt_node_ok (mt_leaf_ok (en_o (sm_iadd dX0_behind_3))) (mt_node_ok (mt_leaf_ok (en_o (sm_aload_n dX0_behind_4 rfl))) (mt_leaf_ok (en_o (sm_get (T := TX0) (by decide) rfl bi_X0 (by decide) bg_7 dX0_behind_5)))))) (mt_node_ok (mt_node_ok (mt_leaf_ok (en_o (sm_iload_n dX0_behind_8 rfl))) (mt_node_ok (mt_leaf_ok (en_o (sm_iconst dX0_behind_9 rfl))) (mt_leaf_ok (en_o (sm_iadd dX0_behind_10))))) (mt_node_ok (mt_leaf_ok ((⟨by decide, bg_18, bg_89, 120, 1, ⟨by decide, by decide, by decide +kernel⟩, bg_88, Or.inr ⟨rfl, bg_90, 1, _, rfl, by decide, rfl, Or.inl ⟨dX0_behind_11, bg_91⟩⟩⟩ : mi_cal _ _ _ (mI 50) _ _))) (mt_node_ok (mt_leaf_ok (en_o (sm_iadd dX0_behind_14))) (mt_leaf_ok (sr_int dX0_behind_15)))))
def mb_23 (g : xe_G) : Nat × mi_B := (2, mb_23_0 g, fun _ => none)
theorem mb_23_ok {g : xe_G} : mi_meth g mI (mI 23) (mb_23 g) := ⟨rfl, by decide, mb_23_0_ok⟩
theorem dX0_bootstrapsEnd_0 : decode cX0_bootstrapsEnd 0 = .ok (.aload_n 0, 1) := by decide +kernel
theorem dX0_bootstrapsEnd_1 : decode cX0_bootstrapsEnd 1 = .ok (.getfield 25, 3) := by decide +kernel
theorem dX0_bootstrapsEnd_4 : decode cX0_bootstrapsEnd 4 = .ok (.iload_n 1, 1) := by decide +kernel
theorem dX0_bootstrapsEnd_5 : decode cX0_bootstrapsEnd 5 = .ok (.invokevirtual 43, 3) := by decide +kernel
theorem dX0_bootstrapsEnd_8 : decode cX0_bootstrapsEnd 8 = .ok (.istore_n 3, 1) := by decide +kernel
theorem dX0_bootstrapsEnd_9 : decode cX0_bootstrapsEnd 9 = .ok (.iload_n 1, 1) := by decide +kernel
theorem dX0_bootstrapsEnd_10 : decode cX0_bootstrapsEnd 10 = .ok (.iconst 2, 1) := by decide +kernel
theorem dX0_bootstrapsEnd_11 : decode cX0_bootstrapsEnd 11 = .ok (.iadd, 1) := by decide +kernel
theorem dX0_bootstrapsEnd_12 : decode cX0_bootstrapsEnd 12 = .ok (.istore 4, 2) := by decide +kernel
theorem dX0_bootstrapsEnd_14 : decode cX0_bootstrapsEnd 14 = .ok (.iconst 0, 1) := by decide +kernel
theorem dX0_bootstrapsEnd_15 : decode cX0_bootstrapsEnd 15 = .ok (.istore 5, 2) := by decide +kernel
theorem dX0_bootstrapsEnd_17 : decode cX0_bootstrapsEnd 17 = .ok (.iload 5, 2) := by decide +kernel
theorem dX0_bootstrapsEnd_19 : decode cX0_bootstrapsEnd 19 = .ok (.iload_n 3, 1) := by decide +kernel
theorem dX0_bootstrapsEnd_20 : decode cX0_bootstrapsEnd 20 = .ok (.if_icmp .ge 39, 3) := by decide +kernel
theorem dX0_bootstrapsEnd_23 : decode cX0_bootstrapsEnd 23 = .ok (.iload_n 2, 1) := by decide +kernel
theorem dX0_bootstrapsEnd_24 : decode cX0_bootstrapsEnd 24 = .ok (.iload 4, 2) := by decide +kernel
theorem dX0_bootstrapsEnd_26 : decode cX0_bootstrapsEnd 26 = .ok (.isub, 1) := by decide +kernel
theorem dX0_bootstrapsEnd_27 : decode cX0_bootstrapsEnd 27 = .ok (.iconst 4, 1) := by decide +kernel
theorem dX0_bootstrapsEnd_28 : decode cX0_bootstrapsEnd 28 = .ok (.if_icmp .ge 5, 3) := by decide +kernel
theorem dX0_bootstrapsEnd_31 : decode cX0_bootstrapsEnd 31 = .ok (.iconst (-1), 1) := by decide +kernel
theorem dX0_bootstrapsEnd_32 : decode cX0_bootstrapsEnd 32 = .ok (.ireturn, 1) := by decide +kernel
theorem dX0_bootstrapsEnd_33 : decode cX0_bootstrapsEnd 33 = .ok (.iload 4, 2) := by decide +kernel
theorem dX0_bootstrapsEnd_35 : decode cX0_bootstrapsEnd 35 = .ok (.iconst 4, 1) := by decide +kernel
theorem dX0_bootstrapsEnd_36 : decode cX0_bootstrapsEnd 36 = .ok (.iconst 2, 1) := by decide +kernel
theorem dX0_bootstrapsEnd_37 : decode cX0_bootstrapsEnd 37 = .ok (.aload_n 0, 1) := by decide +kernel
theorem dX0_bootstrapsEnd_38 : decode cX0_bootstrapsEnd 38 = .ok (.getfield 25, 3) := by decide +kernel
theorem dX0_bootstrapsEnd_41 : decode cX0_bootstrapsEnd 41 = .ok (.iload 4, 2) := by decide +kernel
theorem dX0_bootstrapsEnd_43 : decode cX0_bootstrapsEnd 43 = .ok (.iconst 2, 1) := by decide +kernel
theorem dX0_bootstrapsEnd_44 : decode cX0_bootstrapsEnd 44 = .ok (.iadd, 1) := by decide +kernel
theorem dX0_bootstrapsEnd_45 : decode cX0_bootstrapsEnd 45 = .ok (.invokevirtual 43, 3) := by decide +kernel
theorem dX0_bootstrapsEnd_48 : decode cX0_bootstrapsEnd 48 = .ok (.imul, 1) := by decide +kernel
theorem dX0_bootstrapsEnd_49 : decode cX0_bootstrapsEnd 49 = .ok (.iadd, 1) := by decide +kernel
theorem dX0_bootstrapsEnd_50 : decode cX0_bootstrapsEnd 50 = .ok (.iadd, 1) := by decide +kernel
theorem dX0_bootstrapsEnd_51 : decode cX0_bootstrapsEnd 51 = .ok (.istore 4, 2) := by decide +kernel
theorem dX0_bootstrapsEnd_53 : decode cX0_bootstrapsEnd 53 = .ok (.iinc 5 1, 3) := by decide +kernel
theorem dX0_bootstrapsEnd_56 : decode cX0_bootstrapsEnd 56 = .ok (.goto (-39), 3) := by decide +kernel
theorem dX0_bootstrapsEnd_59 : decode cX0_bootstrapsEnd 59 = .ok (.iload 4, 2) := by decide +kernel
theorem dX0_bootstrapsEnd_61 : decode cX0_bootstrapsEnd 61 = .ok (.ireturn, 1) := by decide +kernel
def mb_24_0 (g : xe_G) : Nat → Option mi_N := mt_node 28 (mt_node 12 (mt_node 5 (mt_node 1 (mt_node 0 (mt_leaf 0 (.inl (o_aload 0 1))) (mt_leaf 1 (.inl (o_get 0 1)))) (mt_node 4 (mt_leaf 4 (.inl (o_iload 1 1))) (mt_leaf 5 (.inr (.inl (49, 2, some 1)))))) (mt_node 9 (mt_node 8 (mt_leaf 8 (.inl (o_isto 3 1))) (mt_leaf 9 (.inl (o_iload 1 1)))) (mt_node 10 (mt_leaf 10 (.inl (o_push (.int 2) 1))) (mt_node 11 (mt_leaf 11 (.inl (o_bin (fun x y => x + y) 1))) (mt_leaf 12 (.inl (o_isto 4 2))))))) (mt_node 20 (mt_node 15 (mt_node 14 (mt_leaf 14 (.inl (o_push (.int 0) 1))) (mt_leaf 15 (.inl (o_isto 5 2)))) (mt_node 17 (mt_leaf 17 (.inl (o_iload 5 2))) (mt_node 19 (mt_leaf 19 (.inl (o_iload 3 1))) (mt_leaf 20 (.inl (o_if2 (fun x y => decide (y ≤ x)) 59)))))) (mt_node 24 (mt_node 23 (mt_leaf 23 (.inl (o_iload 2 1))) (mt_leaf 24 (.inl (o_iload 4 2)))) (mt_node 26 (mt_leaf 26 (.inl (o_bin (fun x y => x - y) 1))) (mt_node 27 (mt_leaf 27 (.inl (o_push (.int 4) 1))) (mt_leaf 28 (.inl (o_if2 (fun x y => decide (y ≤ x)) 33)))))))) (mt_node 43 (mt_node 35 (mt_node 32 (mt_node 31 (mt_leaf 31 (.inl (o_push (.int (-1)) 1))) (mt_leaf 32 (.inr (.inr (r_int (fun _ => true)))))) (mt_node 33 (mt_leaf 33 (.inl (o_iload 4 2))) (mt_leaf 35 (.inl (o_push (.int 4) 1))))) (mt_node 37 (mt_node 36 (mt_leaf 36 (.inl (o_push (.int 2) 1))) (mt_leaf 37 (.inl (o_aload 0 1)))) (mt_node 38 (mt_leaf 38 (.inl (o_get 0 1))) (mt_node 41 (mt_leaf 41 (.inl (o_iload 4 2))) (mt_leaf 43 (.inl (o_push (.int 2) 1))))))) (mt_node 50 (mt_node 45 (mt_node 44 (mt_leaf 44 (.inl (o_bin (fun x y => x + y) 1))) (mt_leaf 45 (.inr (.inl (49, 2, some 1))))) (mt_node 48 (mt_leaf 48 (.inl (o_bin (fun x y => x * y) 1))) (mt_node 49 (mt_leaf 49 (.inl (o_bin (fun x y => x + y) 1))) (mt_leaf 50 (.inl (o_bin (fun x y => x + y) 1)))))) (mt_node 53 (mt_node 51 (mt_leaf 51 (.inl (o_isto 4 2))) (mt_leaf 53 (.inl (o_iinc 5 1)))) (mt_node 56 (mt_leaf 56 (.inl (o_goto 17))) (mt_node 59 (mt_leaf 59 (.inl (o_iload 4 2))) (mt_leaf 61 (.inr (.inr (r_int (fun _ => true))))))))))
theorem mb_24_0_ok {g : xe_G} : mt_all (mi_ent g mI (mI 24)) (mb_24_0 g) := mt_node_ok (mt_node_ok (mt_node_ok (mt_node_ok (mt_node_ok (mt_leaf_ok (en_o (sm_aload_n dX0_bootstrapsEnd_0 rfl))) (mt_leaf_ok (en_o (sm_get (T := TX0) (by decide) rfl bi_X0 (by decide) bg_7 dX0_bootstrapsEnd_1)))) (mt_node_ok (mt_leaf_ok (en_o (sm_iload_n dX0_bootstrapsEnd_4 rfl))) (mt_leaf_ok ((⟨by decide, bg_18, bg_15, 43, 1, ⟨by decide, by decide, by decide +kernel⟩, bg_14, Or.inr ⟨rfl, bg_16, 1, _, rfl, by decide, rfl, Or.inl ⟨dX0_bootstrapsEnd_5, bg_17⟩⟩⟩ : mi_cal _ _ _ (mI 49) _ _))))) (mt_node_ok (mt_node_ok (mt_leaf_ok (en_s (sm_istore_n dX0_bootstrapsEnd_8 rfl (by decide)))) (mt_leaf_ok (en_o (sm_iload_n dX0_bootstrapsEnd_9 rfl)))) (mt_node_ok (mt_leaf_ok (en_o (sm_iconst dX0_bootstrapsEnd_10 rfl))) (mt_node_ok (mt_leaf_ok (en_o (sm_iadd dX0_bootstrapsEnd_11))) (mt_leaf_ok (en_s (sm_istore dX0_bootstrapsEnd_12 (by decide)))))))) (mt_node_ok (mt_node_ok (mt_node_ok (mt_leaf_ok (en_o (sm_iconst dX0_bootstrapsEnd_14 rfl))) (mt_leaf_ok (en_s (sm_istore dX0_bootstrapsEnd_15 (by decide))))) (mt_node_ok (mt_leaf_ok (en_o (sm_iload dX0_bootstrapsEnd_17))) (mt_node_ok (mt_leaf_ok (en_o (sm_iload_n dX0_bootstrapsEnd_19 rfl))) (mt_leaf_ok (en_o (sm_icmp_ge dX0_bootstrapsEnd_20 (by decide))))))) (mt_node_ok (mt_node_ok (mt_leaf_ok (en_o (sm_iload_n dX0_bootstrapsEnd_23 rfl))) (mt_leaf_ok (en_o (sm_iload dX0_bootstrapsEnd_24)))) (mt_node_ok (mt_leaf_ok (en_o (sm_isub dX0_bootstrapsEnd_26))) (mt_node_ok (mt_leaf_ok (en_o (sm_iconst dX0_bootstrapsEnd_27 rfl))) (mt_leaf_ok (en_o (sm_icmp_ge dX0_bootstrapsEnd_28 (by decide))))))))) (mt_node_ok (mt_node_ok (mt_node_ok (mt_node_ok (mt_leaf_ok (en_o (sm_iconst dX0_bootstrapsEnd_31 rfl))) (mt_leaf_ok (sr_int dX0_bootstrapsEnd_32))) (mt_node_ok (mt_leaf_ok (en_o (sm_iload dX0_bootstrapsEnd_33))) (mt_leaf_ok (en_o (sm_iconst dX0_bootstrapsEnd_35 rfl))))) (mt_node_ok (mt_node_ok (mt_leaf_ok (en_o (sm_iconst dX0_bootstrapsEnd_36 rfl))) (mt_leaf_ok (en_o (sm_aload_n dX0_bootstrapsEnd_37 rfl)))) (mt_node_ok (mt_leaf_ok (en_o (sm_get (T := TX0) (by decide) rfl bi_X0 (by decide) bg_7 dX0_bootstrapsEnd_38))) (mt_node_ok (mt_leaf_ok (en_o (sm_iload dX0_bootstrapsEnd_41))) (mt_leaf_ok (en_o (sm_iconst dX0_bootstrapsEnd_43 rfl))))))) (mt_node_ok (mt_node_ok (mt_node_ok (mt_leaf_ok (en_o (sm_iadd dX0_bootstrapsEnd_44))) (mt_leaf_ok ((⟨by decide, bg_18, bg_15, 43, 1, ⟨by decide, by decide, by decide +kernel⟩, bg_14, Or.inr ⟨rfl, bg_16, 1, _, rfl, by decide, rfl, Or.inl ⟨dX0_bootstrapsEnd_45, bg_17⟩⟩⟩ : mi_cal _ _ _ (mI 49) _ _)))) (mt_node_ok (mt_leaf_ok (en_o (sm_imul dX0_bootstrapsEnd_48))) (mt_node_ok (mt_leaf_ok (en_o (sm_iadd dX0_bootstrapsEnd_49))) (mt_leaf_ok (en_o (sm_iadd dX0_bootstrapsEnd_50)))))) (mt_node_ok (mt_node_ok (mt_leaf_ok (en_s (sm_istore dX0_bootstrapsEnd_51 (by decide)))) (mt_leaf_ok (en_s (sm_iinc dX0_bootstrapsEnd_53 rfl (by decide))))) (mt_node_ok (mt_leaf_ok (en_o (sm_goto dX0_bootstrapsEnd_56 (by decide)))) (mt_node_ok (mt_leaf_ok (en_o (sm_iload dX0_bootstrapsEnd_59))) (mt_leaf_ok (sr_int dX0_bootstrapsEnd_61)))))))
def mb_24 (g : xe_G) : Nat × mi_B := (6, mb_24_0 g, mk_leaf 17 [0, 2, 3, 4, 5])
theorem mb_24_ok {g : xe_G} : mi_meth g mI (mI 24) (mb_24 g) := ⟨rfl, by decide, mb_24_0_ok⟩
end
