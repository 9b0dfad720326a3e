theorem k_674 : Cond.code yJ11_isValidCodePoint_9a6ad cJ11_isValidCodePoint_9a6ad 2 (some .boolean) ∈ BIG := mB (tb_2 (List.mem_of_getElem? (i := 94) (by decide +kernel))) rfl
theorem k_675 : Cond.methodLink RJ2 157 yJ11_highSurrogate_5068e ∈ BIG := mB (tb_2 (List.mem_of_getElem? (i := 95) (by decide +kernel))) rfl
theorem k_676 : Cond.static yJ11_highSurrogate_5068e ∈ BIG := mB (tb_2 (List.mem_of_getElem? (i := 96) (by decide +kernel))) rfl
theorem k_677 : Cond.code yJ11_highSurrogate_5068e cJ11_highSurrogate_5068e 1 (some .char) ∈ BIG := mB (tb_2 (List.mem_of_getElem? (i := 97) (by decide +kernel))) rfl
theorem k_678 : Cond.constant RJ11 110 55232 ∈ BIG := mB (tb_2 (List.mem_of_getElem? (i := 98) (by decide +kernel))) rfl
theorem k_679 : Cond.methodLink RJ2 161 yJ11_lowSurrogate_5068e ∈ BIG := mB (tb_2 (List.mem_of_getElem? (i := 99) (by decide +kernel))) rfl
theorem k_680 : Cond.static yJ11_lowSurrogate_5068e ∈ BIG := mB (tb_2 (List.mem_of_getElem? (i := 100) (by decide +kernel))) rfl
theorem k_681 : Cond.code yJ11_lowSurrogate_5068e cJ11_lowSurrogate_5068e 1 (some .char) ∈ BIG := mB (tb_2 (List.mem_of_getElem? (i := 101) (by decide +kernel))) rfl
theorem k_682 : Cond.constant RJ11 76 56320 ∈ BIG := mB (tb_2 (List.mem_of_getElem? (i := 102) (by decide +kernel))) rfl
theorem k_683 : Cond.methodLink RX6 50 yX6_line ∈ BIG := mB (tb_2 (List.mem_of_getElem? (i := 103) (by decide +kernel))) rfl
theorem k_685 : Cond.instanceMethod yX6_line ∈ BIG := mB (tb_2 (List.mem_of_getElem? (i := 105) (by decide +kernel))) rfl
theorem k_686 : Cond.code yX6_line cX6_line 1 (some .boolean) ∈ BIG := mB (tb_2 (List.mem_of_getElem? (i := 106) (by decide +kernel))) rfl
theorem k_687 : Cond.methodLink RX6 54 yX6_manLine ∈ BIG := mB (tb_2 (List.mem_of_getElem? (i := 107) (by decide +kernel))) rfl
theorem k_689 : Cond.instanceMethod yX6_manLine ∈ BIG := mB (tb_2 (List.mem_of_getElem? (i := 109) (by decide +kernel))) rfl
theorem k_690 : Cond.code yX6_manLine cX6_manLine 4 (some .boolean) ∈ BIG := mB (tb_2 (List.mem_of_getElem? (i := 110) (by decide +kernel))) rfl
theorem k_691 : Cond.methodLink RX6 74 yX6_refuse ∈ BIG := mB (tb_2 (List.mem_of_getElem? (i := 111) (by decide +kernel))) rfl
theorem k_693 : Cond.instanceMethod yX6_refuse ∈ BIG := mB (tb_2 (List.mem_of_getElem? (i := 113) (by decide +kernel))) rfl
theorem k_694 : Cond.code yX6_refuse cX6_refuse 1 (some .boolean) ∈ BIG := mB (tb_2 (List.mem_of_getElem? (i := 114) (by decide +kernel))) rfl
theorem k_695 : Cond.methodLink RX6 77 yX6_refuseAs ∈ BIG := mB (tb_2 (List.mem_of_getElem? (i := 115) (by decide +kernel))) rfl
theorem k_697 : Cond.instanceMethod yX6_refuseAs ∈ BIG := mB (tb_2 (List.mem_of_getElem? (i := 117) (by decide +kernel))) rfl
theorem k_698 : Cond.code yX6_refuseAs cX6_refuseAs 2 (some .boolean) ∈ BIG := mB (tb_2 (List.mem_of_getElem? (i := 118) (by decide +kernel))) rfl
theorem k_699 : Cond.methodLink RX6 86 yX9_advance ∈ BIG := mB (tb_2 (List.mem_of_getElem? (i := 119) (by decide +kernel))) rfl
theorem k_700 : Cond.methodLink RX6 92 yX6_name ∈ BIG := mB (tb_2 (List.mem_of_getElem? (i := 120) (by decide +kernel))) rfl
theorem k_702 : Cond.instanceMethod yX6_name ∈ BIG := mB (tb_2 (List.mem_of_getElem? (i := 122) (by decide +kernel))) rfl
theorem k_703 : Cond.code yX6_name cX6_name 4 (some .boolean) ∈ BIG := mB (tb_2 (List.mem_of_getElem? (i := 123) (by decide +kernel))) rfl
theorem k_704 : Cond.methodLink RX6 111 yX9_sameWord ∈ BIG := mB (tb_2 (List.mem_of_getElem? (i := 124) (by decide +kernel))) rfl
theorem k_705 : Cond.instanceMethod yX9_sameWord ∈ BIG := mB (tb_2 (List.mem_of_getElem? (i := 125) (by decide +kernel))) rfl
theorem k_706 : Cond.selects RX9 yX9_sameWord yX9_sameWord ∈ BIG := mB (tb_2 (List.mem_of_getElem? (i := 126) (by decide +kernel))) rfl
theorem k_707 : Cond.code yX9_sameWord cX9_sameWord 4 (some .boolean) ∈ BIG := mB (tb_2 (List.mem_of_getElem? (i := 127) (by decide +kernel))) rfl
theorem k_708 : Cond.methodLink RX6 96 yX6_labelled ∈ BIG := mB (tb_2 (List.mem_of_getElem? (i := 128) (by decide +kernel))) rfl
theorem k_710 : Cond.instanceMethod yX6_labelled ∈ BIG := mB (tb_2 (List.mem_of_getElem? (i := 130) (by decide +kernel))) rfl
theorem k_711 : Cond.code yX6_labelled cX6_labelled 3 (some .int) ∈ BIG := mB (tb_2 (List.mem_of_getElem? (i := 131) (by decide +kernel))) rfl
theorem k_712 : Cond.methodLink RX6 114 yX6_numbered ∈ BIG := mB (tb_2 (List.mem_of_getElem? (i := 132) (by decide +kernel))) rfl
theorem k_714 : Cond.instanceMethod yX6_numbered ∈ BIG := mB (tb_2 (List.mem_of_getElem? (i := 134) (by decide +kernel))) rfl
theorem k_715 : Cond.code yX6_numbered cX6_numbered 3 (some .int) ∈ BIG := mB (tb_2 (List.mem_of_getElem? (i := 135) (by decide +kernel))) rfl
theorem k_716 : Cond.methodLink RX6 100 yX7_addMan ∈ BIG := mB (tb_2 (List.mem_of_getElem? (i := 136) (by decide +kernel))) rfl
theorem k_717 : Cond.instanceMethod yX7_addMan ∈ BIG := mB (tb_2 (List.mem_of_getElem? (i := 137) (by decide +kernel))) rfl
theorem k_718 : Cond.selects RX7 yX7_addMan yX7_addMan ∈ BIG := mB (tb_2 (List.mem_of_getElem? (i := 138) (by decide +kernel))) rfl
theorem k_719 : Cond.code yX7_addMan cX7_addMan 4 none ∈ BIG := mB (tb_2 (List.mem_of_getElem? (i := 139) (by decide +kernel))) rfl
theorem k_720 : Cond.methodLink RX6 57 yX6_closing ∈ BIG := mB (tb_2 (List.mem_of_getElem? (i := 140) (by decide +kernel))) rfl
theorem k_722 : Cond.instanceMethod yX6_closing ∈ BIG := mB (tb_2 (List.mem_of_getElem? (i := 142) (by decide +kernel))) rfl
theorem k_723 : Cond.code yX6_closing cX6_closing 1 (some .boolean) ∈ BIG := mB (tb_2 (List.mem_of_getElem? (i := 143) (by decide +kernel))) rfl
theorem k_724 : Cond.methodLink RX6 83 yX6_taken ∈ BIG := mB (tb_2 (List.mem_of_getElem? (i := 144) (by decide +kernel))) rfl
theorem k_726 : Cond.instanceMethod yX6_taken ∈ BIG := mB (tb_2 (List.mem_of_getElem? (i := 146) (by decide +kernel))) rfl
theorem k_727 : Cond.code yX6_taken cX6_taken 2 (some .boolean) ∈ BIG := mB (tb_2 (List.mem_of_getElem? (i := 147) (by decide +kernel))) rfl
theorem k_728 : Cond.methodLink RX6 60 yX6_coatLine ∈ BIG := mB (tb_2 (List.mem_of_getElem? (i := 148) (by decide +kernel))) rfl
theorem k_730 : Cond.instanceMethod yX6_coatLine ∈ BIG := mB (tb_2 (List.mem_of_getElem? (i := 150) (by decide +kernel))) rfl
theorem k_731 : Cond.code yX6_coatLine cX6_coatLine 5 (some .boolean) ∈ BIG := mB (tb_2 (List.mem_of_getElem? (i := 151) (by decide +kernel))) rfl
theorem k_732 : Cond.methodLink RX6 107 yX7_addCoat ∈ BIG := mB (tb_2 (List.mem_of_getElem? (i := 152) (by decide +kernel))) rfl
theorem k_733 : Cond.instanceMethod yX7_addCoat ∈ BIG := mB (tb_2 (List.mem_of_getElem? (i := 153) (by decide +kernel))) rfl
theorem k_734 : Cond.selects RX7 yX7_addCoat yX7_addCoat ∈ BIG := mB (tb_2 (List.mem_of_getElem? (i := 154) (by decide +kernel))) rfl
theorem k_735 : Cond.code yX7_addCoat cX7_addCoat 5 none ∈ BIG := mB (tb_2 (List.mem_of_getElem? (i := 155) (by decide +kernel))) rfl
theorem k_736 : Cond.methodLink RX6 63 yX6_opened ∈ BIG := mB (tb_2 (List.mem_of_getElem? (i := 156) (by decide +kernel))) rfl
theorem k_738 : Cond.instanceMethod yX6_opened ∈ BIG := mB (tb_2 (List.mem_of_getElem? (i := 158) (by decide +kernel))) rfl
theorem k_739 : Cond.code yX6_opened cX6_opened 3 (some .boolean) ∈ BIG := mB (tb_2 (List.mem_of_getElem? (i := 159) (by decide +kernel))) rfl
theorem k_740 : Cond.methodLink RX6 67 yX6_expression ∈ BIG := mB (tb_2 (List.mem_of_getElem? (i := 160) (by decide +kernel))) rfl
theorem k_742 : Cond.instanceMethod yX6_expression ∈ BIG := mB (tb_2 (List.mem_of_getElem? (i := 162) (by decide +kernel))) rfl
theorem k_743 : Cond.code yX6_expression cX6_expression 6 (some .boolean) ∈ BIG := mB (tb_2 (List.mem_of_getElem? (i := 163) (by decide +kernel))) rfl
theorem k_744 : Cond.methodLink RX6 125 yX6_unit ∈ BIG := mB (tb_2 (List.mem_of_getElem? (i := 164) (by decide +kernel))) rfl
theorem k_746 : Cond.instanceMethod yX6_unit ∈ BIG := mB (tb_2 (List.mem_of_getElem? (i := 166) (by decide +kernel))) rfl
theorem k_747 : Cond.code yX6_unit cX6_unit 4 (some .boolean) ∈ BIG := mB (tb_2 (List.mem_of_getElem? (i := 167) (by decide +kernel))) rfl
theorem k_748 : Cond.methodLink RX6 138 yX4_add ∈ BIG := mB (tb_2 (List.mem_of_getElem? (i := 168) (by decide +kernel))) rfl
theorem k_749 : Cond.instanceMethod yX4_add ∈ BIG := mB (tb_2 (List.mem_of_getElem? (i := 169) (by decide +kernel))) rfl
theorem k_750 : Cond.selects RX4 yX4_add yX4_add ∈ BIG := mB (tb_2 (List.mem_of_getElem? (i := 170) (by decide +kernel))) rfl
theorem k_751 : Cond.code yX4_add cX4_add 3 none ∈ BIG := mB (tb_2 (List.mem_of_getElem? (i := 171) (by decide +kernel))) rfl
theorem k_752 : Cond.methodLink RX6 128 yX6_negation ∈ BIG := mB (tb_2 (List.mem_of_getElem? (i := 172) (by decide +kernel))) rfl
theorem k_754 : Cond.instanceMethod yX6_negation ∈ BIG := mB (tb_2 (List.mem_of_getElem? (i := 174) (by decide +kernel))) rfl
theorem k_755 : Cond.code yX6_negation cX6_negation 2 (some .boolean) ∈ BIG := mB (tb_2 (List.mem_of_getElem? (i := 175) (by decide +kernel))) rfl
theorem k_756 : Cond.methodLink RX6 131 yX6_joins ∈ BIG := mB (tb_2 (List.mem_of_getElem? (i := 176) (by decide +kernel))) rfl
theorem k_757 : Cond.static yX6_joins ∈ BIG := mB (tb_2 (List.mem_of_getElem? (i := 177) (by decide +kernel))) rfl
theorem k_758 : Cond.code yX6_joins cX6_joins 2 (some .boolean) ∈ BIG := mB (tb_2 (List.mem_of_getElem? (i := 178) (by decide +kernel))) rfl
theorem k_759 : Cond.methodLink RX6 71 yX6_settingLine ∈ BIG := mB (tb_2 (List.mem_of_getElem? (i := 179) (by decide +kernel))) rfl
theorem k_761 : Cond.instanceMethod yX6_settingLine ∈ BIG := mB (tb_2 (List.mem_of_getElem? (i := 181) (by decide +kernel))) rfl
theorem k_762 : Cond.code yX6_settingLine cX6_settingLine 4 (some .boolean) ∈ BIG := mB (tb_2 (List.mem_of_getElem? (i := 182) (by decide +kernel))) rfl
theorem k_763 : Cond.methodLink RX6 121 yX7_set ∈ BIG := mB (tb_2 (List.mem_of_getElem? (i := 183) (by decide +kernel))) rfl
theorem k_764 : Cond.instanceMethod yX7_set ∈ BIG := mB (tb_2 (List.mem_of_getElem? (i := 184) (by decide +kernel))) rfl
theorem k_765 : Cond.selects RX7 yX7_set yX7_set ∈ BIG := mB (tb_2 (List.mem_of_getElem? (i := 185) (by decide +kernel))) rfl
theorem k_766 : Cond.code yX7_set cX7_set 3 none ∈ BIG := mB (tb_2 (List.mem_of_getElem? (i := 186) (by decide +kernel))) rfl
theorem k_767 : Cond.methodLink RX10 98 yX7_copy ∈ BIG := mB (tb_2 (List.mem_of_getElem? (i := 187) (by decide +kernel))) rfl
theorem k_768 : Cond.instanceMethod yX7_copy ∈ BIG := mB (tb_2 (List.mem_of_getElem? (i := 188) (by decide +kernel))) rfl
theorem k_769 : Cond.selects RX7 yX7_copy yX7_copy ∈ BIG := mB (tb_2 (List.mem_of_getElem? (i := 189) (by decide +kernel))) rfl
theorem k_770 : Cond.code yX7_copy cX7_copy 2 none ∈ BIG := mB (tb_2 (List.mem_of_getElem? (i := 190) (by decide +kernel))) rfl
theorem k_771 : Cond.methodLink RX7 53 arraycopyName ∈ BIG := mB (tb_2 (List.mem_of_getElem? (i := 191) (by decide +kernel))) rfl
theorem k_772 : Cond.methodLink RX7 59 yX4_copy ∈ BIG := mB (tb_2 (List.mem_of_getElem? (i := 192) (by decide +kernel))) rfl
theorem k_773 : Cond.instanceMethod yX4_copy ∈ BIG := mB (tb_2 (List.mem_of_getElem? (i := 193) (by decide +kernel))) rfl
theorem k_774 : Cond.selects RX4 yX4_copy yX4_copy ∈ BIG := mB (tb_2 (List.mem_of_getElem? (i := 194) (by decide +kernel))) rfl
theorem k_775 : Cond.code yX4_copy cX4_copy 2 none ∈ BIG := mB (tb_2 (List.mem_of_getElem? (i := 195) (by decide +kernel))) rfl
theorem k_776 : Cond.methodLink RX4 31 arraycopyName ∈ BIG := mB (tb_2 (List.mem_of_getElem? (i := 196) (by decide +kernel))) rfl
theorem k_777 : Cond.methodLink RX10 101 yX1_muster ∈ BIG := mB (tb_2 (List.mem_of_getElem? (i := 197) (by decide +kernel))) rfl
theorem k_778 : Cond.methodLink RX10 104 yX5_forgetAll ∈ BIG := mB (tb_2 (List.mem_of_getElem? (i := 198) (by decide +kernel))) rfl
theorem k_779 : Cond.instanceMethod yX5_forgetAll ∈ BIG := mB (tb_2 (List.mem_of_getElem? (i := 199) (by decide +kernel))) rfl
theorem k_780 : Cond.selects RX5 yX5_forgetAll yX5_forgetAll ∈ BIG := mB (tb_2 (List.mem_of_getElem? (i := 200) (by decide +kernel))) rfl
theorem k_781 : Cond.code yX5_forgetAll cX5_forgetAll 1 none ∈ BIG := mB (tb_2 (List.mem_of_getElem? (i := 201) (by decide +kernel))) rfl
theorem k_782 : Cond.methodLink RX5 32 yX5_forgetActs ∈ BIG := mB (tb_2 (List.mem_of_getElem? (i := 202) (by decide +kernel))) rfl
theorem k_784 : Cond.instanceMethod yX5_forgetActs ∈ BIG := mB (tb_2 (List.mem_of_getElem? (i := 204) (by decide +kernel))) rfl
theorem k_785 : Cond.code yX5_forgetActs cX5_forgetActs 1 none ∈ BIG := mB (tb_2 (List.mem_of_getElem? (i := 205) (by decide +kernel))) rfl
theorem k_786 : Cond.methodLink RX10 107 yX0_clear ∈ BIG := mB (tb_2 (List.mem_of_getElem? (i := 206) (by decide +kernel))) rfl
theorem k_787 : Cond.instanceMethod yX0_clear ∈ BIG := mB (tb_2 (List.mem_of_getElem? (i := 207) (by decide +kernel))) rfl
theorem k_788 : Cond.selects RX0 yX0_clear yX0_clear ∈ BIG := mB (tb_2 (List.mem_of_getElem? (i := 208) (by decide +kernel))) rfl
theorem k_789 : Cond.code yX0_clear cX0_clear 1 none ∈ BIG := mB (tb_2 (List.mem_of_getElem? (i := 209) (by decide +kernel))) rfl
theorem k_790 : Cond.methodLink RX10 110 yX8_clear ∈ BIG := mB (tb_2 (List.mem_of_getElem? (i := 210) (by decide +kernel))) rfl
theorem k_791 : Cond.instanceMethod yX8_clear ∈ BIG := mB (tb_2 (List.mem_of_getElem? (i := 211) (by decide +kernel))) rfl
theorem k_792 : Cond.selects RX8 yX8_clear yX8_clear ∈ BIG := mB (tb_2 (List.mem_of_getElem? (i := 212) (by decide +kernel))) rfl
theorem k_793 : Cond.code yX8_clear cX8_clear 1 none ∈ BIG := mB (tb_2 (List.mem_of_getElem? (i := 213) (by decide +kernel))) rfl
theorem k_794 : Cond.methodLink RL 28 yX10_fault ∈ BIG := mB (tb_2 (List.mem_of_getElem? (i := 214) (by decide +kernel))) rfl
theorem k_795 : Cond.instanceMethod yX10_fault ∈ BIG := mB (tb_2 (List.mem_of_getElem? (i := 215) (by decide +kernel))) rfl
theorem k_796 : Cond.selects RX10 yX10_fault yX10_fault ∈ BIG := mB (tb_2 (List.mem_of_getElem? (i := 216) (by decide +kernel))) rfl
theorem k_797 : Cond.code yX10_fault cX10_fault 2 (some .int) ∈ BIG := mB (tb_2 (List.mem_of_getElem? (i := 217) (by decide +kernel))) rfl
theorem k_798 : Cond.methodLink RL 32 yX10_man ∈ BIG := mB (tb_2 (List.mem_of_getElem? (i := 218) (by decide +kernel))) rfl
theorem k_799 : Cond.instanceMethod yX10_man ∈ BIG := mB (tb_2 (List.mem_of_getElem? (i := 219) (by decide +kernel))) rfl
theorem k_800 : Cond.selects RX10 yX10_man yX10_man ∈ BIG := mB (tb_2 (List.mem_of_getElem? (i := 220) (by decide +kernel))) rfl
theorem k_801 : Cond.code yX10_man cX10_man 3 (some .int) ∈ BIG := mB (tb_2 (List.mem_of_getElem? (i := 221) (by decide +kernel))) rfl
theorem k_802 : Cond.methodLink RX10 120 yX7_hasMan ∈ BIG := mB (tb_2 (List.mem_of_getElem? (i := 222) (by decide +kernel))) rfl
theorem k_803 : Cond.methodLink RX10 124 yX7_manPart ∈ BIG := mB (tb_2 (List.mem_of_getElem? (i := 223) (by decide +kernel))) rfl
theorem k_804 : Cond.methodLink RX10 128 yX1_manWide ∈ BIG := mB (tb_2 (List.mem_of_getElem? (i := 224) (by decide +kernel))) rfl
theorem k_805 : Cond.instanceMethod yX1_manWide ∈ BIG := mB (tb_2 (List.mem_of_getElem? (i := 225) (by decide +kernel))) rfl
theorem k_806 : Cond.selects RX1 yX1_manWide yX1_manWide ∈ BIG := mB (tb_2 (List.mem_of_getElem? (i := 226) (by decide +kernel))) rfl
theorem k_807 : Cond.code yX1_manWide cX1_manWide 2 (some .int) ∈ BIG := mB (tb_2 (List.mem_of_getElem? (i := 227) (by decide +kernel))) rfl
theorem k_808 : Cond.methodLink RX1 41 yX7_hasMan ∈ BIG := mB (tb_2 (List.mem_of_getElem? (i := 228) (by decide +kernel))) rfl
theorem k_809 : Cond.methodLink RX10 132 yX1_wears ∈ BIG := mB (tb_2 (List.mem_of_getElem? (i := 229) (by decide +kernel))) rfl
theorem k_810 : Cond.instanceMethod yX1_wears ∈ BIG := mB (tb_2 (List.mem_of_getElem? (i := 230) (by decide +kernel))) rfl
theorem k_811 : Cond.selects RX1 yX1_wears yX1_wears ∈ BIG := mB (tb_2 (List.mem_of_getElem? (i := 231) (by decide +kernel))) rfl
theorem k_812 : Cond.code yX1_wears cX1_wears 2 (some .int) ∈ BIG := mB (tb_2 (List.mem_of_getElem? (i := 232) (by decide +kernel))) rfl
theorem k_813 : Cond.methodLink RX10 135 yX1_fittingCoats ∈ BIG := mB (tb_2 (List.mem_of_getElem? (i := 233) (by decide +kernel))) rfl
theorem k_814 : Cond.instanceMethod yX1_fittingCoats ∈ BIG := mB (tb_2 (List.mem_of_getElem? (i := 234) (by decide +kernel))) rfl
theorem k_815 : Cond.selects RX1 yX1_fittingCoats yX1_fittingCoats ∈ BIG := mB (tb_2 (List.mem_of_getElem? (i := 235) (by decide +kernel))) rfl
theorem k_816 : Cond.code yX1_fittingCoats cX1_fittingCoats 4 (some .int) ∈ BIG := mB (tb_2 (List.mem_of_getElem? (i := 236) (by decide +kernel))) rfl
theorem k_817 : Cond.methodLink RX1 84 yX1_fits ∈ BIG := mB (tb_2 (List.mem_of_getElem? (i := 237) (by decide +kernel))) rfl
theorem k_818 : Cond.instanceMethod yX1_fits ∈ BIG := mB (tb_2 (List.mem_of_getElem? (i := 238) (by decide +kernel))) rfl
theorem k_819 : Cond.selects RX1 yX1_fits yX1_fits ∈ BIG := mB (tb_2 (List.mem_of_getElem? (i := 239) (by decide +kernel))) rfl
theorem k_820 : Cond.code yX1_fits cX1_fits 3 (some .boolean) ∈ BIG := mB (tb_3 (List.mem_of_getElem? (i := 0) (by decide +kernel))) rfl
theorem k_821 : Cond.methodLink RX1 45 yX7_hasCoat ∈ BIG := mB (tb_3 (List.mem_of_getElem? (i := 1) (by decide +kernel))) rfl
theorem k_822 : Cond.methodLink RX1 75 yX1_illness ∈ BIG := mB (tb_3 (List.mem_of_getElem? (i := 2) (by decide +kernel))) rfl
theorem k_823 : Cond.instanceMethod yX1_illness ∈ BIG := mB (tb_3 (List.mem_of_getElem? (i := 3) (by decide +kernel))) rfl
theorem k_824 : Cond.selects RX1 yX1_illness yX1_illness ∈ BIG := mB (tb_3 (List.mem_of_getElem? (i := 4) (by decide +kernel))) rfl
theorem k_825 : Cond.code yX1_illness cX1_illness 3 (some .int) ∈ BIG := mB (tb_3 (List.mem_of_getElem? (i := 5) (by decide +kernel))) rfl
theorem k_826 : Cond.methodLink RX1 59 yX1_manWide ∈ BIG := mB (tb_3 (List.mem_of_getElem? (i := 6) (by decide +kernel))) rfl
theorem k_827 : Cond.methodLink RX1 62 yX1_part ∈ BIG := mB (tb_3 (List.mem_of_getElem? (i := 7) (by decide +kernel))) rfl
theorem k_828 : Cond.instanceMethod yX1_part ∈ BIG := mB (tb_3 (List.mem_of_getElem? (i := 8) (by decide +kernel))) rfl
theorem k_829 : Cond.selects RX1 yX1_part yX1_part ∈ BIG := mB (tb_3 (List.mem_of_getElem? (i := 9) (by decide +kernel))) rfl
theorem k_830 : Cond.code yX1_part cX1_part 4 (some .int) ∈ BIG := mB (tb_3 (List.mem_of_getElem? (i := 10) (by decide +kernel))) rfl
theorem k_831 : Cond.methodLink RX1 65 yX1_today ∈ BIG := mB (tb_3 (List.mem_of_getElem? (i := 11) (by decide +kernel))) rfl
theorem k_832 : Cond.instanceMethod yX1_today ∈ BIG := mB (tb_3 (List.mem_of_getElem? (i := 12) (by decide +kernel))) rfl
theorem k_833 : Cond.selects RX1 yX1_today yX1_today ∈ BIG := mB (tb_3 (List.mem_of_getElem? (i := 13) (by decide +kernel))) rfl
theorem k_834 : Cond.code yX1_today cX1_today 1 (some .int) ∈ BIG := mB (tb_3 (List.mem_of_getElem? (i := 14) (by decide +kernel))) rfl
theorem k_835 : Cond.methodLink RX1 69 yX4_worth ∈ BIG := mB (tb_3 (List.mem_of_getElem? (i := 15) (by decide +kernel))) rfl
theorem k_836 : Cond.instanceMethod yX4_worth ∈ BIG := mB (tb_3 (List.mem_of_getElem? (i := 16) (by decide +kernel))) rfl
theorem k_837 : Cond.selects RX4 yX4_worth yX4_worth ∈ BIG := mB (tb_3 (List.mem_of_getElem? (i := 17) (by decide +kernel))) rfl
theorem k_838 : Cond.code yX4_worth cX4_worth 10 (some .int) ∈ BIG := mB (tb_3 (List.mem_of_getElem? (i := 18) (by decide +kernel))) rfl
theorem k_839 : Cond.methodLink RX4 37 Lib.Math.max.name ∈ BIG := mB (tb_3 (List.mem_of_getElem? (i := 19) (by decide +kernel))) rfl
theorem k_840 : Cond.methodLink RX4 43 Lib.Math.min.name ∈ BIG := mB (tb_3 (List.mem_of_getElem? (i := 20) (by decide +kernel))) rfl
theorem k_841 : Cond.methodLink RX4 46 yX4_joined ∈ BIG := mB (tb_3 (List.mem_of_getElem? (i := 21) (by decide +kernel))) rfl
theorem k_842 : Cond.static yX4_joined ∈ BIG := mB (tb_3 (List.mem_of_getElem? (i := 22) (by decide +kernel))) rfl
theorem k_843 : Cond.code yX4_joined cX4_joined 3 (some .int) ∈ BIG := mB (tb_3 (List.mem_of_getElem? (i := 23) (by decide +kernel))) rfl
theorem k_844 : Cond.methodLink RL 37 yX10_coat ∈ BIG := mB (tb_3 (List.mem_of_getElem? (i := 24) (by decide +kernel))) rfl
theorem k_845 : Cond.instanceMethod yX10_coat ∈ BIG := mB (tb_3 (List.mem_of_getElem? (i := 25) (by decide +kernel))) rfl
theorem k_846 : Cond.selects RX10 yX10_coat yX10_coat ∈ BIG := mB (tb_3 (List.mem_of_getElem? (i := 26) (by decide +kernel))) rfl
theorem k_847 : Cond.code yX10_coat cX10_coat 3 (some .int) ∈ BIG := mB (tb_3 (List.mem_of_getElem? (i := 27) (by decide +kernel))) rfl
theorem k_848 : Cond.methodLink RX10 138 yX7_hasCoat ∈ BIG := mB (tb_3 (List.mem_of_getElem? (i := 28) (by decide +kernel))) rfl
theorem k_849 : Cond.methodLink RX10 141 yX1_wearer ∈ BIG := mB (tb_3 (List.mem_of_getElem? (i := 29) (by decide +kernel))) rfl
theorem k_850 : Cond.instanceMethod yX1_wearer ∈ BIG := mB (tb_3 (List.mem_of_getElem? (i := 30) (by decide +kernel))) rfl
theorem k_851 : Cond.selects RX1 yX1_wearer yX1_wearer ∈ BIG := mB (tb_3 (List.mem_of_getElem? (i := 31) (by decide +kernel))) rfl
theorem k_852 : Cond.code yX1_wearer cX1_wearer 3 (some .int) ∈ BIG := mB (tb_3 (List.mem_of_getElem? (i := 32) (by decide +kernel))) rfl
theorem k_853 : Cond.methodLink RX1 51 yX1_wears ∈ BIG := mB (tb_3 (List.mem_of_getElem? (i := 33) (by decide +kernel))) rfl
theorem k_854 : Cond.methodLink RX10 144 yX1_part ∈ BIG := mB (tb_3 (List.mem_of_getElem? (i := 34) (by decide +kernel))) rfl
theorem k_855 : Cond.methodLink RL 41 yX10_misfit ∈ BIG := mB (tb_3 (List.mem_of_getElem? (i := 35) (by decide +kernel))) rfl
theorem k_856 : Cond.instanceMethod yX10_misfit ∈ BIG := mB (tb_3 (List.mem_of_getElem? (i := 36) (by decide +kernel))) rfl
theorem k_857 : Cond.selects RX10 yX10_misfit yX10_misfit ∈ BIG := mB (tb_3 (List.mem_of_getElem? (i := 37) (by decide +kernel))) rfl
theorem k_858 : Cond.code yX10_misfit cX10_misfit 3 (some .int) ∈ BIG := mB (tb_3 (List.mem_of_getElem? (i := 38) (by decide +kernel))) rfl
theorem k_859 : Cond.methodLink RX10 147 yX1_illness ∈ BIG := mB (tb_3 (List.mem_of_getElem? (i := 39) (by decide +kernel))) rfl
theorem k_860 : Cond.methodLink RL 45 yX10_day ∈ BIG := mB (tb_3 (List.mem_of_getElem? (i := 40) (by decide +kernel))) rfl
theorem k_861 : Cond.instanceMethod yX10_day ∈ BIG := mB (tb_3 (List.mem_of_getElem? (i := 41) (by decide +kernel))) rfl
theorem k_862 : Cond.selects RX10 yX10_day yX10_day ∈ BIG := mB (tb_3 (List.mem_of_getElem? (i := 42) (by decide +kernel))) rfl
theorem k_863 : Cond.code yX10_day cX10_day 2 (some .int) ∈ BIG := mB (tb_3 (List.mem_of_getElem? (i := 43) (by decide +kernel))) rfl
theorem k_864 : Cond.methodLink RX10 150 yX1_today ∈ BIG := mB (tb_3 (List.mem_of_getElem? (i := 44) (by decide +kernel))) rfl
theorem k_865 : Cond.methodLink RX10 157 yX1_passDay ∈ BIG := mB (tb_3 (List.mem_of_getElem? (i := 45) (by decide +kernel))) rfl
theorem k_866 : Cond.instanceMethod yX1_passDay ∈ BIG := mB (tb_3 (List.mem_of_getElem? (i := 46) (by decide +kernel))) rfl
theorem k_867 : Cond.selects RX1 yX1_passDay yX1_passDay ∈ BIG := mB (tb_3 (List.mem_of_getElem? (i := 47) (by decide +kernel))) rfl
theorem k_868 : Cond.code yX1_passDay cX1_passDay 5 (some .int) ∈ BIG := mB (tb_3 (List.mem_of_getElem? (i := 48) (by decide +kernel))) rfl
theorem k_869 : Cond.methodLink RX1 88 Lib.Math.min.name ∈ BIG := mB (tb_3 (List.mem_of_getElem? (i := 49) (by decide +kernel))) rfl
theorem k_870 : Cond.methodLink RX1 93 yX1_weather ∈ BIG := mB (tb_3 (List.mem_of_getElem? (i := 50) (by decide +kernel))) rfl
theorem k_872 : Cond.instanceMethod yX1_weather ∈ BIG := mB (tb_3 (List.mem_of_getElem? (i := 52) (by decide +kernel))) rfl
theorem k_873 : Cond.code yX1_weather cX1_weather 3 none ∈ BIG := mB (tb_3 (List.mem_of_getElem? (i := 53) (by decide +kernel))) rfl
theorem k_874 : Cond.methodLink RX1 100 yX1_setPart ∈ BIG := mB (tb_3 (List.mem_of_getElem? (i := 54) (by decide +kernel))) rfl
theorem k_875 : Cond.instanceMethod yX1_setPart ∈ BIG := mB (tb_3 (List.mem_of_getElem? (i := 55) (by decide +kernel))) rfl
theorem k_876 : Cond.selects RX1 yX1_setPart yX1_setPart ∈ BIG := mB (tb_3 (List.mem_of_getElem? (i := 56) (by decide +kernel))) rfl
theorem k_877 : Cond.code yX1_setPart cX1_setPart 4 none ∈ BIG := mB (tb_3 (List.mem_of_getElem? (i := 57) (by decide +kernel))) rfl
theorem k_878 : Cond.methodLink RX1 104 Lib.Math.max.name ∈ BIG := mB (tb_3 (List.mem_of_getElem? (i := 58) (by decide +kernel))) rfl
theorem k_879 : Cond.methodLink RX1 97 yX1_setWears ∈ BIG := mB (tb_3 (List.mem_of_getElem? (i := 59) (by decide +kernel))) rfl
theorem k_880 : Cond.instanceMethod yX1_setWears ∈ BIG := mB (tb_3 (List.mem_of_getElem? (i := 60) (by decide +kernel))) rfl
theorem k_881 : Cond.selects RX1 yX1_setWears yX1_setWears ∈ BIG := mB (tb_3 (List.mem_of_getElem? (i := 61) (by decide +kernel))) rfl
theorem k_882 : Cond.code yX1_setWears cX1_setWears 3 none ∈ BIG := mB (tb_3 (List.mem_of_getElem? (i := 62) (by decide +kernel))) rfl
theorem k_883 : Cond.methodLink RX10 160 yX5_keepAct ∈ BIG := mB (tb_3 (List.mem_of_getElem? (i := 63) (by decide +kernel))) rfl
theorem k_884 : Cond.instanceMethod yX5_keepAct ∈ BIG := mB (tb_3 (List.mem_of_getElem? (i := 64) (by decide +kernel))) rfl
theorem k_885 : Cond.selects RX5 yX5_keepAct yX5_keepAct ∈ BIG := mB (tb_3 (List.mem_of_getElem? (i := 65) (by decide +kernel))) rfl
theorem k_886 : Cond.code yX5_keepAct cX5_keepAct 1 none ∈ BIG := mB (tb_3 (List.mem_of_getElem? (i := 66) (by decide +kernel))) rfl
theorem k_887 : Cond.methodLink RL 49 yX10_don ∈ BIG := mB (tb_3 (List.mem_of_getElem? (i := 67) (by decide +kernel))) rfl
theorem k_888 : Cond.instanceMethod yX10_don ∈ BIG := mB (tb_3 (List.mem_of_getElem? (i := 68) (by decide +kernel))) rfl
theorem k_889 : Cond.selects RX10 yX10_don yX10_don ∈ BIG := mB (tb_3 (List.mem_of_getElem? (i := 69) (by decide +kernel))) rfl
theorem k_890 : Cond.code yX10_don cX10_don 4 (some .int) ∈ BIG := mB (tb_3 (List.mem_of_getElem? (i := 70) (by decide +kernel))) rfl
theorem k_891 : Cond.methodLink RX10 163 yX1_setWears ∈ BIG := mB (tb_3 (List.mem_of_getElem? (i := 71) (by decide +kernel))) rfl
theorem k_892 : Cond.methodLink RL 53 yX10_doff ∈ BIG := mB (tb_3 (List.mem_of_getElem? (i := 72) (by decide +kernel))) rfl
theorem k_893 : Cond.instanceMethod yX10_doff ∈ BIG := mB (tb_3 (List.mem_of_getElem? (i := 73) (by decide +kernel))) rfl
theorem k_894 : Cond.selects RX10 yX10_doff yX10_doff ∈ BIG := mB (tb_3 (List.mem_of_getElem? (i := 74) (by decide +kernel))) rfl
theorem k_895 : Cond.code yX10_doff cX10_doff 3 (some .int) ∈ BIG := mB (tb_3 (List.mem_of_getElem? (i := 75) (by decide +kernel))) rfl
theorem k_896 : Cond.methodLink RL 57 yX10_letout ∈ BIG := mB (tb_3 (List.mem_of_getElem? (i := 76) (by decide +kernel))) rfl
theorem k_897 : Cond.instanceMethod yX10_letout ∈ BIG := mB (tb_3 (List.mem_of_getElem? (i := 77) (by decide +kernel))) rfl
theorem k_898 : Cond.selects RX10 yX10_letout yX10_letout ∈ BIG := mB (tb_3 (List.mem_of_getElem? (i := 78) (by decide +kernel))) rfl
theorem k_899 : Cond.code yX10_letout cX10_letout 3 (some .int) ∈ BIG := mB (tb_3 (List.mem_of_getElem? (i := 79) (by decide +kernel))) rfl
theorem k_900 : Cond.methodLink RX10 167 yX10_widen ∈ BIG := mB (tb_3 (List.mem_of_getElem? (i := 80) (by decide +kernel))) rfl
theorem k_902 : Cond.instanceMethod yX10_widen ∈ BIG := mB (tb_3 (List.mem_of_getElem? (i := 82) (by decide +kernel))) rfl
theorem k_903 : Cond.code yX10_widen cX10_widen 5 (some .int) ∈ BIG := mB (tb_3 (List.mem_of_getElem? (i := 83) (by decide +kernel))) rfl
theorem k_904 : Cond.methodLink RX10 170 yX1_setPart ∈ BIG := mB (tb_3 (List.mem_of_getElem? (i := 84) (by decide +kernel))) rfl
theorem k_905 : Cond.methodLink RL 61 yX10_takein ∈ BIG := mB (tb_3 (List.mem_of_getElem? (i := 85) (by decide +kernel))) rfl
theorem k_906 : Cond.instanceMethod yX10_takein ∈ BIG := mB (tb_3 (List.mem_of_getElem? (i := 86) (by decide +kernel))) rfl
theorem k_907 : Cond.selects RX10 yX10_takein yX10_takein ∈ BIG := mB (tb_3 (List.mem_of_getElem? (i := 87) (by decide +kernel))) rfl
theorem k_908 : Cond.code yX10_takein cX10_takein 3 (some .int) ∈ BIG := mB (tb_3 (List.mem_of_getElem? (i := 88) (by decide +kernel))) rfl
theorem k_909 : Cond.methodLink RL 65 yX10_hem ∈ BIG := mB (tb_3 (List.mem_of_getElem? (i := 89) (by decide +kernel))) rfl
theorem k_910 : Cond.instanceMethod yX10_hem ∈ BIG := mB (tb_3 (List.mem_of_getElem? (i := 90) (by decide +kernel))) rfl
theorem k_911 : Cond.selects RX10 yX10_hem yX10_hem ∈ BIG := mB (tb_3 (List.mem_of_getElem? (i := 91) (by decide +kernel))) rfl
theorem k_912 : Cond.code yX10_hem cX10_hem 4 (some .int) ∈ BIG := mB (tb_3 (List.mem_of_getElem? (i := 92) (by decide +kernel))) rfl
theorem k_913 : Cond.methodLink RL 69 yX10_turn ∈ BIG := mB (tb_3 (List.mem_of_getElem? (i := 93) (by decide +kernel))) rfl
theorem k_914 : Cond.instanceMethod yX10_turn ∈ BIG := mB (tb_3 (List.mem_of_getElem? (i := 94) (by decide +kernel))) rfl
theorem k_915 : Cond.selects RX10 yX10_turn yX10_turn ∈ BIG := mB (tb_3 (List.mem_of_getElem? (i := 95) (by decide +kernel))) rfl
theorem k_916 : Cond.code yX10_turn cX10_turn 3 (some .int) ∈ BIG := mB (tb_3 (List.mem_of_getElem? (i := 96) (by decide +kernel))) rfl
theorem k_917 : Cond.methodLink RL 73 yX10_undo ∈ BIG := mB (tb_3 (List.mem_of_getElem? (i := 97) (by decide +kernel))) rfl
theorem k_918 : Cond.instanceMethod yX10_undo ∈ BIG := mB (tb_3 (List.mem_of_getElem? (i := 98) (by decide +kernel))) rfl
theorem k_919 : Cond.selects RX10 yX10_undo yX10_undo ∈ BIG := mB (tb_3 (List.mem_of_getElem? (i := 99) (by decide +kernel))) rfl
theorem k_920 : Cond.code yX10_undo cX10_undo 1 (some .boolean) ∈ BIG := mB (tb_3 (List.mem_of_getElem? (i := 100) (by decide +kernel))) rfl
theorem k_921 : Cond.methodLink RX10 174 yX5_stepBack ∈ BIG := mB (tb_3 (List.mem_of_getElem? (i := 101) (by decide +kernel))) rfl
theorem k_922 : Cond.instanceMethod yX5_stepBack ∈ BIG := mB (tb_3 (List.mem_of_getElem? (i := 102) (by decide +kernel))) rfl
theorem k_923 : Cond.selects RX5 yX5_stepBack yX5_stepBack ∈ BIG := mB (tb_3 (List.mem_of_getElem? (i := 103) (by decide +kernel))) rfl
theorem k_924 : Cond.code yX5_stepBack cX5_stepBack 1 (some .boolean) ∈ BIG := mB (tb_3 (List.mem_of_getElem? (i := 104) (by decide +kernel))) rfl
theorem k_925 : Cond.methodLink RX5 44 yX1_loadFrom ∈ BIG := mB (tb_3 (List.mem_of_getElem? (i := 105) (by decide +kernel))) rfl
theorem k_926 : Cond.instanceMethod yX1_loadFrom ∈ BIG := mB (tb_3 (List.mem_of_getElem? (i := 106) (by decide +kernel))) rfl
theorem k_927 : Cond.selects RX1 yX1_loadFrom yX1_loadFrom ∈ BIG := mB (tb_3 (List.mem_of_getElem? (i := 107) (by decide +kernel))) rfl
theorem k_928 : Cond.code yX1_loadFrom cX1_loadFrom 3 none ∈ BIG := mB (tb_3 (List.mem_of_getElem? (i := 108) (by decide +kernel))) rfl
theorem k_929 : Cond.methodLink RL 78 yX10_redo ∈ BIG := mB (tb_3 (List.mem_of_getElem? (i := 109) (by decide +kernel))) rfl
theorem k_930 : Cond.instanceMethod yX10_redo ∈ BIG := mB (tb_3 (List.mem_of_getElem? (i := 110) (by decide +kernel))) rfl
theorem k_931 : Cond.selects RX10 yX10_redo yX10_redo ∈ BIG := mB (tb_3 (List.mem_of_getElem? (i := 111) (by decide +kernel))) rfl
theorem k_932 : Cond.code yX10_redo cX10_redo 1 (some .boolean) ∈ BIG := mB (tb_3 (List.mem_of_getElem? (i := 112) (by decide +kernel))) rfl
theorem k_933 : Cond.methodLink RX10 177 yX5_stepOn ∈ BIG := mB (tb_3 (List.mem_of_getElem? (i := 113) (by decide +kernel))) rfl
theorem k_934 : Cond.instanceMethod yX5_stepOn ∈ BIG := mB (tb_3 (List.mem_of_getElem? (i := 114) (by decide +kernel))) rfl
theorem k_935 : Cond.selects RX5 yX5_stepOn yX5_stepOn ∈ BIG := mB (tb_3 (List.mem_of_getElem? (i := 115) (by decide +kernel))) rfl
theorem k_936 : Cond.code yX5_stepOn cX5_stepOn 1 (some .boolean) ∈ BIG := mB (tb_3 (List.mem_of_getElem? (i := 116) (by decide +kernel))) rfl
theorem k_937 : Cond.methodLink RL 82 yX10_will ∈ BIG := mB (tb_3 (List.mem_of_getElem? (i := 117) (by decide +kernel))) rfl
theorem k_938 : Cond.instanceMethod yX10_will ∈ BIG := mB (tb_3 (List.mem_of_getElem? (i := 118) (by decide +kernel))) rfl
theorem k_939 : Cond.selects RX10 yX10_will yX10_will ∈ BIG := mB (tb_3 (List.mem_of_getElem? (i := 119) (by decide +kernel))) rfl
theorem k_940 : Cond.code yX10_will cX10_will 4 (some .int) ∈ BIG := mB (tb_3 (List.mem_of_getElem? (i := 120) (by decide +kernel))) rfl
theorem k_941 : Cond.methodLink RX10 180 yX3_coatBehind ∈ BIG := mB (tb_3 (List.mem_of_getElem? (i := 121) (by decide +kernel))) rfl
theorem k_942 : Cond.instanceMethod yX3_coatBehind ∈ BIG := mB (tb_3 (List.mem_of_getElem? (i := 122) (by decide +kernel))) rfl
theorem k_943 : Cond.selects RX3 yX3_coatBehind yX3_coatBehind ∈ BIG := mB (tb_3 (List.mem_of_getElem? (i := 123) (by decide +kernel))) rfl
theorem k_944 : Cond.code yX3_coatBehind cX3_coatBehind 5 (some .int) ∈ BIG := mB (tb_3 (List.mem_of_getElem? (i := 124) (by decide +kernel))) rfl
theorem k_945 : Cond.methodLink RX3 27 yX1_copy ∈ BIG := mB (tb_3 (List.mem_of_getElem? (i := 125) (by decide +kernel))) rfl
theorem k_946 : Cond.instanceMethod yX1_copy ∈ BIG := mB (tb_3 (List.mem_of_getElem? (i := 126) (by decide +kernel))) rfl
theorem k_947 : Cond.selects RX1 yX1_copy yX1_copy ∈ BIG := mB (tb_3 (List.mem_of_getElem? (i := 127) (by decide +kernel))) rfl
theorem k_948 : Cond.code yX1_copy cX1_copy 2 none ∈ BIG := mB (tb_3 (List.mem_of_getElem? (i := 128) (by decide +kernel))) rfl
theorem k_949 : Cond.methodLink RX3 31 yX1_passDay ∈ BIG := mB (tb_3 (List.mem_of_getElem? (i := 129) (by decide +kernel))) rfl
theorem k_950 : Cond.methodLink RX3 35 yX1_wears ∈ BIG := mB (tb_3 (List.mem_of_getElem? (i := 130) (by decide +kernel))) rfl
theorem k_951 : Cond.methodLink RL 87 yX10_out ∈ BIG := mB (tb_3 (List.mem_of_getElem? (i := 131) (by decide +kernel))) rfl
theorem k_952 : Cond.instanceMethod yX10_out ∈ BIG := mB (tb_3 (List.mem_of_getElem? (i := 132) (by decide +kernel))) rfl
theorem k_953 : Cond.selects RX10 yX10_out yX10_out ∈ BIG := mB (tb_3 (List.mem_of_getElem? (i := 133) (by decide +kernel))) rfl
theorem k_954 : Cond.code yX10_out cX10_out 2 (some .int) ∈ BIG := mB (tb_3 (List.mem_of_getElem? (i := 134) (by decide +kernel))) rfl
theorem k_955 : Cond.methodLink RX10 184 yX3_daysTillOut ∈ BIG := mB (tb_3 (List.mem_of_getElem? (i := 135) (by decide +kernel))) rfl
theorem k_956 : Cond.instanceMethod yX3_daysTillOut ∈ BIG := mB (tb_3 (List.mem_of_getElem? (i := 136) (by decide +kernel))) rfl
theorem k_957 : Cond.selects RX3 yX3_daysTillOut yX3_daysTillOut ∈ BIG := mB (tb_3 (List.mem_of_getElem? (i := 137) (by decide +kernel))) rfl
theorem k_958 : Cond.code yX3_daysTillOut cX3_daysTillOut 3 (some .int) ∈ BIG := mB (tb_3 (List.mem_of_getElem? (i := 138) (by decide +kernel))) rfl
theorem k_959 : Cond.methodLink RL 91 yX10_fitted ∈ BIG := mB (tb_3 (List.mem_of_getElem? (i := 139) (by decide +kernel))) rfl
theorem k_960 : Cond.instanceMethod yX10_fitted ∈ BIG := mB (tb_3 (List.mem_of_getElem? (i := 140) (by decide +kernel))) rfl
theorem k_961 : Cond.selects RX10 yX10_fitted yX10_fitted ∈ BIG := mB (tb_3 (List.mem_of_getElem? (i := 141) (by decide +kernel))) rfl
theorem k_962 : Cond.code yX10_fitted cX10_fitted 1 (some .int) ∈ BIG := mB (tb_3 (List.mem_of_getElem? (i := 142) (by decide +kernel))) rfl
theorem k_963 : Cond.methodLink RX10 187 yX1_fittedMen ∈ BIG := mB (tb_3 (List.mem_of_getElem? (i := 143) (by decide +kernel))) rfl
theorem k_964 : Cond.instanceMethod yX1_fittedMen ∈ BIG := mB (tb_3 (List.mem_of_getElem? (i := 144) (by decide +kernel))) rfl
theorem k_965 : Cond.selects RX1 yX1_fittedMen yX1_fittedMen ∈ BIG := mB (tb_3 (List.mem_of_getElem? (i := 145) (by decide +kernel))) rfl
theorem k_966 : Cond.code yX1_fittedMen cX1_fittedMen 3 (some .int) ∈ BIG := mB (tb_3 (List.mem_of_getElem? (i := 146) (by decide +kernel))) rfl
theorem k_967 : Cond.methodLink RL 95 yX10_dress ∈ BIG := mB (tb_3 (List.mem_of_getElem? (i := 147) (by decide +kernel))) rfl
theorem k_968 : Cond.instanceMethod yX10_dress ∈ BIG := mB (tb_3 (List.mem_of_getElem? (i := 148) (by decide +kernel))) rfl
theorem k_969 : Cond.selects RX10 yX10_dress yX10_dress ∈ BIG := mB (tb_3 (List.mem_of_getElem? (i := 149) (by decide +kernel))) rfl
theorem k_970 : Cond.code yX10_dress cX10_dress 2 (some .int) ∈ BIG := mB (tb_3 (List.mem_of_getElem? (i := 150) (by decide +kernel))) rfl
theorem k_971 : Cond.methodLink RX10 190 yX0_layDressing ∈ BIG := mB (tb_3 (List.mem_of_getElem? (i := 151) (by decide +kernel))) rfl
theorem k_972 : Cond.instanceMethod yX0_layDressing ∈ BIG := mB (tb_3 (List.mem_of_getElem? (i := 152) (by decide +kernel))) rfl
theorem k_973 : Cond.selects RX0 yX0_layDressing yX0_layDressing ∈ BIG := mB (tb_3 (List.mem_of_getElem? (i := 153) (by decide +kernel))) rfl
theorem k_974 : Cond.code yX0_layDressing cX0_layDressing 4 none ∈ BIG := mB (tb_3 (List.mem_of_getElem? (i := 154) (by decide +kernel))) rfl
theorem k_975 : Cond.methodLink RX0 33 yX0_reckonGains ∈ BIG := mB (tb_3 (List.mem_of_getElem? (i := 155) (by decide +kernel))) rfl
theorem k_977 : Cond.instanceMethod yX0_reckonGains ∈ BIG := mB (tb_3 (List.mem_of_getElem? (i := 157) (by decide +kernel))) rfl
theorem k_978 : Cond.code yX0_reckonGains cX0_reckonGains 4 none ∈ BIG := mB (tb_3 (List.mem_of_getElem? (i := 158) (by decide +kernel))) rfl
theorem k_979 : Cond.methodLink RX0 61 yX1_illness ∈ BIG := mB (tb_3 (List.mem_of_getElem? (i := 159) (by decide +kernel))) rfl
theorem k_980 : Cond.methodLink RX0 36 yX0_reckonBest ∈ BIG := mB (tb_3 (List.mem_of_getElem? (i := 160) (by decide +kernel))) rfl
theorem k_982 : Cond.instanceMethod yX0_reckonBest ∈ BIG := mB (tb_3 (List.mem_of_getElem? (i := 162) (by decide +kernel))) rfl
theorem k_983 : Cond.code yX0_reckonBest cX0_reckonBest 5 none ∈ BIG := mB (tb_3 (List.mem_of_getElem? (i := 163) (by decide +kernel))) rfl
theorem k_984 : Cond.methodLink RX0 72 yJ7_fill_53178 ∈ BIG := mB (tb_3 (List.mem_of_getElem? (i := 164) (by decide +kernel))) rfl
theorem k_985 : Cond.methodLink RX0 78 yX0_worthOf ∈ BIG := mB (tb_3 (List.mem_of_getElem? (i := 165) (by decide +kernel))) rfl
theorem k_987 : Cond.instanceMethod yX0_worthOf ∈ BIG := mB (tb_3 (List.mem_of_getElem? (i := 167) (by decide +kernel))) rfl
theorem k_988 : Cond.code yX0_worthOf cX0_worthOf 5 (some .int) ∈ BIG := mB (tb_3 (List.mem_of_getElem? (i := 168) (by decide +kernel))) rfl
theorem k_989 : Cond.methodLink RX0 82 Lib.Math.max.name ∈ BIG := mB (tb_3 (List.mem_of_getElem? (i := 169) (by decide +kernel))) rfl
theorem k_990 : Cond.methodLink RX0 39 yX0_clear ∈ BIG := mB (tb_3 (List.mem_of_getElem? (i := 170) (by decide +kernel))) rfl
theorem k_991 : Cond.methodLink RX0 53 yX0_firstBest ∈ BIG := mB (tb_3 (List.mem_of_getElem? (i := 171) (by decide +kernel))) rfl
theorem k_993 : Cond.instanceMethod yX0_firstBest ∈ BIG := mB (tb_3 (List.mem_of_getElem? (i := 173) (by decide +kernel))) rfl
theorem k_994 : Cond.code yX0_firstBest cX0_firstBest 4 (some .int) ∈ BIG := mB (tb_3 (List.mem_of_getElem? (i := 174) (by decide +kernel))) rfl
theorem k_995 : Cond.methodLink RX0 57 yX0_lay ∈ BIG := mB (tb_3 (List.mem_of_getElem? (i := 175) (by decide +kernel))) rfl
theorem k_997 : Cond.instanceMethod yX0_lay ∈ BIG := mB (tb_3 (List.mem_of_getElem? (i := 177) (by decide +kernel))) rfl
theorem k_998 : Cond.code yX0_lay cX0_lay 2 none ∈ BIG := mB (tb_3 (List.mem_of_getElem? (i := 178) (by decide +kernel))) rfl
theorem k_999 : Cond.methodLink RL 99 yX10_sewing ∈ BIG := mB (tb_3 (List.mem_of_getElem? (i := 179) (by decide +kernel))) rfl
theorem k_1000 : Cond.instanceMethod yX10_sewing ∈ BIG := mB (tb_3 (List.mem_of_getElem? (i := 180) (by decide +kernel))) rfl
theorem k_1001 : Cond.selects RX10 yX10_sewing yX10_sewing ∈ BIG := mB (tb_3 (List.mem_of_getElem? (i := 181) (by decide +kernel))) rfl
theorem k_1002 : Cond.code yX10_sewing cX10_sewing 4 (some .int) ∈ BIG := mB (tb_3 (List.mem_of_getElem? (i := 182) (by decide +kernel))) rfl
theorem k_1003 : Cond.methodLink RX10 199 yX3_findSewing ∈ BIG := mB (tb_3 (List.mem_of_getElem? (i := 183) (by decide +kernel))) rfl
theorem k_1004 : Cond.instanceMethod yX3_findSewing ∈ BIG := mB (tb_3 (List.mem_of_getElem? (i := 184) (by decide +kernel))) rfl
theorem k_1005 : Cond.selects RX3 yX3_findSewing yX3_findSewing ∈ BIG := mB (tb_3 (List.mem_of_getElem? (i := 185) (by decide +kernel))) rfl
theorem k_1006 : Cond.code yX3_findSewing cX3_findSewing 6 (some .boolean) ∈ BIG := mB (tb_3 (List.mem_of_getElem? (i := 186) (by decide +kernel))) rfl
theorem k_1007 : Cond.methodLink RX3 42 Lib.Math.max.name ∈ BIG := mB (tb_3 (List.mem_of_getElem? (i := 187) (by decide +kernel))) rfl
theorem k_1008 : Cond.methodLink RX3 48 yX3_sewnFits ∈ BIG := mB (tb_3 (List.mem_of_getElem? (i := 188) (by decide +kernel))) rfl
theorem k_1010 : Cond.instanceMethod yX3_sewnFits ∈ BIG := mB (tb_3 (List.mem_of_getElem? (i := 190) (by decide +kernel))) rfl
theorem k_1011 : Cond.code yX3_sewnFits cX3_sewnFits 7 (some .boolean) ∈ BIG := mB (tb_3 (List.mem_of_getElem? (i := 191) (by decide +kernel))) rfl
theorem k_1012 : Cond.methodLink RX3 52 yX1_part ∈ BIG := mB (tb_3 (List.mem_of_getElem? (i := 192) (by decide +kernel))) rfl
theorem k_1013 : Cond.methodLink RX3 68 yX7_manPart ∈ BIG := mB (tb_3 (List.mem_of_getElem? (i := 193) (by decide +kernel))) rfl
theorem k_1014 : Cond.methodLink RX3 71 yX1_manWide ∈ BIG := mB (tb_3 (List.mem_of_getElem? (i := 194) (by decide +kernel))) rfl
theorem k_1015 : Cond.methodLink RX3 74 yX1_today ∈ BIG := mB (tb_3 (List.mem_of_getElem? (i := 195) (by decide +kernel))) rfl
theorem k_1016 : Cond.methodLink RX3 77 yX4_worth ∈ BIG := mB (tb_3 (List.mem_of_getElem? (i := 196) (by decide +kernel))) rfl
theorem k_1017 : Cond.methodLink RX10 209 Lib.Math.abs.name ∈ BIG := mB (tb_3 (List.mem_of_getElem? (i := 197) (by decide +kernel))) rfl
theorem k_1018 : Cond.static Lib.Math.abs.name ∈ BIG := mB (tb_3 (List.mem_of_getElem? (i := 198) (by decide +kernel))) rfl
theorem k_1019 : Cond.code Lib.Math.abs.name Lib.Math.abs.code 1 (some .int) ∈ BIG := mB (tb_3 (List.mem_of_getElem? (i := 199) (by decide +kernel))) rfl
theorem k_1020 : Cond.methodLink RL 103 yX10_rota ∈ BIG := mB (tb_3 (List.mem_of_getElem? (i := 200) (by decide +kernel))) rfl
theorem k_1021 : Cond.instanceMethod yX10_rota ∈ BIG := mB (tb_3 (List.mem_of_getElem? (i := 201) (by decide +kernel))) rfl
theorem k_1022 : Cond.selects RX10 yX10_rota yX10_rota ∈ BIG := mB (tb_3 (List.mem_of_getElem? (i := 202) (by decide +kernel))) rfl
theorem k_1023 : Cond.code yX10_rota cX10_rota 2 (some .int) ∈ BIG := mB (tb_3 (List.mem_of_getElem? (i := 203) (by decide +kernel))) rfl
theorem k_1024 : Cond.methodLink RX10 214 yX3_findRota ∈ BIG := mB (tb_3 (List.mem_of_getElem? (i := 204) (by decide +kernel))) rfl
theorem k_1025 : Cond.instanceMethod yX3_findRota ∈ BIG := mB (tb_3 (List.mem_of_getElem? (i := 205) (by decide +kernel))) rfl
theorem k_1026 : Cond.selects RX3 yX3_findRota yX3_findRota ∈ BIG := mB (tb_3 (List.mem_of_getElem? (i := 206) (by decide +kernel))) rfl
theorem k_1027 : Cond.code yX3_findRota cX3_findRota 3 none ∈ BIG := mB (tb_3 (List.mem_of_getElem? (i := 207) (by decide +kernel))) rfl
theorem k_1028 : Cond.methodLink RX3 95 yX3_rotaCount ∈ BIG := mB (tb_3 (List.mem_of_getElem? (i := 208) (by decide +kernel))) rfl
theorem k_1030 : Cond.instanceMethod yX3_rotaCount ∈ BIG := mB (tb_3 (List.mem_of_getElem? (i := 210) (by decide +kernel))) rfl
theorem k_1031 : Cond.code yX3_rotaCount cX3_rotaCount 5 (some .int) ∈ BIG := mB (tb_3 (List.mem_of_getElem? (i := 211) (by decide +kernel))) rfl
theorem k_1032 : Cond.methodLink RX3 98 yX1_fits ∈ BIG := mB (tb_3 (List.mem_of_getElem? (i := 212) (by decide +kernel))) rfl
theorem k_1033 : Cond.methodLink RL 107 yX10_change ∈ BIG := mB (tb_3 (List.mem_of_getElem? (i := 213) (by decide +kernel))) rfl
theorem k_1034 : Cond.instanceMethod yX10_change ∈ BIG := mB (tb_3 (List.mem_of_getElem? (i := 214) (by decide +kernel))) rfl
theorem k_1035 : Cond.selects RX10 yX10_change yX10_change ∈ BIG := mB (tb_3 (List.mem_of_getElem? (i := 215) (by decide +kernel))) rfl
theorem k_1036 : Cond.code yX10_change cX10_change 2 (some .int) ∈ BIG := mB (tb_3 (List.mem_of_getElem? (i := 216) (by decide +kernel))) rfl
theorem k_1037 : Cond.methodLink RX10 223 yX3_findChange ∈ BIG := mB (tb_3 (List.mem_of_getElem? (i := 217) (by decide +kernel))) rfl
theorem k_1038 : Cond.instanceMethod yX3_findChange ∈ BIG := mB (tb_3 (List.mem_of_getElem? (i := 218) (by decide +kernel))) rfl
theorem k_1039 : Cond.selects RX3 yX3_findChange yX3_findChange ∈ BIG := mB (tb_3 (List.mem_of_getElem? (i := 219) (by decide +kernel))) rfl
theorem k_1040 : Cond.code yX3_findChange cX3_findChange 5 (some .boolean) ∈ BIG := mB (tb_3 (List.mem_of_getElem? (i := 220) (by decide +kernel))) rfl
theorem k_1041 : Cond.methodLink RX3 102 yX1_fittedMen ∈ BIG := mB (tb_3 (List.mem_of_getElem? (i := 221) (by decide +kernel))) rfl
theorem k_1042 : Cond.methodLink RX3 105 yJ6_bitCount_0f7a4 ∈ BIG := mB (tb_3 (List.mem_of_getElem? (i := 222) (by decide +kernel))) rfl
theorem k_1043 : Cond.static yJ6_bitCount_0f7a4 ∈ BIG := mB (tb_3 (List.mem_of_getElem? (i := 223) (by decide +kernel))) rfl
theorem k_1044 : Cond.code yJ6_bitCount_0f7a4 cJ6_bitCount_0f7a4 1 (some .int) ∈ BIG := mB (tb_3 (List.mem_of_getElem? (i := 224) (by decide +kernel))) rfl
theorem k_1045 : Cond.constant RJ6 265 1431655765 ∈ BIG := mB (tb_3 (List.mem_of_getElem? (i := 225) (by decide +kernel))) rfl
theorem k_1046 : Cond.constant RJ6 266 858993459 ∈ BIG := mB (tb_3 (List.mem_of_getElem? (i := 226) (by decide +kernel))) rfl
theorem k_1047 : Cond.constant RJ6 267 252645135 ∈ BIG := mB (tb_3 (List.mem_of_getElem? (i := 227) (by decide +kernel))) rfl
theorem k_1048 : Cond.methodLink RX3 113 yX3_changedCount ∈ BIG := mB (tb_3 (List.mem_of_getElem? (i := 228) (by decide +kernel))) rfl
theorem k_1050 : Cond.instanceMethod yX3_changedCount ∈ BIG := mB (tb_3 (List.mem_of_getElem? (i := 230) (by decide +kernel))) rfl
theorem k_1051 : Cond.code yX3_changedCount cX3_changedCount 6 (some .int) ∈ BIG := mB (tb_3 (List.mem_of_getElem? (i := 231) (by decide +kernel))) rfl
theorem k_1052 : Cond.methodLink RL 111 yX10_front ∈ BIG := mB (tb_3 (List.mem_of_getElem? (i := 232) (by decide +kernel))) rfl
theorem k_1053 : Cond.instanceMethod yX10_front ∈ BIG := mB (tb_3 (List.mem_of_getElem? (i := 233) (by decide +kernel))) rfl
theorem k_1054 : Cond.selects RX10 yX10_front yX10_front ∈ BIG := mB (tb_3 (List.mem_of_getElem? (i := 234) (by decide +kernel))) rfl
theorem k_1055 : Cond.code yX10_front cX10_front 4 (some .int) ∈ BIG := mB (tb_3 (List.mem_of_getElem? (i := 235) (by decide +kernel))) rfl
theorem k_1056 : Cond.methodLink RX10 235 yX2_frontOf ∈ BIG := mB (tb_3 (List.mem_of_getElem? (i := 236) (by decide +kernel))) rfl
theorem k_1057 : Cond.instanceMethod yX2_frontOf ∈ BIG := mB (tb_3 (List.mem_of_getElem? (i := 237) (by decide +kernel))) rfl
theorem k_1058 : Cond.selects RX2 yX2_frontOf yX2_frontOf ∈ BIG := mB (tb_3 (List.mem_of_getElem? (i := 238) (by decide +kernel))) rfl
theorem k_1059 : Cond.code yX2_frontOf cX2_frontOf 6 (some .int) ∈ BIG := mB (tb_3 (List.mem_of_getElem? (i := 239) (by decide +kernel))) rfl
theorem k_1060 : Cond.methodLink RX2 39 yX1_wearers ∈ BIG := mB (tb_4 (List.mem_of_getElem? (i := 0) (by decide +kernel))) rfl
theorem k_1061 : Cond.instanceMethod yX1_wearers ∈ BIG := mB (tb_4 (List.mem_of_getElem? (i := 1) (by decide +kernel))) rfl
theorem k_1062 : Cond.selects RX1 yX1_wearers yX1_wearers ∈ BIG := mB (tb_4 (List.mem_of_getElem? (i := 2) (by decide +kernel))) rfl
theorem k_1063 : Cond.code yX1_wearers cX1_wearers 3 (some .int) ∈ BIG := mB (tb_4 (List.mem_of_getElem? (i := 3) (by decide +kernel))) rfl
theorem k_1064 : Cond.methodLink RX2 43 yJ6_bitCount_0f7a4 ∈ BIG := mB (tb_4 (List.mem_of_getElem? (i := 4) (by decide +kernel))) rfl
theorem k_1065 : Cond.methodLink RX2 48 yX2_wideTogether ∈ BIG := mB (tb_4 (List.mem_of_getElem? (i := 5) (by decide +kernel))) rfl
theorem k_1066 : Cond.instanceMethod yX2_wideTogether ∈ BIG := mB (tb_4 (List.mem_of_getElem? (i := 6) (by decide +kernel))) rfl
theorem k_1067 : Cond.selects RX2 yX2_wideTogether yX2_wideTogether ∈ BIG := mB (tb_4 (List.mem_of_getElem? (i := 7) (by decide +kernel))) rfl
theorem k_1068 : Cond.code yX2_wideTogether cX2_wideTogether 4 (some .int) ∈ BIG := mB (tb_4 (List.mem_of_getElem? (i := 8) (by decide +kernel))) rfl
theorem k_1069 : Cond.methodLink RX2 29 yX1_wears ∈ BIG := mB (tb_4 (List.mem_of_getElem? (i := 9) (by decide +kernel))) rfl
theorem k_1070 : Cond.methodLink RX2 35 yX1_part ∈ BIG := mB (tb_4 (List.mem_of_getElem? (i := 10) (by decide +kernel))) rfl
theorem k_1071 : Cond.methodLink RX10 238 yJ6_bitCount_0f7a4 ∈ BIG := mB (tb_4 (List.mem_of_getElem? (i := 11) (by decide +kernel))) rfl
theorem k_1072 : Cond.methodLink RL 115 yX10_wings ∈ BIG := mB (tb_4 (List.mem_of_getElem? (i := 12) (by decide +kernel))) rfl
theorem k_1073 : Cond.instanceMethod yX10_wings ∈ BIG := mB (tb_4 (List.mem_of_getElem? (i := 13) (by decide +kernel))) rfl
theorem k_1074 : Cond.selects RX10 yX10_wings yX10_wings ∈ BIG := mB (tb_4 (List.mem_of_getElem? (i := 14) (by decide +kernel))) rfl
theorem k_1075 : Cond.code yX10_wings cX10_wings 3 (some .int) ∈ BIG := mB (tb_4 (List.mem_of_getElem? (i := 15) (by decide +kernel))) rfl
theorem k_1076 : Cond.methodLink RX10 243 yX2_leftWing ∈ BIG := mB (tb_4 (List.mem_of_getElem? (i := 16) (by decide +kernel))) rfl
theorem k_1077 : Cond.instanceMethod yX2_leftWing ∈ BIG := mB (tb_4 (List.mem_of_getElem? (i := 17) (by decide +kernel))) rfl
theorem k_1078 : Cond.selects RX2 yX2_leftWing yX2_leftWing ∈ BIG := mB (tb_4 (List.mem_of_getElem? (i := 18) (by decide +kernel))) rfl
theorem k_1079 : Cond.code yX2_leftWing cX2_leftWing 6 (some .int) ∈ BIG := mB (tb_4 (List.mem_of_getElem? (i := 19) (by decide +kernel))) rfl
theorem k_1080 : Cond.methodLink RX2 51 yJ6_lowestOneBit_0f7a4 ∈ BIG := mB (tb_4 (List.mem_of_getElem? (i := 20) (by decide +kernel))) rfl
theorem k_1081 : Cond.static yJ6_lowestOneBit_0f7a4 ∈ BIG := mB (tb_4 (List.mem_of_getElem? (i := 21) (by decide +kernel))) rfl
theorem k_1082 : Cond.code yJ6_lowestOneBit_0f7a4 cJ6_lowestOneBit_0f7a4 1 (some .int) ∈ BIG := mB (tb_4 (List.mem_of_getElem? (i := 22) (by decide +kernel))) rfl
theorem k_1083 : Cond.methodLink RX2 54 yX2_isEvener ∈ BIG := mB (tb_4 (List.mem_of_getElem? (i := 23) (by decide +kernel))) rfl
theorem k_1085 : Cond.instanceMethod yX2_isEvener ∈ BIG := mB (tb_4 (List.mem_of_getElem? (i := 25) (by decide +kernel))) rfl
theorem k_1086 : Cond.code yX2_isEvener cX2_isEvener 4 (some .boolean) ∈ BIG := mB (tb_4 (List.mem_of_getElem? (i := 26) (by decide +kernel))) rfl
theorem k_1087 : Cond.methodLink RX2 58 yX2_difference ∈ BIG := mB (tb_4 (List.mem_of_getElem? (i := 27) (by decide +kernel))) rfl
theorem k_1088 : Cond.instanceMethod yX2_difference ∈ BIG := mB (tb_4 (List.mem_of_getElem? (i := 28) (by decide +kernel))) rfl
theorem k_1089 : Cond.selects RX2 yX2_difference yX2_difference ∈ BIG := mB (tb_4 (List.mem_of_getElem? (i := 29) (by decide +kernel))) rfl
theorem k_1090 : Cond.code yX2_difference cX2_difference 2 (some .int) ∈ BIG := mB (tb_4 (List.mem_of_getElem? (i := 30) (by decide +kernel))) rfl
theorem k_1091 : Cond.methodLink RX2 61 Lib.Math.abs.name ∈ BIG := mB (tb_4 (List.mem_of_getElem? (i := 31) (by decide +kernel))) rfl
theorem k_1092 : Cond.methodLink RX10 246 yX2_difference ∈ BIG := mB (tb_4 (List.mem_of_getElem? (i := 32) (by decide +kernel))) rfl
theorem k_1093 : Cond.methodLink RL 119 yX10_cloth ∈ BIG := mB (tb_4 (List.mem_of_getElem? (i := 33) (by decide +kernel))) rfl
theorem k_1094 : Cond.instanceMethod yX10_cloth ∈ BIG := mB (tb_4 (List.mem_of_getElem? (i := 34) (by decide +kernel))) rfl
theorem k_1095 : Cond.selects RX10 yX10_cloth yX10_cloth ∈ BIG := mB (tb_4 (List.mem_of_getElem? (i := 35) (by decide +kernel))) rfl
theorem k_1096 : Cond.code yX10_cloth cX10_cloth 1 (some .int) ∈ BIG := mB (tb_4 (List.mem_of_getElem? (i := 36) (by decide +kernel))) rfl
theorem k_1097 : Cond.methodLink RX10 249 yX2_leastCloth ∈ BIG := mB (tb_4 (List.mem_of_getElem? (i := 37) (by decide +kernel))) rfl
theorem k_1098 : Cond.instanceMethod yX2_leastCloth ∈ BIG := mB (tb_4 (List.mem_of_getElem? (i := 38) (by decide +kernel))) rfl
theorem k_1099 : Cond.selects RX2 yX2_leastCloth yX2_leastCloth ∈ BIG := mB (tb_4 (List.mem_of_getElem? (i := 39) (by decide +kernel))) rfl
theorem k_1100 : Cond.code yX2_leastCloth cX2_leastCloth 3 (some .int) ∈ BIG := mB (tb_4 (List.mem_of_getElem? (i := 40) (by decide +kernel))) rfl
theorem k_1101 : Cond.methodLink RX2 72 yX2_leastLength ∈ BIG := mB (tb_4 (List.mem_of_getElem? (i := 41) (by decide +kernel))) rfl
theorem k_1103 : Cond.instanceMethod yX2_leastLength ∈ BIG := mB (tb_4 (List.mem_of_getElem? (i := 43) (by decide +kernel))) rfl
theorem k_1104 : Cond.code yX2_leastLength cX2_leastLength 6 (some .int) ∈ BIG := mB (tb_4 (List.mem_of_getElem? (i := 44) (by decide +kernel))) rfl
theorem k_1105 : Cond.methodLink RX2 75 yX2_rowLength ∈ BIG := mB (tb_4 (List.mem_of_getElem? (i := 45) (by decide +kernel))) rfl
theorem k_1107 : Cond.instanceMethod yX2_rowLength ∈ BIG := mB (tb_4 (List.mem_of_getElem? (i := 47) (by decide +kernel))) rfl
theorem k_1108 : Cond.code yX2_rowLength cX2_rowLength 5 (some .int) ∈ BIG := mB (tb_4 (List.mem_of_getElem? (i := 48) (by decide +kernel))) rfl
theorem k_1109 : Cond.methodLink RX2 81 Lib.Math.max.name ∈ BIG := mB (tb_4 (List.mem_of_getElem? (i := 49) (by decide +kernel))) rfl
theorem k_1110 : Cond.methodLink RX2 78 Lib.Math.min.name ∈ BIG := mB (tb_4 (List.mem_of_getElem? (i := 50) (by decide +kernel))) rfl
theorem k_1111 : Cond.methodLink RL 123 yX10_buttons ∈ BIG := mB (tb_4 (List.mem_of_getElem? (i := 51) (by decide +kernel))) rfl
theorem k_1112 : Cond.instanceMethod yX10_buttons ∈ BIG := mB (tb_4 (List.mem_of_getElem? (i := 52) (by decide +kernel))) rfl
theorem k_1113 : Cond.selects RX10 yX10_buttons yX10_buttons ∈ BIG := mB (tb_4 (List.mem_of_getElem? (i := 53) (by decide +kernel))) rfl
theorem k_1114 : Cond.code yX10_buttons cX10_buttons 1 (some .int) ∈ BIG := mB (tb_4 (List.mem_of_getElem? (i := 54) (by decide +kernel))) rfl
theorem k_1115 : Cond.methodLink RX10 252 yX0_layColours ∈ BIG := mB (tb_4 (List.mem_of_getElem? (i := 55) (by decide +kernel))) rfl
theorem k_1116 : Cond.instanceMethod yX0_layColours ∈ BIG := mB (tb_4 (List.mem_of_getElem? (i := 56) (by decide +kernel))) rfl
theorem k_1117 : Cond.selects RX0 yX0_layColours yX0_layColours ∈ BIG := mB (tb_4 (List.mem_of_getElem? (i := 57) (by decide +kernel))) rfl
theorem k_1118 : Cond.code yX0_layColours cX0_layColours 2 (some .int) ∈ BIG := mB (tb_4 (List.mem_of_getElem? (i := 58) (by decide +kernel))) rfl
theorem k_1119 : Cond.methodLink RX0 87 yX0_painted ∈ BIG := mB (tb_4 (List.mem_of_getElem? (i := 59) (by decide +kernel))) rfl
theorem k_1121 : Cond.instanceMethod yX0_painted ∈ BIG := mB (tb_4 (List.mem_of_getElem? (i := 61) (by decide +kernel))) rfl
theorem k_1122 : Cond.code yX0_painted cX0_painted 4 (some .boolean) ∈ BIG := mB (tb_4 (List.mem_of_getElem? (i := 62) (by decide +kernel))) rfl
theorem k_1123 : Cond.methodLink RX0 91 yX0_isClear ∈ BIG := mB (tb_4 (List.mem_of_getElem? (i := 63) (by decide +kernel))) rfl
theorem k_1125 : Cond.instanceMethod yX0_isClear ∈ BIG := mB (tb_4 (List.mem_of_getElem? (i := 65) (by decide +kernel))) rfl
theorem k_1126 : Cond.code yX0_isClear cX0_isClear 6 (some .boolean) ∈ BIG := mB (tb_4 (List.mem_of_getElem? (i := 66) (by decide +kernel))) rfl
theorem k_1127 : Cond.methodLink RX0 94 yX7_manPart ∈ BIG := mB (tb_4 (List.mem_of_getElem? (i := 67) (by decide +kernel))) rfl
theorem k_1128 : Cond.methodLink RX0 97 Lib.Math.abs.name ∈ BIG := mB (tb_4 (List.mem_of_getElem? (i := 68) (by decide +kernel))) rfl
theorem k_1129 : Cond.methodLink RL 127 yX10_reach ∈ BIG := mB (tb_4 (List.mem_of_getElem? (i := 69) (by decide +kernel))) rfl
theorem k_1130 : Cond.instanceMethod yX10_reach ∈ BIG := mB (tb_4 (List.mem_of_getElem? (i := 70) (by decide +kernel))) rfl
theorem k_1131 : Cond.selects RX10 yX10_reach yX10_reach ∈ BIG := mB (tb_4 (List.mem_of_getElem? (i := 71) (by decide +kernel))) rfl
theorem k_1132 : Cond.code yX10_reach cX10_reach 3 (some .int) ∈ BIG := mB (tb_4 (List.mem_of_getElem? (i := 72) (by decide +kernel))) rfl
theorem k_1133 : Cond.methodLink RX10 255 yX0_layRest ∈ BIG := mB (tb_4 (List.mem_of_getElem? (i := 73) (by decide +kernel))) rfl
theorem k_1134 : Cond.instanceMethod yX0_layRest ∈ BIG := mB (tb_4 (List.mem_of_getElem? (i := 74) (by decide +kernel))) rfl
theorem k_1135 : Cond.selects RX0 yX0_layRest yX0_layRest ∈ BIG := mB (tb_4 (List.mem_of_getElem? (i := 75) (by decide +kernel))) rfl
theorem k_1136 : Cond.code yX0_layRest cX0_layRest 8 (some .int) ∈ BIG := mB (tb_4 (List.mem_of_getElem? (i := 76) (by decide +kernel))) rfl
theorem k_1137 : Cond.methodLink RX0 104 yX0_isFree ∈ BIG := mB (tb_4 (List.mem_of_getElem? (i := 77) (by decide +kernel))) rfl
theorem k_1139 : Cond.instanceMethod yX0_isFree ∈ BIG := mB (tb_4 (List.mem_of_getElem? (i := 79) (by decide +kernel))) rfl
theorem k_1140 : Cond.code yX0_isFree cX0_isFree 2 (some .boolean) ∈ BIG := mB (tb_4 (List.mem_of_getElem? (i := 80) (by decide +kernel))) rfl
theorem k_1141 : Cond.methodLink RX0 112 yX1_wearer ∈ BIG := mB (tb_4 (List.mem_of_getElem? (i := 81) (by decide +kernel))) rfl
theorem k_1142 : Cond.methodLink RX0 108 yX0_isContent ∈ BIG := mB (tb_4 (List.mem_of_getElem? (i := 82) (by decide +kernel))) rfl
theorem k_1144 : Cond.instanceMethod yX0_isContent ∈ BIG := mB (tb_4 (List.mem_of_getElem? (i := 84) (by decide +kernel))) rfl
theorem k_1145 : Cond.code yX0_isContent cX0_isContent 6 (some .boolean) ∈ BIG := mB (tb_4 (List.mem_of_getElem? (i := 85) (by decide +kernel))) rfl
theorem k_1146 : Cond.methodLink RX0 115 yX0_illGetting ∈ BIG := mB (tb_4 (List.mem_of_getElem? (i := 86) (by decide +kernel))) rfl
theorem k_1148 : Cond.instanceMethod yX0_illGetting ∈ BIG := mB (tb_4 (List.mem_of_getElem? (i := 88) (by decide +kernel))) rfl
theorem k_1149 : Cond.code yX0_illGetting cX0_illGetting 4 (some .int) ∈ BIG := mB (tb_4 (List.mem_of_getElem? (i := 89) (by decide +kernel))) rfl
theorem k_1150 : Cond.methodLink RL 131 yX10_turning ∈ BIG := mB (tb_4 (List.mem_of_getElem? (i := 90) (by decide +kernel))) rfl
theorem k_1151 : Cond.instanceMethod yX10_turning ∈ BIG := mB (tb_4 (List.mem_of_getElem? (i := 91) (by decide +kernel))) rfl
theorem k_1152 : Cond.selects RX10 yX10_turning yX10_turning ∈ BIG := mB (tb_4 (List.mem_of_getElem? (i := 92) (by decide +kernel))) rfl
theorem k_1153 : Cond.code yX10_turning cX10_turning 1 (some .int) ∈ BIG := mB (tb_4 (List.mem_of_getElem? (i := 93) (by decide +kernel))) rfl
theorem k_1154 : Cond.methodLink RX10 258 yX3_bestTurning ∈ BIG := mB (tb_4 (List.mem_of_getElem? (i := 94) (by decide +kernel))) rfl
theorem k_1155 : Cond.instanceMethod yX3_bestTurning ∈ BIG := mB (tb_4 (List.mem_of_getElem? (i := 95) (by decide +kernel))) rfl
theorem k_1156 : Cond.selects RX3 yX3_bestTurning yX3_bestTurning ∈ BIG := mB (tb_4 (List.mem_of_getElem? (i := 96) (by decide +kernel))) rfl
theorem k_1157 : Cond.code yX3_bestTurning cX3_bestTurning 5 (some .int) ∈ BIG := mB (tb_4 (List.mem_of_getElem? (i := 97) (by decide +kernel))) rfl
theorem k_1158 : Cond.methodLink RX3 125 yX1_setPart ∈ BIG := mB (tb_4 (List.mem_of_getElem? (i := 98) (by decide +kernel))) rfl
theorem k_1159 : Cond.methodLink RL 135 yX10_rags ∈ BIG := mB (tb_4 (List.mem_of_getElem? (i := 99) (by decide +kernel))) rfl
theorem k_1160 : Cond.instanceMethod yX10_rags ∈ BIG := mB (tb_4 (List.mem_of_getElem? (i := 100) (by decide +kernel))) rfl
theorem k_1161 : Cond.selects RX10 yX10_rags yX10_rags ∈ BIG := mB (tb_4 (List.mem_of_getElem? (i := 101) (by decide +kernel))) rfl
theorem k_1162 : Cond.code yX10_rags cX10_rags 3 (some .int) ∈ BIG := mB (tb_4 (List.mem_of_getElem? (i := 102) (by decide +kernel))) rfl
theorem k_1163 : Cond.methodLink RX10 264 yX1_menFitting ∈ BIG := mB (tb_4 (List.mem_of_getElem? (i := 103) (by decide +kernel))) rfl
theorem k_1164 : Cond.instanceMethod yX1_menFitting ∈ BIG := mB (tb_4 (List.mem_of_getElem? (i := 104) (by decide +kernel))) rfl
theorem k_1165 : Cond.selects RX1 yX1_menFitting yX1_menFitting ∈ BIG := mB (tb_4 (List.mem_of_getElem? (i := 105) (by decide +kernel))) rfl
theorem k_1166 : Cond.code yX1_menFitting cX1_menFitting 4 (some .int) ∈ BIG := mB (tb_4 (List.mem_of_getElem? (i := 106) (by decide +kernel))) rfl
theorem k_1167 : Cond.methodLink RL 139 yX10_naked ∈ BIG := mB (tb_4 (List.mem_of_getElem? (i := 107) (by decide +kernel))) rfl
theorem k_1168 : Cond.instanceMethod yX10_naked ∈ BIG := mB (tb_4 (List.mem_of_getElem? (i := 108) (by decide +kernel))) rfl
theorem k_1169 : Cond.selects RX10 yX10_naked yX10_naked ∈ BIG := mB (tb_4 (List.mem_of_getElem? (i := 109) (by decide +kernel))) rfl
theorem k_1170 : Cond.code yX10_naked cX10_naked 3 (some .int) ∈ BIG := mB (tb_4 (List.mem_of_getElem? (i := 110) (by decide +kernel))) rfl
theorem k_1171 : Cond.methodLink RL 143 yX10_popular ∈ BIG := mB (tb_4 (List.mem_of_getElem? (i := 111) (by decide +kernel))) rfl
theorem k_1172 : Cond.instanceMethod yX10_popular ∈ BIG := mB (tb_4 (List.mem_of_getElem? (i := 112) (by decide +kernel))) rfl
theorem k_1173 : Cond.selects RX10 yX10_popular yX10_popular ∈ BIG := mB (tb_4 (List.mem_of_getElem? (i := 113) (by decide +kernel))) rfl
theorem k_1174 : Cond.code yX10_popular cX10_popular 2 (some .int) ∈ BIG := mB (tb_4 (List.mem_of_getElem? (i := 114) (by decide +kernel))) rfl
theorem k_1175 : Cond.methodLink RL 147 yX10_law ∈ BIG := mB (tb_4 (List.mem_of_getElem? (i := 115) (by decide +kernel))) rfl
theorem k_1176 : Cond.instanceMethod yX10_law ∈ BIG := mB (tb_4 (List.mem_of_getElem? (i := 116) (by decide +kernel))) rfl
theorem k_1177 : Cond.selects RX10 yX10_law yX10_law ∈ BIG := mB (tb_4 (List.mem_of_getElem? (i := 117) (by decide +kernel))) rfl
theorem k_1178 : Cond.code yX10_law cX10_law 2 (some .int) ∈ BIG := mB (tb_4 (List.mem_of_getElem? (i := 118) (by decide +kernel))) rfl
theorem k_1179 : Cond.methodLink RX10 267 yX3_fittingBy ∈ BIG := mB (tb_4 (List.mem_of_getElem? (i := 119) (by decide +kernel))) rfl
theorem k_1180 : Cond.instanceMethod yX3_fittingBy ∈ BIG := mB (tb_4 (List.mem_of_getElem? (i := 120) (by decide +kernel))) rfl
theorem k_1181 : Cond.selects RX3 yX3_fittingBy yX3_fittingBy ∈ BIG := mB (tb_4 (List.mem_of_getElem? (i := 121) (by decide +kernel))) rfl
theorem k_1182 : Cond.code yX3_fittingBy cX3_fittingBy 5 (some .int) ∈ BIG := mB (tb_4 (List.mem_of_getElem? (i := 122) (by decide +kernel))) rfl
theorem k_1183 : Cond.methodLink RX3 129 yX1_illness ∈ BIG := mB (tb_4 (List.mem_of_getElem? (i := 123) (by decide +kernel))) rfl
theorem k_1184 : Cond.methodLink RL 151 yX10_ease ∈ BIG := mB (tb_4 (List.mem_of_getElem? (i := 124) (by decide +kernel))) rfl
theorem k_1185 : Cond.instanceMethod yX10_ease ∈ BIG := mB (tb_4 (List.mem_of_getElem? (i := 125) (by decide +kernel))) rfl
theorem k_1186 : Cond.selects RX10 yX10_ease yX10_ease ∈ BIG := mB (tb_4 (List.mem_of_getElem? (i := 126) (by decide +kernel))) rfl
theorem k_1187 : Cond.code yX10_ease cX10_ease 1 (some .int) ∈ BIG := mB (tb_4 (List.mem_of_getElem? (i := 127) (by decide +kernel))) rfl
theorem k_1188 : Cond.methodLink RX10 270 yX3_worstIllness ∈ BIG := mB (tb_4 (List.mem_of_getElem? (i := 128) (by decide +kernel))) rfl
theorem k_1189 : Cond.instanceMethod yX3_worstIllness ∈ BIG := mB (tb_4 (List.mem_of_getElem? (i := 129) (by decide +kernel))) rfl
theorem k_1190 : Cond.selects RX3 yX3_worstIllness yX3_worstIllness ∈ BIG := mB (tb_4 (List.mem_of_getElem? (i := 130) (by decide +kernel))) rfl
theorem k_1191 : Cond.code yX3_worstIllness cX3_worstIllness 4 (some .int) ∈ BIG := mB (tb_4 (List.mem_of_getElem? (i := 131) (by decide +kernel))) rfl
theorem k_1192 : Cond.methodLink RL 155 yX10_breadth ∈ BIG := mB (tb_4 (List.mem_of_getElem? (i := 132) (by decide +kernel))) rfl
theorem k_1193 : Cond.instanceMethod yX10_breadth ∈ BIG := mB (tb_4 (List.mem_of_getElem? (i := 133) (by decide +kernel))) rfl
theorem k_1194 : Cond.selects RX10 yX10_breadth yX10_breadth ∈ BIG := mB (tb_4 (List.mem_of_getElem? (i := 134) (by decide +kernel))) rfl
theorem k_1195 : Cond.code yX10_breadth cX10_breadth 1 (some .int) ∈ BIG := mB (tb_4 (List.mem_of_getElem? (i := 135) (by decide +kernel))) rfl
theorem k_1196 : Cond.methodLink RX10 273 yX1_wearers ∈ BIG := mB (tb_4 (List.mem_of_getElem? (i := 136) (by decide +kernel))) rfl
theorem k_1197 : Cond.methodLink RX10 276 yX2_wideTogether ∈ BIG := mB (tb_4 (List.mem_of_getElem? (i := 137) (by decide +kernel))) rfl
theorem k_1198 : Cond.methodLink RL 159 yX10_rout ∈ BIG := mB (tb_4 (List.mem_of_getElem? (i := 138) (by decide +kernel))) rfl
theorem k_1199 : Cond.instanceMethod yX10_rout ∈ BIG := mB (tb_4 (List.mem_of_getElem? (i := 139) (by decide +kernel))) rfl
theorem k_1200 : Cond.selects RX10 yX10_rout yX10_rout ∈ BIG := mB (tb_4 (List.mem_of_getElem? (i := 140) (by decide +kernel))) rfl
theorem k_1201 : Cond.code yX10_rout cX10_rout 1 (some .int) ∈ BIG := mB (tb_4 (List.mem_of_getElem? (i := 141) (by decide +kernel))) rfl
theorem k_1202 : Cond.methodLink RX10 279 yX3_daysTillRout ∈ BIG := mB (tb_4 (List.mem_of_getElem? (i := 142) (by decide +kernel))) rfl
theorem k_1203 : Cond.instanceMethod yX3_daysTillRout ∈ BIG := mB (tb_4 (List.mem_of_getElem? (i := 143) (by decide +kernel))) rfl
theorem k_1204 : Cond.selects RX3 yX3_daysTillRout yX3_daysTillRout ∈ BIG := mB (tb_4 (List.mem_of_getElem? (i := 144) (by decide +kernel))) rfl
theorem k_1205 : Cond.code yX3_daysTillRout cX3_daysTillRout 2 (some .int) ∈ BIG := mB (tb_4 (List.mem_of_getElem? (i := 145) (by decide +kernel))) rfl
theorem k_1206 : Cond.methodLink RX3 38 yX1_wearers ∈ BIG := mB (tb_4 (List.mem_of_getElem? (i := 146) (by decide +kernel))) rfl
theorem k_1207 : Cond.methodLink RL 163 yX10_odds ∈ BIG := mB (tb_4 (List.mem_of_getElem? (i := 147) (by decide +kernel))) rfl
