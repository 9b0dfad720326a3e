theorem k_867 : Cond.selects RX1 yX1_passDay yX1_passDay ∈ BIG := mB (List.mem_of_getElem? (i := 867) (by decide +kernel)) rfl
theorem k_868 : Cond.code yX1_passDay cX1_passDay 5 (some .int) ∈ BIG := mB (List.mem_of_getElem? (i := 868) (by decide +kernel)) rfl
theorem k_883 : Cond.methodLink RX10 160 yX5_keepAct ∈ BIG := mB (List.mem_of_getElem? (i := 883) (by decide +kernel)) rfl
theorem k_884 : Cond.instanceMethod yX5_keepAct ∈ BIG := mB (List.mem_of_getElem? (i := 884) (by decide +kernel)) rfl
theorem k_885 : Cond.selects RX5 yX5_keepAct yX5_keepAct ∈ BIG := mB (List.mem_of_getElem? (i := 885) (by decide +kernel)) rfl
theorem k_886 : Cond.code yX5_keepAct cX5_keepAct 1 none ∈ BIG := mB (List.mem_of_getElem? (i := 886) (by decide +kernel)) rfl
theorem k_887 : Cond.methodLink RL 49 yX10_don ∈ BIG := mB (List.mem_of_getElem? (i := 887) (by decide +kernel)) rfl
theorem k_888 : Cond.instanceMethod yX10_don ∈ BIG := mB (List.mem_of_getElem? (i := 888) (by decide +kernel)) rfl
theorem k_889 : Cond.selects RX10 yX10_don yX10_don ∈ BIG := mB (List.mem_of_getElem? (i := 889) (by decide +kernel)) rfl
theorem k_890 : Cond.code yX10_don cX10_don 4 (some .int) ∈ BIG := mB (List.mem_of_getElem? (i := 890) (by decide +kernel)) rfl
theorem k_892 : Cond.methodLink RL 53 yX10_doff ∈ BIG := mB (List.mem_of_getElem? (i := 892) (by decide +kernel)) rfl
theorem k_893 : Cond.instanceMethod yX10_doff ∈ BIG := mB (List.mem_of_getElem? (i := 893) (by decide +kernel)) rfl
theorem k_894 : Cond.selects RX10 yX10_doff yX10_doff ∈ BIG := mB (List.mem_of_getElem? (i := 894) (by decide +kernel)) rfl
theorem k_895 : Cond.code yX10_doff cX10_doff 3 (some .int) ∈ BIG := mB (List.mem_of_getElem? (i := 895) (by decide +kernel)) rfl
theorem k_896 : Cond.methodLink RL 57 yX10_letout ∈ BIG := mB (List.mem_of_getElem? (i := 896) (by decide +kernel)) rfl
theorem k_897 : Cond.instanceMethod yX10_letout ∈ BIG := mB (List.mem_of_getElem? (i := 897) (by decide +kernel)) rfl
theorem k_898 : Cond.selects RX10 yX10_letout yX10_letout ∈ BIG := mB (List.mem_of_getElem? (i := 898) (by decide +kernel)) rfl
theorem k_899 : Cond.code yX10_letout cX10_letout 3 (some .int) ∈ BIG := mB (List.mem_of_getElem? (i := 899) (by decide +kernel)) rfl
theorem k_905 : Cond.methodLink RL 61 yX10_takein ∈ BIG := mB (List.mem_of_getElem? (i := 905) (by decide +kernel)) rfl
theorem k_906 : Cond.instanceMethod yX10_takein ∈ BIG := mB (List.mem_of_getElem? (i := 906) (by decide +kernel)) rfl
theorem k_907 : Cond.selects RX10 yX10_takein yX10_takein ∈ BIG := mB (List.mem_of_getElem? (i := 907) (by decide +kernel)) rfl
theorem k_908 : Cond.code yX10_takein cX10_takein 3 (some .int) ∈ BIG := mB (List.mem_of_getElem? (i := 908) (by decide +kernel)) rfl
theorem k_909 : Cond.methodLink RL 65 yX10_hem ∈ BIG := mB (List.mem_of_getElem? (i := 909) (by decide +kernel)) rfl
theorem k_910 : Cond.instanceMethod yX10_hem ∈ BIG := mB (List.mem_of_getElem? (i := 910) (by decide +kernel)) rfl
theorem k_911 : Cond.selects RX10 yX10_hem yX10_hem ∈ BIG := mB (List.mem_of_getElem? (i := 911) (by decide +kernel)) rfl
theorem k_912 : Cond.code yX10_hem cX10_hem 4 (some .int) ∈ BIG := mB (List.mem_of_getElem? (i := 912) (by decide +kernel)) rfl
theorem k_913 : Cond.methodLink RL 69 yX10_turn ∈ BIG := mB (List.mem_of_getElem? (i := 913) (by decide +kernel)) rfl
theorem k_914 : Cond.instanceMethod yX10_turn ∈ BIG := mB (List.mem_of_getElem? (i := 914) (by decide +kernel)) rfl
theorem k_915 : Cond.selects RX10 yX10_turn yX10_turn ∈ BIG := mB (List.mem_of_getElem? (i := 915) (by decide +kernel)) rfl
theorem k_916 : Cond.code yX10_turn cX10_turn 3 (some .int) ∈ BIG := mB (List.mem_of_getElem? (i := 916) (by decide +kernel)) rfl
theorem k_917 : Cond.methodLink RL 73 yX10_undo ∈ BIG := mB (List.mem_of_getElem? (i := 917) (by decide +kernel)) rfl
theorem k_918 : Cond.instanceMethod yX10_undo ∈ BIG := mB (List.mem_of_getElem? (i := 918) (by decide +kernel)) rfl
theorem k_919 : Cond.selects RX10 yX10_undo yX10_undo ∈ BIG := mB (List.mem_of_getElem? (i := 919) (by decide +kernel)) rfl
theorem k_920 : Cond.code yX10_undo cX10_undo 1 (some .boolean) ∈ BIG := mB (List.mem_of_getElem? (i := 920) (by decide +kernel)) rfl
theorem k_921 : Cond.methodLink RX10 174 yX5_stepBack ∈ BIG := mB (List.mem_of_getElem? (i := 921) (by decide +kernel)) rfl
theorem k_922 : Cond.instanceMethod yX5_stepBack ∈ BIG := mB (List.mem_of_getElem? (i := 922) (by decide +kernel)) rfl
theorem k_923 : Cond.selects RX5 yX5_stepBack yX5_stepBack ∈ BIG := mB (List.mem_of_getElem? (i := 923) (by decide +kernel)) rfl
theorem k_924 : Cond.code yX5_stepBack cX5_stepBack 1 (some .boolean) ∈ BIG := mB (List.mem_of_getElem? (i := 924) (by decide +kernel)) rfl
theorem k_929 : Cond.methodLink RL 78 yX10_redo ∈ BIG := mB (List.mem_of_getElem? (i := 929) (by decide +kernel)) rfl
theorem k_930 : Cond.instanceMethod yX10_redo ∈ BIG := mB (List.mem_of_getElem? (i := 930) (by decide +kernel)) rfl
theorem k_931 : Cond.selects RX10 yX10_redo yX10_redo ∈ BIG := mB (List.mem_of_getElem? (i := 931) (by decide +kernel)) rfl
theorem k_932 : Cond.code yX10_redo cX10_redo 1 (some .boolean) ∈ BIG := mB (List.mem_of_getElem? (i := 932) (by decide +kernel)) rfl
theorem k_933 : Cond.methodLink RX10 177 yX5_stepOn ∈ BIG := mB (List.mem_of_getElem? (i := 933) (by decide +kernel)) rfl
theorem k_934 : Cond.instanceMethod yX5_stepOn ∈ BIG := mB (List.mem_of_getElem? (i := 934) (by decide +kernel)) rfl
theorem k_935 : Cond.selects RX5 yX5_stepOn yX5_stepOn ∈ BIG := mB (List.mem_of_getElem? (i := 935) (by decide +kernel)) rfl
theorem k_936 : Cond.code yX5_stepOn cX5_stepOn 1 (some .boolean) ∈ BIG := mB (List.mem_of_getElem? (i := 936) (by decide +kernel)) rfl
theorem k_937 : Cond.methodLink RL 82 yX10_will ∈ BIG := mB (List.mem_of_getElem? (i := 937) (by decide +kernel)) rfl
theorem k_938 : Cond.instanceMethod yX10_will ∈ BIG := mB (List.mem_of_getElem? (i := 938) (by decide +kernel)) rfl
theorem k_939 : Cond.selects RX10 yX10_will yX10_will ∈ BIG := mB (List.mem_of_getElem? (i := 939) (by decide +kernel)) rfl
theorem k_940 : Cond.code yX10_will cX10_will 4 (some .int) ∈ BIG := mB (List.mem_of_getElem? (i := 940) (by decide +kernel)) rfl
theorem k_945 : Cond.methodLink RX3 27 yX1_copy ∈ BIG := mB (List.mem_of_getElem? (i := 945) (by decide +kernel)) rfl
theorem k_946 : Cond.instanceMethod yX1_copy ∈ BIG := mB (List.mem_of_getElem? (i := 946) (by decide +kernel)) rfl
theorem k_947 : Cond.selects RX1 yX1_copy yX1_copy ∈ BIG := mB (List.mem_of_getElem? (i := 947) (by decide +kernel)) rfl
theorem k_948 : Cond.code yX1_copy cX1_copy 2 none ∈ BIG := mB (List.mem_of_getElem? (i := 948) (by decide +kernel)) rfl
theorem k_951 : Cond.methodLink RL 87 yX10_out ∈ BIG := mB (List.mem_of_getElem? (i := 951) (by decide +kernel)) rfl
theorem k_952 : Cond.instanceMethod yX10_out ∈ BIG := mB (List.mem_of_getElem? (i := 952) (by decide +kernel)) rfl
theorem k_953 : Cond.selects RX10 yX10_out yX10_out ∈ BIG := mB (List.mem_of_getElem? (i := 953) (by decide +kernel)) rfl
theorem k_954 : Cond.code yX10_out cX10_out 2 (some .int) ∈ BIG := mB (List.mem_of_getElem? (i := 954) (by decide +kernel)) rfl
theorem k_959 : Cond.methodLink RL 91 yX10_fitted ∈ BIG := mB (List.mem_of_getElem? (i := 959) (by decide +kernel)) rfl
theorem k_960 : Cond.instanceMethod yX10_fitted ∈ BIG := mB (List.mem_of_getElem? (i := 960) (by decide +kernel)) rfl
theorem k_961 : Cond.selects RX10 yX10_fitted yX10_fitted ∈ BIG := mB (List.mem_of_getElem? (i := 961) (by decide +kernel)) rfl
theorem k_962 : Cond.code yX10_fitted cX10_fitted 1 (some .int) ∈ BIG := mB (List.mem_of_getElem? (i := 962) (by decide +kernel)) rfl
theorem k_963 : Cond.methodLink RX10 187 yX1_fittedMen ∈ BIG := mB (List.mem_of_getElem? (i := 963) (by decide +kernel)) rfl
theorem k_964 : Cond.instanceMethod yX1_fittedMen ∈ BIG := mB (List.mem_of_getElem? (i := 964) (by decide +kernel)) rfl
theorem k_965 : Cond.selects RX1 yX1_fittedMen yX1_fittedMen ∈ BIG := mB (List.mem_of_getElem? (i := 965) (by decide +kernel)) rfl
theorem k_966 : Cond.code yX1_fittedMen cX1_fittedMen 3 (some .int) ∈ BIG := mB (List.mem_of_getElem? (i := 966) (by decide +kernel)) rfl
theorem k_967 : Cond.methodLink RL 95 yX10_dress ∈ BIG := mB (List.mem_of_getElem? (i := 967) (by decide +kernel)) rfl
theorem k_968 : Cond.instanceMethod yX10_dress ∈ BIG := mB (List.mem_of_getElem? (i := 968) (by decide +kernel)) rfl
theorem k_969 : Cond.selects RX10 yX10_dress yX10_dress ∈ BIG := mB (List.mem_of_getElem? (i := 969) (by decide +kernel)) rfl
theorem k_970 : Cond.code yX10_dress cX10_dress 2 (some .int) ∈ BIG := mB (List.mem_of_getElem? (i := 970) (by decide +kernel)) rfl
theorem k_971 : Cond.methodLink RX10 190 yX0_layDressing ∈ BIG := mB (List.mem_of_getElem? (i := 971) (by decide +kernel)) rfl
theorem k_972 : Cond.instanceMethod yX0_layDressing ∈ BIG := mB (List.mem_of_getElem? (i := 972) (by decide +kernel)) rfl
theorem k_973 : Cond.selects RX0 yX0_layDressing yX0_layDressing ∈ BIG := mB (List.mem_of_getElem? (i := 973) (by decide +kernel)) rfl
theorem k_974 : Cond.code yX0_layDressing cX0_layDressing 4 none ∈ BIG := mB (List.mem_of_getElem? (i := 974) (by decide +kernel)) rfl
theorem k_975 : Cond.methodLink RX0 33 yX0_reckonGains ∈ BIG := mB (List.mem_of_getElem? (i := 975) (by decide +kernel)) rfl
theorem k_977 : Cond.instanceMethod yX0_reckonGains ∈ BIG := mB (List.mem_of_getElem? (i := 977) (by decide +kernel)) rfl
theorem k_978 : Cond.code yX0_reckonGains cX0_reckonGains 4 none ∈ BIG := mB (List.mem_of_getElem? (i := 978) (by decide +kernel)) rfl
theorem k_980 : Cond.methodLink RX0 36 yX0_reckonBest ∈ BIG := mB (List.mem_of_getElem? (i := 980) (by decide +kernel)) rfl
theorem k_982 : Cond.instanceMethod yX0_reckonBest ∈ BIG := mB (List.mem_of_getElem? (i := 982) (by decide +kernel)) rfl
theorem k_983 : Cond.code yX0_reckonBest cX0_reckonBest 5 none ∈ BIG := mB (List.mem_of_getElem? (i := 983) (by decide +kernel)) rfl
theorem k_984 : Cond.methodLink RX0 72 yJ7_fill_53178 ∈ BIG := mB (List.mem_of_getElem? (i := 984) (by decide +kernel)) rfl
theorem k_990 : Cond.methodLink RX0 39 yX0_clear ∈ BIG := mB (List.mem_of_getElem? (i := 990) (by decide +kernel)) rfl
theorem k_999 : Cond.methodLink RL 99 yX10_sewing ∈ BIG := mB (List.mem_of_getElem? (i := 999) (by decide +kernel)) rfl
theorem k_1000 : Cond.instanceMethod yX10_sewing ∈ BIG := mB (List.mem_of_getElem? (i := 1000) (by decide +kernel)) rfl
theorem k_1001 : Cond.selects RX10 yX10_sewing yX10_sewing ∈ BIG := mB (List.mem_of_getElem? (i := 1001) (by decide +kernel)) rfl
theorem k_1002 : Cond.code yX10_sewing cX10_sewing 4 (some .int) ∈ BIG := mB (List.mem_of_getElem? (i := 1002) (by decide +kernel)) rfl
theorem k_1018 : Cond.static Lib.Math.abs.name ∈ BIG := mB (List.mem_of_getElem? (i := 1018) (by decide +kernel)) rfl
theorem k_1019 : Cond.code Lib.Math.abs.name Lib.Math.abs.code 1 (some .int) ∈ BIG := mB (List.mem_of_getElem? (i := 1019) (by decide +kernel)) rfl
theorem k_1020 : Cond.methodLink RL 103 yX10_rota ∈ BIG := mB (List.mem_of_getElem? (i := 1020) (by decide +kernel)) rfl
theorem k_1021 : Cond.instanceMethod yX10_rota ∈ BIG := mB (List.mem_of_getElem? (i := 1021) (by decide +kernel)) rfl
theorem k_1022 : Cond.selects RX10 yX10_rota yX10_rota ∈ BIG := mB (List.mem_of_getElem? (i := 1022) (by decide +kernel)) rfl
theorem k_1023 : Cond.code yX10_rota cX10_rota 2 (some .int) ∈ BIG := mB (List.mem_of_getElem? (i := 1023) (by decide +kernel)) rfl
theorem k_1033 : Cond.methodLink RL 107 yX10_change ∈ BIG := mB (List.mem_of_getElem? (i := 1033) (by decide +kernel)) rfl
theorem k_1034 : Cond.instanceMethod yX10_change ∈ BIG := mB (List.mem_of_getElem? (i := 1034) (by decide +kernel)) rfl
theorem k_1035 : Cond.selects RX10 yX10_change yX10_change ∈ BIG := mB (List.mem_of_getElem? (i := 1035) (by decide +kernel)) rfl
theorem k_1036 : Cond.code yX10_change cX10_change 2 (some .int) ∈ BIG := mB (List.mem_of_getElem? (i := 1036) (by decide +kernel)) rfl
theorem k_1037 : Cond.methodLink RX10 223 yX3_findChange ∈ BIG := mB (List.mem_of_getElem? (i := 1037) (by decide +kernel)) rfl
theorem k_1038 : Cond.instanceMethod yX3_findChange ∈ BIG := mB (List.mem_of_getElem? (i := 1038) (by decide +kernel)) rfl
theorem k_1039 : Cond.selects RX3 yX3_findChange yX3_findChange ∈ BIG := mB (List.mem_of_getElem? (i := 1039) (by decide +kernel)) rfl
theorem k_1040 : Cond.code yX3_findChange cX3_findChange 5 (some .boolean) ∈ BIG := mB (List.mem_of_getElem? (i := 1040) (by decide +kernel)) rfl
theorem k_1041 : Cond.methodLink RX3 102 yX1_fittedMen ∈ BIG := mB (List.mem_of_getElem? (i := 1041) (by decide +kernel)) rfl
theorem k_1042 : Cond.methodLink RX3 105 yJ6_bitCount_0f7a4 ∈ BIG := mB (List.mem_of_getElem? (i := 1042) (by decide +kernel)) rfl
theorem k_1043 : Cond.static yJ6_bitCount_0f7a4 ∈ BIG := mB (List.mem_of_getElem? (i := 1043) (by decide +kernel)) rfl
theorem k_1044 : Cond.code yJ6_bitCount_0f7a4 cJ6_bitCount_0f7a4 1 (some .int) ∈ BIG := mB (List.mem_of_getElem? (i := 1044) (by decide +kernel)) rfl
theorem k_1045 : Cond.constant RJ6 265 1431655765 ∈ BIG := mB (List.mem_of_getElem? (i := 1045) (by decide +kernel)) rfl
theorem k_1046 : Cond.constant RJ6 266 858993459 ∈ BIG := mB (List.mem_of_getElem? (i := 1046) (by decide +kernel)) rfl
theorem k_1047 : Cond.constant RJ6 267 252645135 ∈ BIG := mB (List.mem_of_getElem? (i := 1047) (by decide +kernel)) rfl
theorem k_1052 : Cond.methodLink RL 111 yX10_front ∈ BIG := mB (List.mem_of_getElem? (i := 1052) (by decide +kernel)) rfl
theorem k_1053 : Cond.instanceMethod yX10_front ∈ BIG := mB (List.mem_of_getElem? (i := 1053) (by decide +kernel)) rfl
theorem k_1054 : Cond.selects RX10 yX10_front yX10_front ∈ BIG := mB (List.mem_of_getElem? (i := 1054) (by decide +kernel)) rfl
theorem k_1055 : Cond.code yX10_front cX10_front 4 (some .int) ∈ BIG := mB (List.mem_of_getElem? (i := 1055) (by decide +kernel)) rfl
theorem k_1056 : Cond.methodLink RX10 235 yX2_frontOf ∈ BIG := mB (List.mem_of_getElem? (i := 1056) (by decide +kernel)) rfl
theorem k_1057 : Cond.instanceMethod yX2_frontOf ∈ BIG := mB (List.mem_of_getElem? (i := 1057) (by decide +kernel)) rfl
theorem k_1058 : Cond.selects RX2 yX2_frontOf yX2_frontOf ∈ BIG := mB (List.mem_of_getElem? (i := 1058) (by decide +kernel)) rfl
theorem k_1059 : Cond.code yX2_frontOf cX2_frontOf 6 (some .int) ∈ BIG := mB (List.mem_of_getElem? (i := 1059) (by decide +kernel)) rfl
theorem k_1060 : Cond.methodLink RX2 39 yX1_wearers ∈ BIG := mB (List.mem_of_getElem? (i := 1060) (by decide +kernel)) rfl
theorem k_1061 : Cond.instanceMethod yX1_wearers ∈ BIG := mB (List.mem_of_getElem? (i := 1061) (by decide +kernel)) rfl
theorem k_1062 : Cond.selects RX1 yX1_wearers yX1_wearers ∈ BIG := mB (List.mem_of_getElem? (i := 1062) (by decide +kernel)) rfl
theorem k_1063 : Cond.code yX1_wearers cX1_wearers 3 (some .int) ∈ BIG := mB (List.mem_of_getElem? (i := 1063) (by decide +kernel)) rfl
theorem k_1064 : Cond.methodLink RX2 43 yJ6_bitCount_0f7a4 ∈ BIG := mB (List.mem_of_getElem? (i := 1064) (by decide +kernel)) rfl
theorem k_1065 : Cond.methodLink RX2 48 yX2_wideTogether ∈ BIG := mB (List.mem_of_getElem? (i := 1065) (by decide +kernel)) rfl
theorem k_1066 : Cond.instanceMethod yX2_wideTogether ∈ BIG := mB (List.mem_of_getElem? (i := 1066) (by decide +kernel)) rfl
theorem k_1067 : Cond.selects RX2 yX2_wideTogether yX2_wideTogether ∈ BIG := mB (List.mem_of_getElem? (i := 1067) (by decide +kernel)) rfl
theorem k_1068 : Cond.code yX2_wideTogether cX2_wideTogether 4 (some .int) ∈ BIG := mB (List.mem_of_getElem? (i := 1068) (by decide +kernel)) rfl
theorem k_1071 : Cond.methodLink RX10 238 yJ6_bitCount_0f7a4 ∈ BIG := mB (List.mem_of_getElem? (i := 1071) (by decide +kernel)) rfl
theorem k_1072 : Cond.methodLink RL 115 yX10_wings ∈ BIG := mB (List.mem_of_getElem? (i := 1072) (by decide +kernel)) rfl
theorem k_1073 : Cond.instanceMethod yX10_wings ∈ BIG := mB (List.mem_of_getElem? (i := 1073) (by decide +kernel)) rfl
theorem k_1074 : Cond.selects RX10 yX10_wings yX10_wings ∈ BIG := mB (List.mem_of_getElem? (i := 1074) (by decide +kernel)) rfl
theorem k_1075 : Cond.code yX10_wings cX10_wings 3 (some .int) ∈ BIG := mB (List.mem_of_getElem? (i := 1075) (by decide +kernel)) rfl
theorem k_1076 : Cond.methodLink RX10 243 yX2_leftWing ∈ BIG := mB (List.mem_of_getElem? (i := 1076) (by decide +kernel)) rfl
theorem k_1077 : Cond.instanceMethod yX2_leftWing ∈ BIG := mB (List.mem_of_getElem? (i := 1077) (by decide +kernel)) rfl
theorem k_1078 : Cond.selects RX2 yX2_leftWing yX2_leftWing ∈ BIG := mB (List.mem_of_getElem? (i := 1078) (by decide +kernel)) rfl
theorem k_1079 : Cond.code yX2_leftWing cX2_leftWing 6 (some .int) ∈ BIG := mB (List.mem_of_getElem? (i := 1079) (by decide +kernel)) rfl
theorem k_1080 : Cond.methodLink RX2 51 yJ6_lowestOneBit_0f7a4 ∈ BIG := mB (List.mem_of_getElem? (i := 1080) (by decide +kernel)) rfl
theorem k_1081 : Cond.static yJ6_lowestOneBit_0f7a4 ∈ BIG := mB (List.mem_of_getElem? (i := 1081) (by decide +kernel)) rfl
theorem k_1082 : Cond.code yJ6_lowestOneBit_0f7a4 cJ6_lowestOneBit_0f7a4 1 (some .int) ∈ BIG := mB (List.mem_of_getElem? (i := 1082) (by decide +kernel)) rfl
theorem k_1083 : Cond.methodLink RX2 54 yX2_isEvener ∈ BIG := mB (List.mem_of_getElem? (i := 1083) (by decide +kernel)) rfl
theorem k_1085 : Cond.instanceMethod yX2_isEvener ∈ BIG := mB (List.mem_of_getElem? (i := 1085) (by decide +kernel)) rfl
theorem k_1086 : Cond.code yX2_isEvener cX2_isEvener 4 (some .boolean) ∈ BIG := mB (List.mem_of_getElem? (i := 1086) (by decide +kernel)) rfl
theorem k_1087 : Cond.methodLink RX2 58 yX2_difference ∈ BIG := mB (List.mem_of_getElem? (i := 1087) (by decide +kernel)) rfl
theorem k_1088 : Cond.instanceMethod yX2_difference ∈ BIG := mB (List.mem_of_getElem? (i := 1088) (by decide +kernel)) rfl
theorem k_1089 : Cond.selects RX2 yX2_difference yX2_difference ∈ BIG := mB (List.mem_of_getElem? (i := 1089) (by decide +kernel)) rfl
theorem k_1090 : Cond.code yX2_difference cX2_difference 2 (some .int) ∈ BIG := mB (List.mem_of_getElem? (i := 1090) (by decide +kernel)) rfl
theorem k_1091 : Cond.methodLink RX2 61 Lib.Math.abs.name ∈ BIG := mB (List.mem_of_getElem? (i := 1091) (by decide +kernel)) rfl
theorem k_1092 : Cond.methodLink RX10 246 yX2_difference ∈ BIG := mB (List.mem_of_getElem? (i := 1092) (by decide +kernel)) rfl
theorem k_1093 : Cond.methodLink RL 119 yX10_cloth ∈ BIG := mB (List.mem_of_getElem? (i := 1093) (by decide +kernel)) rfl
theorem k_1094 : Cond.instanceMethod yX10_cloth ∈ BIG := mB (List.mem_of_getElem? (i := 1094) (by decide +kernel)) rfl
theorem k_1095 : Cond.selects RX10 yX10_cloth yX10_cloth ∈ BIG := mB (List.mem_of_getElem? (i := 1095) (by decide +kernel)) rfl
theorem k_1096 : Cond.code yX10_cloth cX10_cloth 1 (some .int) ∈ BIG := mB (List.mem_of_getElem? (i := 1096) (by decide +kernel)) rfl
theorem k_1097 : Cond.methodLink RX10 249 yX2_leastCloth ∈ BIG := mB (List.mem_of_getElem? (i := 1097) (by decide +kernel)) rfl
theorem k_1098 : Cond.instanceMethod yX2_leastCloth ∈ BIG := mB (List.mem_of_getElem? (i := 1098) (by decide +kernel)) rfl
theorem k_1099 : Cond.selects RX2 yX2_leastCloth yX2_leastCloth ∈ BIG := mB (List.mem_of_getElem? (i := 1099) (by decide +kernel)) rfl
theorem k_1100 : Cond.code yX2_leastCloth cX2_leastCloth 3 (some .int) ∈ BIG := mB (List.mem_of_getElem? (i := 1100) (by decide +kernel)) rfl
theorem k_1111 : Cond.methodLink RL 123 yX10_buttons ∈ BIG := mB (List.mem_of_getElem? (i := 1111) (by decide +kernel)) rfl
theorem k_1112 : Cond.instanceMethod yX10_buttons ∈ BIG := mB (List.mem_of_getElem? (i := 1112) (by decide +kernel)) rfl
theorem k_1113 : Cond.selects RX10 yX10_buttons yX10_buttons ∈ BIG := mB (List.mem_of_getElem? (i := 1113) (by decide +kernel)) rfl
theorem k_1114 : Cond.code yX10_buttons cX10_buttons 1 (some .int) ∈ BIG := mB (List.mem_of_getElem? (i := 1114) (by decide +kernel)) rfl
theorem k_1115 : Cond.methodLink RX10 252 yX0_layColours ∈ BIG := mB (List.mem_of_getElem? (i := 1115) (by decide +kernel)) rfl
theorem k_1116 : Cond.instanceMethod yX0_layColours ∈ BIG := mB (List.mem_of_getElem? (i := 1116) (by decide +kernel)) rfl
theorem k_1117 : Cond.selects RX0 yX0_layColours yX0_layColours ∈ BIG := mB (List.mem_of_getElem? (i := 1117) (by decide +kernel)) rfl
theorem k_1118 : Cond.code yX0_layColours cX0_layColours 2 (some .int) ∈ BIG := mB (List.mem_of_getElem? (i := 1118) (by decide +kernel)) rfl
theorem k_1119 : Cond.methodLink RX0 87 yX0_painted ∈ BIG := mB (List.mem_of_getElem? (i := 1119) (by decide +kernel)) rfl
theorem k_1121 : Cond.instanceMethod yX0_painted ∈ BIG := mB (List.mem_of_getElem? (i := 1121) (by decide +kernel)) rfl
theorem k_1122 : Cond.code yX0_painted cX0_painted 4 (some .boolean) ∈ BIG := mB (List.mem_of_getElem? (i := 1122) (by decide +kernel)) rfl
theorem k_1129 : Cond.methodLink RL 127 yX10_reach ∈ BIG := mB (List.mem_of_getElem? (i := 1129) (by decide +kernel)) rfl
theorem k_1130 : Cond.instanceMethod yX10_reach ∈ BIG := mB (List.mem_of_getElem? (i := 1130) (by decide +kernel)) rfl
theorem k_1131 : Cond.selects RX10 yX10_reach yX10_reach ∈ BIG := mB (List.mem_of_getElem? (i := 1131) (by decide +kernel)) rfl
theorem k_1132 : Cond.code yX10_reach cX10_reach 3 (some .int) ∈ BIG := mB (List.mem_of_getElem? (i := 1132) (by decide +kernel)) rfl
theorem k_1150 : Cond.methodLink RL 131 yX10_turning ∈ BIG := mB (List.mem_of_getElem? (i := 1150) (by decide +kernel)) rfl
theorem k_1151 : Cond.instanceMethod yX10_turning ∈ BIG := mB (List.mem_of_getElem? (i := 1151) (by decide +kernel)) rfl
theorem k_1152 : Cond.selects RX10 yX10_turning yX10_turning ∈ BIG := mB (List.mem_of_getElem? (i := 1152) (by decide +kernel)) rfl
theorem k_1153 : Cond.code yX10_turning cX10_turning 1 (some .int) ∈ BIG := mB (List.mem_of_getElem? (i := 1153) (by decide +kernel)) rfl
theorem k_1154 : Cond.methodLink RX10 258 yX3_bestTurning ∈ BIG := mB (List.mem_of_getElem? (i := 1154) (by decide +kernel)) rfl
theorem k_1155 : Cond.instanceMethod yX3_bestTurning ∈ BIG := mB (List.mem_of_getElem? (i := 1155) (by decide +kernel)) rfl
theorem k_1156 : Cond.selects RX3 yX3_bestTurning yX3_bestTurning ∈ BIG := mB (List.mem_of_getElem? (i := 1156) (by decide +kernel)) rfl
theorem k_1157 : Cond.code yX3_bestTurning cX3_bestTurning 5 (some .int) ∈ BIG := mB (List.mem_of_getElem? (i := 1157) (by decide +kernel)) rfl
theorem k_1159 : Cond.methodLink RL 135 yX10_rags ∈ BIG := mB (List.mem_of_getElem? (i := 1159) (by decide +kernel)) rfl
theorem k_1160 : Cond.instanceMethod yX10_rags ∈ BIG := mB (List.mem_of_getElem? (i := 1160) (by decide +kernel)) rfl
theorem k_1161 : Cond.selects RX10 yX10_rags yX10_rags ∈ BIG := mB (List.mem_of_getElem? (i := 1161) (by decide +kernel)) rfl
theorem k_1162 : Cond.code yX10_rags cX10_rags 3 (some .int) ∈ BIG := mB (List.mem_of_getElem? (i := 1162) (by decide +kernel)) rfl
theorem k_1167 : Cond.methodLink RL 139 yX10_naked ∈ BIG := mB (List.mem_of_getElem? (i := 1167) (by decide +kernel)) rfl
theorem k_1168 : Cond.instanceMethod yX10_naked ∈ BIG := mB (List.mem_of_getElem? (i := 1168) (by decide +kernel)) rfl
theorem k_1169 : Cond.selects RX10 yX10_naked yX10_naked ∈ BIG := mB (List.mem_of_getElem? (i := 1169) (by decide +kernel)) rfl
theorem k_1170 : Cond.code yX10_naked cX10_naked 3 (some .int) ∈ BIG := mB (List.mem_of_getElem? (i := 1170) (by decide +kernel)) rfl
theorem k_1171 : Cond.methodLink RL 143 yX10_popular ∈ BIG := mB (List.mem_of_getElem? (i := 1171) (by decide +kernel)) rfl
theorem k_1172 : Cond.instanceMethod yX10_popular ∈ BIG := mB (List.mem_of_getElem? (i := 1172) (by decide +kernel)) rfl
theorem k_1173 : Cond.selects RX10 yX10_popular yX10_popular ∈ BIG := mB (List.mem_of_getElem? (i := 1173) (by decide +kernel)) rfl
theorem k_1174 : Cond.code yX10_popular cX10_popular 2 (some .int) ∈ BIG := mB (List.mem_of_getElem? (i := 1174) (by decide +kernel)) rfl
theorem k_1175 : Cond.methodLink RL 147 yX10_law ∈ BIG := mB (List.mem_of_getElem? (i := 1175) (by decide +kernel)) rfl
theorem k_1176 : Cond.instanceMethod yX10_law ∈ BIG := mB (List.mem_of_getElem? (i := 1176) (by decide +kernel)) rfl
theorem k_1177 : Cond.selects RX10 yX10_law yX10_law ∈ BIG := mB (List.mem_of_getElem? (i := 1177) (by decide +kernel)) rfl
theorem k_1178 : Cond.code yX10_law cX10_law 2 (some .int) ∈ BIG := mB (List.mem_of_getElem? (i := 1178) (by decide +kernel)) rfl
theorem k_1179 : Cond.methodLink RX10 267 yX3_fittingBy ∈ BIG := mB (List.mem_of_getElem? (i := 1179) (by decide +kernel)) rfl
theorem k_1180 : Cond.instanceMethod yX3_fittingBy ∈ BIG := mB (List.mem_of_getElem? (i := 1180) (by decide +kernel)) rfl
theorem k_1181 : Cond.selects RX3 yX3_fittingBy yX3_fittingBy ∈ BIG := mB (List.mem_of_getElem? (i := 1181) (by decide +kernel)) rfl
theorem k_1182 : Cond.code yX3_fittingBy cX3_fittingBy 5 (some .int) ∈ BIG := mB (List.mem_of_getElem? (i := 1182) (by decide +kernel)) rfl
theorem k_1184 : Cond.methodLink RL 151 yX10_ease ∈ BIG := mB (List.mem_of_getElem? (i := 1184) (by decide +kernel)) rfl
theorem k_1185 : Cond.instanceMethod yX10_ease ∈ BIG := mB (List.mem_of_getElem? (i := 1185) (by decide +kernel)) rfl
theorem k_1186 : Cond.selects RX10 yX10_ease yX10_ease ∈ BIG := mB (List.mem_of_getElem? (i := 1186) (by decide +kernel)) rfl
theorem k_1187 : Cond.code yX10_ease cX10_ease 1 (some .int) ∈ BIG := mB (List.mem_of_getElem? (i := 1187) (by decide +kernel)) rfl
theorem k_1188 : Cond.methodLink RX10 270 yX3_worstIllness ∈ BIG := mB (List.mem_of_getElem? (i := 1188) (by decide +kernel)) rfl
theorem k_1189 : Cond.instanceMethod yX3_worstIllness ∈ BIG := mB (List.mem_of_getElem? (i := 1189) (by decide +kernel)) rfl
theorem k_1190 : Cond.selects RX3 yX3_worstIllness yX3_worstIllness ∈ BIG := mB (List.mem_of_getElem? (i := 1190) (by decide +kernel)) rfl
theorem k_1191 : Cond.code yX3_worstIllness cX3_worstIllness 4 (some .int) ∈ BIG := mB (List.mem_of_getElem? (i := 1191) (by decide +kernel)) rfl
theorem k_1192 : Cond.methodLink RL 155 yX10_breadth ∈ BIG := mB (List.mem_of_getElem? (i := 1192) (by decide +kernel)) rfl
theorem k_1193 : Cond.instanceMethod yX10_breadth ∈ BIG := mB (List.mem_of_getElem? (i := 1193) (by decide +kernel)) rfl
theorem k_1194 : Cond.selects RX10 yX10_breadth yX10_breadth ∈ BIG := mB (List.mem_of_getElem? (i := 1194) (by decide +kernel)) rfl
theorem k_1195 : Cond.code yX10_breadth cX10_breadth 1 (some .int) ∈ BIG := mB (List.mem_of_getElem? (i := 1195) (by decide +kernel)) rfl
theorem k_1196 : Cond.methodLink RX10 273 yX1_wearers ∈ BIG := mB (List.mem_of_getElem? (i := 1196) (by decide +kernel)) rfl
theorem k_1197 : Cond.methodLink RX10 276 yX2_wideTogether ∈ BIG := mB (List.mem_of_getElem? (i := 1197) (by decide +kernel)) rfl
theorem k_1198 : Cond.methodLink RL 159 yX10_rout ∈ BIG := mB (List.mem_of_getElem? (i := 1198) (by decide +kernel)) rfl
theorem k_1199 : Cond.instanceMethod yX10_rout ∈ BIG := mB (List.mem_of_getElem? (i := 1199) (by decide +kernel)) rfl
theorem k_1200 : Cond.selects RX10 yX10_rout yX10_rout ∈ BIG := mB (List.mem_of_getElem? (i := 1200) (by decide +kernel)) rfl
theorem k_1201 : Cond.code yX10_rout cX10_rout 1 (some .int) ∈ BIG := mB (List.mem_of_getElem? (i := 1201) (by decide +kernel)) rfl
theorem k_1202 : Cond.methodLink RX10 279 yX3_daysTillRout ∈ BIG := mB (List.mem_of_getElem? (i := 1202) (by decide +kernel)) rfl
theorem k_1203 : Cond.instanceMethod yX3_daysTillRout ∈ BIG := mB (List.mem_of_getElem? (i := 1203) (by decide +kernel)) rfl
theorem k_1204 : Cond.selects RX3 yX3_daysTillRout yX3_daysTillRout ∈ BIG := mB (List.mem_of_getElem? (i := 1204) (by decide +kernel)) rfl
theorem k_1205 : Cond.code yX3_daysTillRout cX3_daysTillRout 2 (some .int) ∈ BIG := mB (List.mem_of_getElem? (i := 1205) (by decide +kernel)) rfl
theorem k_1206 : Cond.methodLink RX3 38 yX1_wearers ∈ BIG := mB (List.mem_of_getElem? (i := 1206) (by decide +kernel)) rfl
theorem k_1207 : Cond.methodLink RL 163 yX10_odds ∈ BIG := mB (List.mem_of_getElem? (i := 1207) (by decide +kernel)) rfl
theorem k_1208 : Cond.instanceMethod yX10_odds ∈ BIG := mB (List.mem_of_getElem? (i := 1208) (by decide +kernel)) rfl
theorem k_1209 : Cond.selects RX10 yX10_odds yX10_odds ∈ BIG := mB (List.mem_of_getElem? (i := 1209) (by decide +kernel)) rfl
theorem k_1210 : Cond.code yX10_odds cX10_odds 6 (some .int) ∈ BIG := mB (List.mem_of_getElem? (i := 1210) (by decide +kernel)) rfl
theorem k_1211 : Cond.methodLink RX10 282 yX10_commonDivisor ∈ BIG := mB (List.mem_of_getElem? (i := 1211) (by decide +kernel)) rfl
theorem k_1212 : Cond.static yX10_commonDivisor ∈ BIG := mB (List.mem_of_getElem? (i := 1212) (by decide +kernel)) rfl
theorem k_1213 : Cond.code yX10_commonDivisor cX10_commonDivisor 6 (some .int) ∈ BIG := mB (List.mem_of_getElem? (i := 1213) (by decide +kernel)) rfl
theorem k_1214 : Cond.methodLink RL 167 yX10_lies ∈ BIG := mB (List.mem_of_getElem? (i := 1214) (by decide +kernel)) rfl
theorem k_1215 : Cond.instanceMethod yX10_lies ∈ BIG := mB (List.mem_of_getElem? (i := 1215) (by decide +kernel)) rfl
theorem k_1216 : Cond.selects RX10 yX10_lies yX10_lies ∈ BIG := mB (List.mem_of_getElem? (i := 1216) (by decide +kernel)) rfl
theorem k_1217 : Cond.code yX10_lies cX10_lies 2 (some .int) ∈ BIG := mB (List.mem_of_getElem? (i := 1217) (by decide +kernel)) rfl
theorem k_1218 : Cond.methodLink RX10 285 yX0_lying ∈ BIG := mB (List.mem_of_getElem? (i := 1218) (by decide +kernel)) rfl
theorem k_1219 : Cond.instanceMethod yX0_lying ∈ BIG := mB (List.mem_of_getElem? (i := 1219) (by decide +kernel)) rfl
theorem k_1220 : Cond.selects RX0 yX0_lying yX0_lying ∈ BIG := mB (List.mem_of_getElem? (i := 1220) (by decide +kernel)) rfl
theorem k_1221 : Cond.code yX0_lying cX0_lying 2 (some .int) ∈ BIG := mB (List.mem_of_getElem? (i := 1221) (by decide +kernel)) rfl
theorem k_1222 : Cond.methodLink RL 171 yX10_seen ∈ BIG := mB (List.mem_of_getElem? (i := 1222) (by decide +kernel)) rfl
theorem k_1223 : Cond.instanceMethod yX10_seen ∈ BIG := mB (List.mem_of_getElem? (i := 1223) (by decide +kernel)) rfl
theorem k_1224 : Cond.selects RX10 yX10_seen yX10_seen ∈ BIG := mB (List.mem_of_getElem? (i := 1224) (by decide +kernel)) rfl
theorem k_1225 : Cond.code yX10_seen cX10_seen 3 (some .int) ∈ BIG := mB (List.mem_of_getElem? (i := 1225) (by decide +kernel)) rfl
theorem k_1230 : Cond.methodLink RL 176 yX10_untell ∈ BIG := mB (List.mem_of_getElem? (i := 1230) (by decide +kernel)) rfl
theorem k_1231 : Cond.instanceMethod yX10_untell ∈ BIG := mB (List.mem_of_getElem? (i := 1231) (by decide +kernel)) rfl
theorem k_1232 : Cond.selects RX10 yX10_untell yX10_untell ∈ BIG := mB (List.mem_of_getElem? (i := 1232) (by decide +kernel)) rfl
theorem k_1233 : Cond.code yX10_untell cX10_untell 2 (some .boolean) ∈ BIG := mB (List.mem_of_getElem? (i := 1233) (by decide +kernel)) rfl
theorem k_1234 : Cond.methodLink RX10 295 yX8_takeBack ∈ BIG := mB (List.mem_of_getElem? (i := 1234) (by decide +kernel)) rfl
theorem k_1235 : Cond.instanceMethod yX8_takeBack ∈ BIG := mB (List.mem_of_getElem? (i := 1235) (by decide +kernel)) rfl
theorem k_1236 : Cond.selects RX8 yX8_takeBack yX8_takeBack ∈ BIG := mB (List.mem_of_getElem? (i := 1236) (by decide +kernel)) rfl
theorem k_1237 : Cond.code yX8_takeBack cX8_takeBack 3 (some .boolean) ∈ BIG := mB (List.mem_of_getElem? (i := 1237) (by decide +kernel)) rfl
theorem k_1238 : Cond.methodLink RL 181 yX10_later ∈ BIG := mB (List.mem_of_getElem? (i := 1238) (by decide +kernel)) rfl
theorem k_1239 : Cond.instanceMethod yX10_later ∈ BIG := mB (List.mem_of_getElem? (i := 1239) (by decide +kernel)) rfl
theorem k_1240 : Cond.selects RX10 yX10_later yX10_later ∈ BIG := mB (List.mem_of_getElem? (i := 1240) (by decide +kernel)) rfl
theorem k_1241 : Cond.code yX10_later cX10_later 2 (some .int) ∈ BIG := mB (List.mem_of_getElem? (i := 1241) (by decide +kernel)) rfl
theorem k_1242 : Cond.constant RX10 298 100000 ∈ BIG := mB (List.mem_of_getElem? (i := 1242) (by decide +kernel)) rfl
theorem k_1243 : Cond.methodLink RL 185 yX10_growths ∈ BIG := mB (List.mem_of_getElem? (i := 1243) (by decide +kernel)) rfl
theorem k_1244 : Cond.instanceMethod yX10_growths ∈ BIG := mB (List.mem_of_getElem? (i := 1244) (by decide +kernel)) rfl
theorem k_1245 : Cond.selects RX10 yX10_growths yX10_growths ∈ BIG := mB (List.mem_of_getElem? (i := 1245) (by decide +kernel)) rfl
theorem k_1246 : Cond.code yX10_growths cX10_growths 2 (some .int) ∈ BIG := mB (List.mem_of_getElem? (i := 1246) (by decide +kernel)) rfl
theorem k_1247 : Cond.methodLink RX10 299 yX8_growthsAt ∈ BIG := mB (List.mem_of_getElem? (i := 1247) (by decide +kernel)) rfl
theorem k_1248 : Cond.instanceMethod yX8_growthsAt ∈ BIG := mB (List.mem_of_getElem? (i := 1248) (by decide +kernel)) rfl
theorem k_1249 : Cond.selects RX8 yX8_growthsAt yX8_growthsAt ∈ BIG := mB (List.mem_of_getElem? (i := 1249) (by decide +kernel)) rfl
theorem k_1250 : Cond.code yX8_growthsAt cX8_growthsAt 6 (some .int) ∈ BIG := mB (List.mem_of_getElem? (i := 1250) (by decide +kernel)) rfl
theorem k_1264 : Cond.methodLink RL 189 yX10_sure ∈ BIG := mB (List.mem_of_getElem? (i := 1264) (by decide +kernel)) rfl
theorem k_1265 : Cond.instanceMethod yX10_sure ∈ BIG := mB (List.mem_of_getElem? (i := 1265) (by decide +kernel)) rfl
theorem k_1266 : Cond.selects RX10 yX10_sure yX10_sure ∈ BIG := mB (List.mem_of_getElem? (i := 1266) (by decide +kernel)) rfl
theorem k_1267 : Cond.code yX10_sure cX10_sure 4 (some .int) ∈ BIG := mB (List.mem_of_getElem? (i := 1267) (by decide +kernel)) rfl
theorem k_1275 : Cond.methodLink RL 193 yX10_ask ∈ BIG := mB (List.mem_of_getElem? (i := 1275) (by decide +kernel)) rfl
theorem k_1276 : Cond.instanceMethod yX10_ask ∈ BIG := mB (List.mem_of_getElem? (i := 1276) (by decide +kernel)) rfl
theorem k_1277 : Cond.selects RX10 yX10_ask yX10_ask ∈ BIG := mB (List.mem_of_getElem? (i := 1277) (by decide +kernel)) rfl
theorem k_1278 : Cond.code yX10_ask cX10_ask 5 (some .int) ∈ BIG := mB (List.mem_of_getElem? (i := 1278) (by decide +kernel)) rfl
theorem k_1290 : Cond.methodLink RL 197 yX10_image ∈ BIG := mB (List.mem_of_getElem? (i := 1290) (by decide +kernel)) rfl
theorem k_1291 : Cond.instanceMethod yX10_image ∈ BIG := mB (List.mem_of_getElem? (i := 1291) (by decide +kernel)) rfl
theorem k_1292 : Cond.selects RX10 yX10_image yX10_image ∈ BIG := mB (List.mem_of_getElem? (i := 1292) (by decide +kernel)) rfl
theorem k_1293 : Cond.code yX10_image cX10_image 2 (some .int) ∈ BIG := mB (List.mem_of_getElem? (i := 1293) (by decide +kernel)) rfl
theorem k_1294 : Cond.methodLink RX10 314 yX5_fillBox ∈ BIG := mB (List.mem_of_getElem? (i := 1294) (by decide +kernel)) rfl
theorem k_1295 : Cond.instanceMethod yX5_fillBox ∈ BIG := mB (List.mem_of_getElem? (i := 1295) (by decide +kernel)) rfl
theorem k_1296 : Cond.selects RX5 yX5_fillBox yX5_fillBox ∈ BIG := mB (List.mem_of_getElem? (i := 1296) (by decide +kernel)) rfl
theorem k_1297 : Cond.code yX5_fillBox cX5_fillBox 2 (some .boolean) ∈ BIG := mB (List.mem_of_getElem? (i := 1297) (by decide +kernel)) rfl
theorem k_1298 : Cond.methodLink RL 201 yX10_back ∈ BIG := mB (List.mem_of_getElem? (i := 1298) (by decide +kernel)) rfl
theorem k_1299 : Cond.instanceMethod yX10_back ∈ BIG := mB (List.mem_of_getElem? (i := 1299) (by decide +kernel)) rfl
theorem k_1300 : Cond.selects RX10 yX10_back yX10_back ∈ BIG := mB (List.mem_of_getElem? (i := 1300) (by decide +kernel)) rfl
theorem k_1301 : Cond.code yX10_back cX10_back 2 (some .int) ∈ BIG := mB (List.mem_of_getElem? (i := 1301) (by decide +kernel)) rfl
theorem k_1302 : Cond.methodLink RX10 317 yX5_takeBox ∈ BIG := mB (List.mem_of_getElem? (i := 1302) (by decide +kernel)) rfl
theorem k_1303 : Cond.instanceMethod yX5_takeBox ∈ BIG := mB (List.mem_of_getElem? (i := 1303) (by decide +kernel)) rfl
theorem k_1304 : Cond.selects RX5 yX5_takeBox yX5_takeBox ∈ BIG := mB (List.mem_of_getElem? (i := 1304) (by decide +kernel)) rfl
theorem k_1305 : Cond.code yX5_takeBox cX5_takeBox 2 (some .boolean) ∈ BIG := mB (List.mem_of_getElem? (i := 1305) (by decide +kernel)) rfl
theorem k_1306 : Cond.methodLink RL 205 yX10_about ∈ BIG := mB (List.mem_of_getElem? (i := 1306) (by decide +kernel)) rfl
theorem k_1307 : Cond.instanceMethod yX10_about ∈ BIG := mB (List.mem_of_getElem? (i := 1307) (by decide +kernel)) rfl
theorem k_1308 : Cond.selects RX10 yX10_about yX10_about ∈ BIG := mB (List.mem_of_getElem? (i := 1308) (by decide +kernel)) rfl
theorem k_1309 : Cond.code yX10_about cX10_about 2 (some .int) ∈ BIG := mB (List.mem_of_getElem? (i := 1309) (by decide +kernel)) rfl
theorem k_1310 : Cond.methodLink RX10 329 yX1_seed ∈ BIG := mB (List.mem_of_getElem? (i := 1310) (by decide +kernel)) rfl
theorem k_1311 : Cond.instanceMethod yX1_seed ∈ BIG := mB (List.mem_of_getElem? (i := 1311) (by decide +kernel)) rfl
theorem k_1312 : Cond.selects RX1 yX1_seed yX1_seed ∈ BIG := mB (List.mem_of_getElem? (i := 1312) (by decide +kernel)) rfl
theorem k_1313 : Cond.code yX1_seed cX1_seed 1 (some .int) ∈ BIG := mB (List.mem_of_getElem? (i := 1313) (by decide +kernel)) rfl
theorem k_1314 : Cond.classLink RL 10 RX11 ∈ BIG := mB (List.mem_of_getElem? (i := 1314) (by decide +kernel)) rfl
theorem k_1315 : Cond.instantiable RX11 79 ∈ BIG := mB (List.mem_of_getElem? (i := 1315) (by decide +kernel)) rfl
theorem k_1316 : Cond.methodLink RL 12 yX11_init ∈ BIG := mB (List.mem_of_getElem? (i := 1316) (by decide +kernel)) rfl
theorem k_1317 : Cond.instanceMethod yX11_init ∈ BIG := mB (List.mem_of_getElem? (i := 1317) (by decide +kernel)) rfl
theorem k_1318 : Cond.code yX11_init cX11_init 1 none ∈ BIG := mB (List.mem_of_getElem? (i := 1318) (by decide +kernel)) rfl
theorem k_1319 : Cond.methodLink RX11 1 Lib.objectInit ∈ BIG := mB (List.mem_of_getElem? (i := 1319) (by decide +kernel)) rfl
theorem k_1320 : Cond.fieldLink RX11 7 RX11 "tape" "[I" ∈ BIG := mB (List.mem_of_getElem? (i := 1320) (by decide +kernel)) rfl
theorem k_1321 : Cond.fieldLink RX11 139 RX11 "taped" "I" ∈ BIG := mB (List.mem_of_getElem? (i := 1321) (by decide +kernel)) rfl
theorem k_1322 : Cond.fieldLink RX11 179 RX11 "fault" "I" ∈ BIG := mB (List.mem_of_getElem? (i := 1322) (by decide +kernel)) rfl
theorem k_1323 : Cond.fieldLink RX11 13 RX11 "faultPlace" "I" ∈ BIG := mB (List.mem_of_getElem? (i := 1323) (by decide +kernel)) rfl
theorem k_1324 : Cond.fieldLink RX11 146 RX11 "at" "I" ∈ BIG := mB (List.mem_of_getElem? (i := 1324) (by decide +kernel)) rfl
theorem k_1325 : Cond.fieldLink RX11 149 RX11 "size" "I" ∈ BIG := mB (List.mem_of_getElem? (i := 1325) (by decide +kernel)) rfl
theorem k_1326 : Cond.fieldLink RX11 166 RX11 "sort" "I" ∈ BIG := mB (List.mem_of_getElem? (i := 1326) (by decide +kernel)) rfl
theorem k_1327 : Cond.fieldLink RX11 156 RX11 "place" "I" ∈ BIG := mB (List.mem_of_getElem? (i := 1327) (by decide +kernel)) rfl
theorem k_1328 : Cond.fieldLink RX11 163 RX11 "number" "I" ∈ BIG := mB (List.mem_of_getElem? (i := 1328) (by decide +kernel)) rfl
theorem k_1329 : Cond.fieldLink RX11 159 RX11 "word" "J" ∈ BIG := mB (List.mem_of_getElem? (i := 1329) (by decide +kernel)) rfl
theorem k_1330 : Cond.fieldLink RX11 17 RX11 "nName" "[J" ∈ BIG := mB (List.mem_of_getElem? (i := 1330) (by decide +kernel)) rfl
theorem k_1331 : Cond.fieldLink RX11 21 RX11 "nStep" "[I" ∈ BIG := mB (List.mem_of_getElem? (i := 1331) (by decide +kernel)) rfl
theorem k_1332 : Cond.fieldLink RX11 24 RX11 "nArg" "[I" ∈ BIG := mB (List.mem_of_getElem? (i := 1332) (by decide +kernel)) rfl
theorem k_1333 : Cond.fieldLink RX11 27 RX11 "step" "[I" ∈ BIG := mB (List.mem_of_getElem? (i := 1333) (by decide +kernel)) rfl
theorem k_1334 : Cond.fieldLink RX11 30 RX11 "arg" "[I" ∈ BIG := mB (List.mem_of_getElem? (i := 1334) (by decide +kernel)) rfl
theorem k_1335 : Cond.fieldLink RX11 33 RX11 "open" "[I" ∈ BIG := mB (List.mem_of_getElem? (i := 1335) (by decide +kernel)) rfl
theorem k_1336 : Cond.fieldLink RX11 36 RX11 "values" "[I" ∈ BIG := mB (List.mem_of_getElem? (i := 1336) (by decide +kernel)) rfl
theorem k_1338 : Cond.fieldLink RX11 323 RX11 "steps" "I" ∈ BIG := mB (List.mem_of_getElem? (i := 1338) (by decide +kernel)) rfl
theorem k_1340 : Cond.fieldLink RX11 269 RX11 "nUnits" "I" ∈ BIG := mB (List.mem_of_getElem? (i := 1340) (by decide +kernel)) rfl
theorem k_1341 : Cond.fieldLink RX11 396 RX11 "units" "I" ∈ BIG := mB (List.mem_of_getElem? (i := 1341) (by decide +kernel)) rfl
theorem k_1344 : Cond.fieldLink RX11 291 RX11 "nHasForm" "Z" ∈ BIG := mB (List.mem_of_getElem? (i := 1344) (by decide +kernel)) rfl
theorem k_1345 : Cond.fieldLink RX11 317 RX11 "hasForm" "Z" ∈ BIG := mB (List.mem_of_getElem? (i := 1345) (by decide +kernel)) rfl
theorem k_1346 : Cond.fieldLink RX11 39 RX11 "asks" "[I" ∈ BIG := mB (List.mem_of_getElem? (i := 1346) (by decide +kernel)) rfl
theorem k_1347 : Cond.fieldLink RX11 42 RX11 "nTall" "[I" ∈ BIG := mB (List.mem_of_getElem? (i := 1347) (by decide +kernel)) rfl
theorem k_1348 : Cond.fieldLink RX11 45 RX11 "nWide" "[I" ∈ BIG := mB (List.mem_of_getElem? (i := 1348) (by decide +kernel)) rfl
theorem k_1349 : Cond.fieldLink RX11 48 RX11 "nGrows" "[I" ∈ BIG := mB (List.mem_of_getElem? (i := 1349) (by decide +kernel)) rfl
theorem k_1350 : Cond.fieldLink RX11 51 RX11 "nCoatTall" "[I" ∈ BIG := mB (List.mem_of_getElem? (i := 1350) (by decide +kernel)) rfl
theorem k_1351 : Cond.fieldLink RX11 54 RX11 "nCoatWide" "[I" ∈ BIG := mB (List.mem_of_getElem? (i := 1351) (by decide +kernel)) rfl
theorem k_1352 : Cond.fieldLink RX11 57 RX11 "nSeam" "[I" ∈ BIG := mB (List.mem_of_getElem? (i := 1352) (by decide +kernel)) rfl
theorem k_1353 : Cond.fieldLink RX11 60 RX11 "nWorn" "[I" ∈ BIG := mB (List.mem_of_getElem? (i := 1353) (by decide +kernel)) rfl
theorem k_1354 : Cond.fieldLink RX11 63 RX11 "tall" "[I" ∈ BIG := mB (List.mem_of_getElem? (i := 1354) (by decide +kernel)) rfl
theorem k_1355 : Cond.fieldLink RX11 66 RX11 "wide" "[I" ∈ BIG := mB (List.mem_of_getElem? (i := 1355) (by decide +kernel)) rfl
theorem k_1356 : Cond.fieldLink RX11 69 RX11 "grows" "[I" ∈ BIG := mB (List.mem_of_getElem? (i := 1356) (by decide +kernel)) rfl
theorem k_1357 : Cond.fieldLink RX11 72 RX11 "coatTall" "[I" ∈ BIG := mB (List.mem_of_getElem? (i := 1357) (by decide +kernel)) rfl
theorem k_1358 : Cond.fieldLink RX11 75 RX11 "coatWide" "[I" ∈ BIG := mB (List.mem_of_getElem? (i := 1358) (by decide +kernel)) rfl
theorem k_1359 : Cond.fieldLink RX11 78 RX11 "seam" "[I" ∈ BIG := mB (List.mem_of_getElem? (i := 1359) (by decide +kernel)) rfl
theorem k_1360 : Cond.fieldLink RX11 81 RX11 "worn" "[I" ∈ BIG := mB (List.mem_of_getElem? (i := 1360) (by decide +kernel)) rfl
theorem k_1361 : Cond.fieldLink RX11 330 RX11 "nMen" "I" ∈ BIG := mB (List.mem_of_getElem? (i := 1361) (by decide +kernel)) rfl
theorem k_1362 : Cond.fieldLink RX11 339 RX11 "nCoats" "I" ∈ BIG := mB (List.mem_of_getElem? (i := 1362) (by decide +kernel)) rfl
theorem k_1363 : Cond.fieldLink RX11 354 RX11 "nEasy" "I" ∈ BIG := mB (List.mem_of_getElem? (i := 1363) (by decide +kernel)) rfl
theorem k_1364 : Cond.fieldLink RX11 360 RX11 "nBolt" "I" ∈ BIG := mB (List.mem_of_getElem? (i := 1364) (by decide +kernel)) rfl
theorem k_1365 : Cond.fieldLink RX11 366 RX11 "nLike" "I" ∈ BIG := mB (List.mem_of_getElem? (i := 1365) (by decide +kernel)) rfl
theorem k_1366 : Cond.fieldLink RX11 372 RX11 "nRain" "I" ∈ BIG := mB (List.mem_of_getElem? (i := 1366) (by decide +kernel)) rfl
theorem k_1367 : Cond.fieldLink RX11 378 RX11 "nDraw" "I" ∈ BIG := mB (List.mem_of_getElem? (i := 1367) (by decide +kernel)) rfl
theorem k_1368 : Cond.fieldLink RX11 387 RX11 "men" "I" ∈ BIG := mB (List.mem_of_getElem? (i := 1368) (by decide +kernel)) rfl
theorem k_1369 : Cond.fieldLink RX11 390 RX11 "coats" "I" ∈ BIG := mB (List.mem_of_getElem? (i := 1369) (by decide +kernel)) rfl
theorem k_1370 : Cond.fieldLink RX11 84 RX11 "easy" "I" ∈ BIG := mB (List.mem_of_getElem? (i := 1370) (by decide +kernel)) rfl
theorem k_1371 : Cond.fieldLink RX11 87 RX11 "bolt" "I" ∈ BIG := mB (List.mem_of_getElem? (i := 1371) (by decide +kernel)) rfl
theorem k_1372 : Cond.fieldLink RX11 90 RX11 "like" "I" ∈ BIG := mB (List.mem_of_getElem? (i := 1372) (by decide +kernel)) rfl
theorem k_1373 : Cond.fieldLink RX11 393 RX11 "rain" "I" ∈ BIG := mB (List.mem_of_getElem? (i := 1373) (by decide +kernel)) rfl
theorem k_1374 : Cond.fieldLink RX11 351 RX11 "nHasEasy" "Z" ∈ BIG := mB (List.mem_of_getElem? (i := 1374) (by decide +kernel)) rfl
theorem k_1375 : Cond.fieldLink RX11 357 RX11 "nHasBolt" "Z" ∈ BIG := mB (List.mem_of_getElem? (i := 1375) (by decide +kernel)) rfl
theorem k_1376 : Cond.fieldLink RX11 363 RX11 "nHasLike" "Z" ∈ BIG := mB (List.mem_of_getElem? (i := 1376) (by decide +kernel)) rfl
