set_option maxRecDepth 100000 in
theorem pw_773 : (.fieldLink RX8 32 "FlowPlaneModel" "sheets" "[I" : Cond) ∈ lw_tbl := List.mem_of_getElem? (i := 773) rfl
set_option maxRecDepth 100000 in
theorem pw_774 : (.fieldLink RX8 65 "FlowPlaneModel" "undos" "I" : Cond) ∈ lw_tbl := List.mem_of_getElem? (i := 774) rfl
set_option maxRecDepth 100000 in
theorem pw_775 : Cond.fieldLink RX8 57 "FlowPlaneModel" "findings" "I" ∈ lw_tbl := List.mem_of_getElem? (i := 775) rfl
set_option maxRecDepth 100000 in
theorem pw_776 : Cond.fieldLink RX8 35 "FlowPlaneModel" "fresh" "[I" ∈ lw_tbl := List.mem_of_getElem? (i := 776) rfl
set_option maxRecDepth 100000 in
theorem pw_777 : Cond.fieldLink RX8 139 "FlowPlaneModel" "a" "J" ∈ lw_tbl := List.mem_of_getElem? (i := 777) rfl
set_option maxRecDepth 100000 in
theorem pw_778 : Cond.fieldLink RX8 143 "FlowPlaneModel" "b" "J" ∈ lw_tbl := List.mem_of_getElem? (i := 778) rfl
set_option maxRecDepth 100000 in
theorem pw_779 : Cond.fieldLink RX8 146 "FlowPlaneModel" "c" "J" ∈ lw_tbl := List.mem_of_getElem? (i := 779) rfl
set_option maxRecDepth 100000 in
theorem pw_780 : Cond.fieldLink RX8 153 "FlowPlaneModel" "roots" "I" ∈ lw_tbl := List.mem_of_getElem? (i := 780) rfl
set_option maxRecDepth 100000 in
theorem pw_781 : Cond.fieldLink RX8 38 "FlowPlaneModel" "rootWhich" "[I" ∈ lw_tbl := List.mem_of_getElem? (i := 781) rfl
set_option maxRecDepth 100000 in
theorem pw_782 : Cond.fieldLink RX8 156 "FlowPlaneModel" "isDouble" "Z" ∈ lw_tbl := List.mem_of_getElem? (i := 782) rfl
set_option maxRecDepth 100000 in
theorem pw_783 : Cond.fieldLink RX8 41 "FlowPlaneModel" "signs" "[I" ∈ lw_tbl := List.mem_of_getElem? (i := 783) rfl
set_option maxRecDepth 100000 in
theorem pw_784 : Cond.fieldLink RX8 44 "FlowPlaneModel" "atNought" "[I" ∈ lw_tbl := List.mem_of_getElem? (i := 784) rfl
set_option maxRecDepth 100000 in
theorem pw_785 : Cond.fieldLink RX8 184 "FlowPlaneModel" "many" "I" ∈ lw_tbl := List.mem_of_getElem? (i := 785) rfl
set_option maxRecDepth 100000 in
theorem pw_786 : Cond.fieldLink RX8 47 "FlowPlaneModel" "change" "[J" ∈ lw_tbl := List.mem_of_getElem? (i := 786) rfl
set_option maxRecDepth 100000 in
theorem pw_787 : (.fieldLink RX8 51 "FlowPlaneModel" "table" "[J" : Cond) ∈ lw_tbl := List.mem_of_getElem? (i := 787) rfl
set_option maxRecDepth 100000 in
theorem pw_788 : (.fieldLink RX8 54 "FlowPlaneModel" "carried" "[I" : Cond) ∈ lw_tbl := List.mem_of_getElem? (i := 788) rfl
set_option maxRecDepth 100000 in
theorem pw_789 : u_lay RX8 TX8 0 ∈ lw_tbl := List.mem_of_getElem? (i := 789) rfl
set_option maxRecDepth 100000 in
theorem pw_791 : u_lay RX8 TX8 1 ∈ lw_tbl := List.mem_of_getElem? (i := 791) rfl
set_option maxRecDepth 100000 in
theorem pw_793 : u_lay RX8 TX8 2 ∈ lw_tbl := List.mem_of_getElem? (i := 793) rfl
set_option maxRecDepth 100000 in
theorem pw_795 : u_lay RX8 TX8 3 ∈ lw_tbl := List.mem_of_getElem? (i := 795) rfl
set_option maxRecDepth 100000 in
theorem pw_797 : u_lay RX8 TX8 4 ∈ lw_tbl := List.mem_of_getElem? (i := 797) rfl
set_option maxRecDepth 100000 in
theorem pw_799 : u_lay RX8 TX8 5 ∈ lw_tbl := List.mem_of_getElem? (i := 799) rfl
set_option maxRecDepth 100000 in
theorem pw_801 : u_lay RX8 TX8 6 ∈ lw_tbl := List.mem_of_getElem? (i := 801) rfl
set_option maxRecDepth 100000 in
theorem pw_803 : u_lay RX8 TX8 7 ∈ lw_tbl := List.mem_of_getElem? (i := 803) rfl
set_option maxRecDepth 100000 in
theorem pw_805 : u_lay RX8 TX8 8 ∈ lw_tbl := List.mem_of_getElem? (i := 805) rfl
set_option maxRecDepth 100000 in
theorem pw_807 : u_lay RX8 TX8 9 ∈ lw_tbl := List.mem_of_getElem? (i := 807) rfl
set_option maxRecDepth 100000 in
theorem pw_809 : u_lay RX8 TX8 10 ∈ lw_tbl := List.mem_of_getElem? (i := 809) rfl
set_option maxRecDepth 100000 in
theorem pw_811 : u_lay RX8 TX8 11 ∈ lw_tbl := List.mem_of_getElem? (i := 811) rfl
set_option maxRecDepth 100000 in
theorem pw_813 : u_lay RX8 TX8 12 ∈ lw_tbl := List.mem_of_getElem? (i := 813) rfl
set_option maxRecDepth 100000 in
theorem pw_815 : u_lay RX8 TX8 13 ∈ lw_tbl := List.mem_of_getElem? (i := 815) rfl
set_option maxRecDepth 100000 in
theorem pw_817 : u_lay RX8 TX8 14 ∈ lw_tbl := List.mem_of_getElem? (i := 817) rfl
set_option maxRecDepth 100000 in
theorem pw_819 : u_lay RX8 TX8 15 ∈ lw_tbl := List.mem_of_getElem? (i := 819) rfl
set_option maxRecDepth 100000 in
theorem pw_821 : u_lay RX8 TX8 16 ∈ lw_tbl := List.mem_of_getElem? (i := 821) rfl
set_option maxRecDepth 100000 in
theorem pw_823 : u_lay RX8 TX8 17 ∈ lw_tbl := List.mem_of_getElem? (i := 823) rfl
set_option maxRecDepth 100000 in
theorem pw_825 : u_lay RX8 TX8 18 ∈ lw_tbl := List.mem_of_getElem? (i := 825) rfl
set_option maxRecDepth 100000 in
theorem pw_827 : u_lay RX8 TX8 19 ∈ lw_tbl := List.mem_of_getElem? (i := 827) rfl
set_option maxRecDepth 100000 in
theorem pw_829 : u_lay RX8 TX8 20 ∈ lw_tbl := List.mem_of_getElem? (i := 829) rfl
set_option maxRecDepth 100000 in
theorem pw_831 : u_lay RX8 TX8 21 ∈ lw_tbl := List.mem_of_getElem? (i := 831) rfl
set_option maxRecDepth 100000 in
theorem pw_833 : u_lay RX8 TX8 22 ∈ lw_tbl := List.mem_of_getElem? (i := 833) rfl
set_option maxRecDepth 100000 in
theorem pw_836 : (.arrayClass .boolean : Cond) ∈ lw_tbl := List.mem_of_getElem? (i := 836) rfl
set_option maxRecDepth 100000 in
theorem pw_841 : Cond.methodLink RX8 61 yX8_in ∈ lw_tbl := List.mem_of_getElem? (i := 841) rfl
set_option maxRecDepth 100000 in
theorem pw_842 : Cond.static yX8_in ∈ lw_tbl := List.mem_of_getElem? (i := 842) rfl
set_option maxRecDepth 100000 in
theorem pw_843 : Cond.code yX8_in cX8_in 3 (some .boolean) ∈ lw_tbl := List.mem_of_getElem? (i := 843) rfl
set_option maxRecDepth 100000 in
theorem pw_844 : Cond.constant RX8 68 (-1000001) ∈ lw_tbl := List.mem_of_getElem? (i := 844) rfl
set_option maxRecDepth 100000 in
theorem pw_845 : Cond.methodLink RX8 69 yX8_found ∈ lw_tbl := List.mem_of_getElem? (i := 845) rfl
set_option maxRecDepth 100000 in
theorem pw_847 : Cond.instanceMethod yX8_found ∈ lw_tbl := List.mem_of_getElem? (i := 847) rfl
set_option maxRecDepth 100000 in
theorem pw_848 : Cond.code yX8_found cX8_found 2 (some .int) ∈ lw_tbl := List.mem_of_getElem? (i := 848) rfl
set_option maxRecDepth 100000 in
theorem pw_849 : (.methodLink RX8 73 yX8_remember : Cond) ∈ lw_tbl := List.mem_of_getElem? (i := 849) rfl
set_option maxRecDepth 100000 in
theorem pw_851 : (.instanceMethod yX8_remember : Cond) ∈ lw_tbl := List.mem_of_getElem? (i := 851) rfl
set_option maxRecDepth 100000 in
theorem pw_852 : (.code yX8_remember cX8_remember 2 none : Cond) ∈ lw_tbl := List.mem_of_getElem? (i := 852) rfl
set_option maxRecDepth 100000 in
theorem pw_853 : Cond.methodLink RX8 76 yX8_get ∈ lw_tbl := List.mem_of_getElem? (i := 853) rfl
set_option maxRecDepth 100000 in
theorem pw_855 : Cond.instanceMethod yX8_get ∈ lw_tbl := List.mem_of_getElem? (i := 855) rfl
set_option maxRecDepth 100000 in
theorem pw_856 : Cond.code yX8_get cX8_get 3 (some .int) ∈ lw_tbl := List.mem_of_getElem? (i := 856) rfl
set_option maxRecDepth 100000 in
theorem pw_865 : Cond.methodLink RX8 80 yX8_isPlace ∈ lw_tbl := List.mem_of_getElem? (i := 865) rfl
set_option maxRecDepth 100000 in
theorem pw_866 : Cond.static yX8_isPlace ∈ lw_tbl := List.mem_of_getElem? (i := 866) rfl
set_option maxRecDepth 100000 in
theorem pw_867 : Cond.code yX8_isPlace cX8_isPlace 2 (some .boolean) ∈ lw_tbl := List.mem_of_getElem? (i := 867) rfl
set_option maxRecDepth 100000 in
theorem pw_868 : Cond.methodLink RX8 84 yX8_speedAt ∈ lw_tbl := List.mem_of_getElem? (i := 868) rfl
set_option maxRecDepth 100000 in
theorem pw_870 : Cond.instanceMethod yX8_speedAt ∈ lw_tbl := List.mem_of_getElem? (i := 870) rfl
set_option maxRecDepth 100000 in
theorem pw_871 : Cond.code yX8_speedAt cX8_speedAt 4 (some .int) ∈ lw_tbl := List.mem_of_getElem? (i := 871) rfl
set_option maxRecDepth 100000 in
theorem pw_876 : Cond.methodLink RX8 88 yX8_slopeAt ∈ lw_tbl := List.mem_of_getElem? (i := 876) rfl
set_option maxRecDepth 100000 in
theorem pw_878 : Cond.instanceMethod yX8_slopeAt ∈ lw_tbl := List.mem_of_getElem? (i := 878) rfl
set_option maxRecDepth 100000 in
theorem pw_879 : Cond.code yX8_slopeAt cX8_slopeAt 5 (some .int) ∈ lw_tbl := List.mem_of_getElem? (i := 879) rfl
set_option maxRecDepth 100000 in
theorem pw_888 : Cond.methodLink RX8 92 yX8_take ∈ lw_tbl := List.mem_of_getElem? (i := 888) rfl
set_option maxRecDepth 100000 in
theorem pw_890 : Cond.instanceMethod yX8_take ∈ lw_tbl := List.mem_of_getElem? (i := 890) rfl
set_option maxRecDepth 100000 in
theorem pw_891 : Cond.code yX8_take cX8_take 2 none ∈ lw_tbl := List.mem_of_getElem? (i := 891) rfl
set_option maxRecDepth 100000 in
theorem pw_900 : Cond.methodLink RX8 95 yX8_isSmall ∈ lw_tbl := List.mem_of_getElem? (i := 900) rfl
set_option maxRecDepth 100000 in
theorem pw_902 : Cond.instanceMethod yX8_isSmall ∈ lw_tbl := List.mem_of_getElem? (i := 902) rfl
set_option maxRecDepth 100000 in
theorem pw_903 : Cond.code yX8_isSmall cX8_isSmall 2 (some .boolean) ∈ lw_tbl := List.mem_of_getElem? (i := 903) rfl
set_option maxRecDepth 100000 in
theorem pw_904 : Cond.constant RX8 99 (-1000003) ∈ lw_tbl := List.mem_of_getElem? (i := 904) rfl
set_option maxRecDepth 100000 in
theorem pw_909 : Cond.constant RX8 100 (-1000006) ∈ lw_tbl := List.mem_of_getElem? (i := 909) rfl
set_option maxRecDepth 100000 in
theorem pw_914 : Cond.methodLink RX8 101 yX8_isRest ∈ lw_tbl := List.mem_of_getElem? (i := 914) rfl
set_option maxRecDepth 100000 in
theorem pw_916 : Cond.instanceMethod yX8_isRest ∈ lw_tbl := List.mem_of_getElem? (i := 916) rfl
set_option maxRecDepth 100000 in
theorem pw_917 : Cond.code yX8_isRest cX8_isRest 3 (some .boolean) ∈ lw_tbl := List.mem_of_getElem? (i := 917) rfl
set_option maxRecDepth 100000 in
theorem pw_926 : Cond.methodLink RX8 104 yX8_sortAt ∈ lw_tbl := List.mem_of_getElem? (i := 926) rfl
set_option maxRecDepth 100000 in
theorem pw_928 : Cond.instanceMethod yX8_sortAt ∈ lw_tbl := List.mem_of_getElem? (i := 928) rfl
set_option maxRecDepth 100000 in
theorem pw_929 : Cond.code yX8_sortAt cX8_sortAt 7 (some .int) ∈ lw_tbl := List.mem_of_getElem? (i := 929) rfl
set_option maxRecDepth 100000 in
theorem pw_938 : Cond.methodLink RX8 108 yX8_corners ∈ lw_tbl := List.mem_of_getElem? (i := 938) rfl
set_option maxRecDepth 100000 in
theorem pw_940 : Cond.instanceMethod yX8_corners ∈ lw_tbl := List.mem_of_getElem? (i := 940) rfl
set_option maxRecDepth 100000 in
theorem pw_941 : Cond.code yX8_corners cX8_corners 1 (some .int) ∈ lw_tbl := List.mem_of_getElem? (i := 941) rfl
set_option maxRecDepth 100000 in
theorem pw_942 : Cond.methodLink RX8 112 yX8_xOf ∈ lw_tbl := List.mem_of_getElem? (i := 942) rfl
set_option maxRecDepth 100000 in
theorem pw_944 : Cond.instanceMethod yX8_xOf ∈ lw_tbl := List.mem_of_getElem? (i := 944) rfl
set_option maxRecDepth 100000 in
theorem pw_945 : Cond.code yX8_xOf cX8_xOf 2 (some .int) ∈ lw_tbl := List.mem_of_getElem? (i := 945) rfl
set_option maxRecDepth 100000 in
theorem pw_946 : Cond.methodLink RX8 115 yX8_yOf ∈ lw_tbl := List.mem_of_getElem? (i := 946) rfl
set_option maxRecDepth 100000 in
theorem pw_948 : Cond.instanceMethod yX8_yOf ∈ lw_tbl := List.mem_of_getElem? (i := 948) rfl
set_option maxRecDepth 100000 in
theorem pw_949 : Cond.code yX8_yOf cX8_yOf 2 (some .int) ∈ lw_tbl := List.mem_of_getElem? (i := 949) rfl
set_option maxRecDepth 100000 in
theorem pw_955 : Cond.methodLink RL 85 yX8_simple ∈ lw_tbl := List.mem_of_getElem? (i := 955) rfl
set_option maxRecDepth 100000 in
theorem pw_956 : Cond.instanceMethod yX8_simple ∈ lw_tbl := List.mem_of_getElem? (i := 956) rfl
set_option maxRecDepth 100000 in
theorem pw_957 : Cond.selects RX8 yX8_simple yX8_simple ∈ lw_tbl := List.mem_of_getElem? (i := 957) rfl
set_option maxRecDepth 100000 in
theorem pw_958 : (.code yX8_simple cX8_simple 2 (some .int) : Cond) ∈ lw_tbl := List.mem_of_getElem? (i := 958) rfl
set_option maxRecDepth 100000 in
theorem pw_959 : Cond.methodLink RX8 129 yX8_isSimple ∈ lw_tbl := List.mem_of_getElem? (i := 959) rfl
set_option maxRecDepth 100000 in
theorem pw_961 : Cond.instanceMethod yX8_isSimple ∈ lw_tbl := List.mem_of_getElem? (i := 961) rfl
set_option maxRecDepth 100000 in
theorem pw_962 : Cond.code yX8_isSimple cX8_isSimple 5 (some .boolean) ∈ lw_tbl := List.mem_of_getElem? (i := 962) rfl
set_option maxRecDepth 100000 in
theorem pw_963 : Cond.methodLink RX8 123 yX8_isOn ∈ lw_tbl := List.mem_of_getElem? (i := 963) rfl
set_option maxRecDepth 100000 in
theorem pw_965 : Cond.instanceMethod yX8_isOn ∈ lw_tbl := List.mem_of_getElem? (i := 965) rfl
set_option maxRecDepth 100000 in
theorem pw_966 : Cond.code yX8_isOn cX8_isOn 8 (some .boolean) ∈ lw_tbl := List.mem_of_getElem? (i := 966) rfl
set_option maxRecDepth 100000 in
theorem pw_967 : Cond.methodLink RX8 119 yX8_turn ∈ lw_tbl := List.mem_of_getElem? (i := 967) rfl
set_option maxRecDepth 100000 in
theorem pw_968 : Cond.static yX8_turn ∈ lw_tbl := List.mem_of_getElem? (i := 968) rfl
set_option maxRecDepth 100000 in
theorem pw_969 : Cond.code yX8_turn cX8_turn 7 (some .int) ∈ lw_tbl := List.mem_of_getElem? (i := 969) rfl
set_option maxRecDepth 100000 in
theorem pw_970 : Cond.methodLink RX8 126 yX8_doMeet ∈ lw_tbl := List.mem_of_getElem? (i := 970) rfl
set_option maxRecDepth 100000 in
theorem pw_972 : Cond.instanceMethod yX8_doMeet ∈ lw_tbl := List.mem_of_getElem? (i := 972) rfl
set_option maxRecDepth 100000 in
theorem pw_973 : Cond.code yX8_doMeet cX8_doMeet 7 (some .boolean) ∈ lw_tbl := List.mem_of_getElem? (i := 973) rfl
set_option maxRecDepth 100000 in
theorem pw_974 : Cond.methodLink RX8 132 yX8_areaOf ∈ lw_tbl := List.mem_of_getElem? (i := 974) rfl
set_option maxRecDepth 100000 in
theorem pw_976 : Cond.instanceMethod yX8_areaOf ∈ lw_tbl := List.mem_of_getElem? (i := 976) rfl
set_option maxRecDepth 100000 in
theorem pw_977 : Cond.code yX8_areaOf cX8_areaOf 3 (some .int) ∈ lw_tbl := List.mem_of_getElem? (i := 977) rfl
set_option maxRecDepth 100000 in
theorem pw_978 : Cond.methodLink RL 89 yX8_area ∈ lw_tbl := List.mem_of_getElem? (i := 978) rfl
set_option maxRecDepth 100000 in
theorem pw_979 : Cond.instanceMethod yX8_area ∈ lw_tbl := List.mem_of_getElem? (i := 979) rfl
set_option maxRecDepth 100000 in
theorem pw_980 : Cond.selects RX8 yX8_area yX8_area ∈ lw_tbl := List.mem_of_getElem? (i := 980) rfl
set_option maxRecDepth 100000 in
theorem pw_981 : (.code yX8_area cX8_area 1 (some .int) : Cond) ∈ lw_tbl := List.mem_of_getElem? (i := 981) rfl
set_option maxRecDepth 100000 in
theorem pw_982 : Cond.methodLink RL 93 yX8_within ∈ lw_tbl := List.mem_of_getElem? (i := 982) rfl
set_option maxRecDepth 100000 in
theorem pw_983 : Cond.instanceMethod yX8_within ∈ lw_tbl := List.mem_of_getElem? (i := 983) rfl
set_option maxRecDepth 100000 in
theorem pw_984 : Cond.selects RX8 yX8_within yX8_within ∈ lw_tbl := List.mem_of_getElem? (i := 984) rfl
set_option maxRecDepth 100000 in
theorem pw_985 : (.code yX8_within cX8_within 3 (some .int) : Cond) ∈ lw_tbl := List.mem_of_getElem? (i := 985) rfl
set_option maxRecDepth 100000 in
theorem pw_986 : Cond.methodLink RX8 135 yX8_where ∈ lw_tbl := List.mem_of_getElem? (i := 986) rfl
set_option maxRecDepth 100000 in
theorem pw_988 : Cond.instanceMethod yX8_where ∈ lw_tbl := List.mem_of_getElem? (i := 988) rfl
set_option maxRecDepth 100000 in
theorem pw_989 : Cond.code yX8_where cX8_where 8 (some .int) ∈ lw_tbl := List.mem_of_getElem? (i := 989) rfl
set_option maxRecDepth 100000 in
theorem pw_990 : Cond.constant RX8 138 (-1000004) ∈ lw_tbl := List.mem_of_getElem? (i := 990) rfl
set_option maxRecDepth 100000 in
theorem pw_991 : Cond.methodLink RL 101 yX8_turns ∈ lw_tbl := List.mem_of_getElem? (i := 991) rfl
set_option maxRecDepth 100000 in
theorem pw_992 : Cond.instanceMethod yX8_turns ∈ lw_tbl := List.mem_of_getElem? (i := 992) rfl
set_option maxRecDepth 100000 in
theorem pw_993 : Cond.selects RX8 yX8_turns yX8_turns ∈ lw_tbl := List.mem_of_getElem? (i := 993) rfl
set_option maxRecDepth 100000 in
theorem pw_994 : (.code yX8_turns cX8_turns 2 (some .int) : Cond) ∈ lw_tbl := List.mem_of_getElem? (i := 994) rfl
set_option maxRecDepth 100000 in
theorem pw_995 : Cond.methodLink RX8 172 yX8_zeros ∈ lw_tbl := List.mem_of_getElem? (i := 995) rfl
set_option maxRecDepth 100000 in
theorem pw_997 : Cond.instanceMethod yX8_zeros ∈ lw_tbl := List.mem_of_getElem? (i := 997) rfl
set_option maxRecDepth 100000 in
theorem pw_998 : Cond.code yX8_zeros cX8_zeros 2 (some .int) ∈ lw_tbl := List.mem_of_getElem? (i := 998) rfl
set_option maxRecDepth 100000 in
theorem pw_999 : Cond.methodLink RX8 175 yX8_cross ∈ lw_tbl := List.mem_of_getElem? (i := 999) rfl
set_option maxRecDepth 100000 in
theorem pw_1001 : Cond.instanceMethod yX8_cross ∈ lw_tbl := List.mem_of_getElem? (i := 1001) rfl
set_option maxRecDepth 100000 in
theorem pw_1002 : Cond.code yX8_cross cX8_cross 10 none ∈ lw_tbl := List.mem_of_getElem? (i := 1002) rfl
set_option maxRecDepth 100000 in
theorem pw_1003 : Cond.methodLink RX8 149 yX8_follow ∈ lw_tbl := List.mem_of_getElem? (i := 1003) rfl
set_option maxRecDepth 100000 in
theorem pw_1005 : Cond.instanceMethod yX8_follow ∈ lw_tbl := List.mem_of_getElem? (i := 1005) rfl
set_option maxRecDepth 100000 in
theorem pw_1006 : Cond.code yX8_follow cX8_follow 7 none ∈ lw_tbl := List.mem_of_getElem? (i := 1006) rfl
set_option maxRecDepth 100000 in
theorem pw_1007 : Cond.methodLink RX8 178 yX8_findRoots ∈ lw_tbl := List.mem_of_getElem? (i := 1007) rfl
set_option maxRecDepth 100000 in
theorem pw_1009 : Cond.instanceMethod yX8_findRoots ∈ lw_tbl := List.mem_of_getElem? (i := 1009) rfl
set_option maxRecDepth 100000 in
theorem pw_1010 : Cond.code yX8_findRoots cX8_findRoots 9 none ∈ lw_tbl := List.mem_of_getElem? (i := 1010) rfl
set_option maxRecDepth 100000 in
theorem pw_1011 : Cond.methodLink RX8 160 yX8_sign ∈ lw_tbl := List.mem_of_getElem? (i := 1011) rfl
set_option maxRecDepth 100000 in
theorem pw_1012 : Cond.static yX8_sign ∈ lw_tbl := List.mem_of_getElem? (i := 1012) rfl
set_option maxRecDepth 100000 in
theorem pw_1013 : Cond.code yX8_sign cX8_sign 2 (some .int) ∈ lw_tbl := List.mem_of_getElem? (i := 1013) rfl
set_option maxRecDepth 100000 in
theorem pw_1014 : Cond.methodLink RX8 164 yX8_only ∈ lw_tbl := List.mem_of_getElem? (i := 1014) rfl
set_option maxRecDepth 100000 in
theorem pw_1016 : Cond.instanceMethod yX8_only ∈ lw_tbl := List.mem_of_getElem? (i := 1016) rfl
set_option maxRecDepth 100000 in
theorem pw_1017 : Cond.code yX8_only cX8_only 2 none ∈ lw_tbl := List.mem_of_getElem? (i := 1017) rfl
set_option maxRecDepth 100000 in
theorem pw_1018 : Cond.constantLong RX8 168 (4) ∈ lw_tbl := List.mem_of_getElem? (i := 1018) rfl
set_option maxRecDepth 100000 in
theorem pw_1019 : Cond.constantLong RX8 170 (2) ∈ lw_tbl := List.mem_of_getElem? (i := 1019) rfl
set_option maxRecDepth 100000 in
theorem pw_1020 : Cond.methodLink RL 97 yX8_across ∈ lw_tbl := List.mem_of_getElem? (i := 1020) rfl
set_option maxRecDepth 100000 in
theorem pw_1021 : Cond.instanceMethod yX8_across ∈ lw_tbl := List.mem_of_getElem? (i := 1021) rfl
set_option maxRecDepth 100000 in
theorem pw_1022 : Cond.selects RX8 yX8_across yX8_across ∈ lw_tbl := List.mem_of_getElem? (i := 1022) rfl
set_option maxRecDepth 100000 in
theorem pw_1023 : (.code yX8_across cX8_across 2 (some .int) : Cond) ∈ lw_tbl := List.mem_of_getElem? (i := 1023) rfl
set_option maxRecDepth 100000 in
theorem pw_1024 : Cond.methodLink RX8 181 yX8_acrossOf ∈ lw_tbl := List.mem_of_getElem? (i := 1024) rfl
set_option maxRecDepth 100000 in
theorem pw_1026 : Cond.instanceMethod yX8_acrossOf ∈ lw_tbl := List.mem_of_getElem? (i := 1026) rfl
set_option maxRecDepth 100000 in
theorem pw_1027 : Cond.code yX8_acrossOf cX8_acrossOf 2 (some .int) ∈ lw_tbl := List.mem_of_getElem? (i := 1027) rfl
set_option maxRecDepth 100000 in
theorem pw_1028 : Cond.methodLink RL 105 yX8_held ∈ lw_tbl := List.mem_of_getElem? (i := 1028) rfl
set_option maxRecDepth 100000 in
theorem pw_1029 : Cond.instanceMethod yX8_held ∈ lw_tbl := List.mem_of_getElem? (i := 1029) rfl
set_option maxRecDepth 100000 in
theorem pw_1030 : Cond.selects RX8 yX8_held yX8_held ∈ lw_tbl := List.mem_of_getElem? (i := 1030) rfl
set_option maxRecDepth 100000 in
theorem pw_1031 : (.code yX8_held cX8_held 3 (some .int) : Cond) ∈ lw_tbl := List.mem_of_getElem? (i := 1031) rfl
set_option maxRecDepth 100000 in
theorem pw_1032 : Cond.methodLink RL 109 yX8_wind ∈ lw_tbl := List.mem_of_getElem? (i := 1032) rfl
set_option maxRecDepth 100000 in
theorem pw_1033 : Cond.instanceMethod yX8_wind ∈ lw_tbl := List.mem_of_getElem? (i := 1033) rfl
set_option maxRecDepth 100000 in
theorem pw_1034 : Cond.selects RX8 yX8_wind yX8_wind ∈ lw_tbl := List.mem_of_getElem? (i := 1034) rfl
set_option maxRecDepth 100000 in
theorem pw_1035 : (.code yX8_wind cX8_wind 8 (some .int) : Cond) ∈ lw_tbl := List.mem_of_getElem? (i := 1035) rfl
set_option maxRecDepth 100000 in
theorem pw_1036 : Cond.methodLink RX8 202 yX8_notePiece ∈ lw_tbl := List.mem_of_getElem? (i := 1036) rfl
set_option maxRecDepth 100000 in
theorem pw_1038 : Cond.instanceMethod yX8_notePiece ∈ lw_tbl := List.mem_of_getElem? (i := 1038) rfl
set_option maxRecDepth 100000 in
theorem pw_1039 : Cond.code yX8_notePiece cX8_notePiece 12 (some .boolean) ∈ lw_tbl := List.mem_of_getElem? (i := 1039) rfl
set_option maxRecDepth 100000 in
theorem pw_1040 : Cond.methodLink RX8 191 yX8_hasNought ∈ lw_tbl := List.mem_of_getElem? (i := 1040) rfl
set_option maxRecDepth 100000 in
theorem pw_1042 : Cond.instanceMethod yX8_hasNought ∈ lw_tbl := List.mem_of_getElem? (i := 1042) rfl
set_option maxRecDepth 100000 in
theorem pw_1043 : Cond.code yX8_hasNought cX8_hasNought 1 (some .boolean) ∈ lw_tbl := List.mem_of_getElem? (i := 1043) rfl
set_option maxRecDepth 100000 in
theorem pw_1044 : Cond.methodLink RX8 194 yX8_note ∈ lw_tbl := List.mem_of_getElem? (i := 1044) rfl
set_option maxRecDepth 100000 in
theorem pw_1046 : Cond.instanceMethod yX8_note ∈ lw_tbl := List.mem_of_getElem? (i := 1046) rfl
set_option maxRecDepth 100000 in
theorem pw_1047 : Cond.code yX8_note cX8_note 3 none ∈ lw_tbl := List.mem_of_getElem? (i := 1047) rfl
set_option maxRecDepth 100000 in
theorem pw_1048 : Cond.methodLink RX8 198 yX8_signAt ∈ lw_tbl := List.mem_of_getElem? (i := 1048) rfl
set_option maxRecDepth 100000 in
theorem pw_1050 : Cond.instanceMethod yX8_signAt ∈ lw_tbl := List.mem_of_getElem? (i := 1050) rfl
set_option maxRecDepth 100000 in
theorem pw_1051 : Cond.code yX8_signAt cX8_signAt 15 (some .int) ∈ lw_tbl := List.mem_of_getElem? (i := 1051) rfl
set_option maxRecDepth 100000 in
theorem pw_1052 : Cond.methodLink RX8 187 yX8_signOfSum ∈ lw_tbl := List.mem_of_getElem? (i := 1052) rfl
set_option maxRecDepth 100000 in
theorem pw_1053 : Cond.static yX8_signOfSum ∈ lw_tbl := List.mem_of_getElem? (i := 1053) rfl
set_option maxRecDepth 100000 in
theorem pw_1054 : Cond.code yX8_signOfSum cX8_signOfSum 17 (some .int) ∈ lw_tbl := List.mem_of_getElem? (i := 1054) rfl
set_option maxRecDepth 100000 in
theorem pw_1055 : Cond.constant RX8 206 (-1000007) ∈ lw_tbl := List.mem_of_getElem? (i := 1055) rfl
set_option maxRecDepth 100000 in
theorem pw_1056 : Cond.methodLink RL 113 yX8_indexes ∈ lw_tbl := List.mem_of_getElem? (i := 1056) rfl
set_option maxRecDepth 100000 in
theorem pw_1057 : Cond.instanceMethod yX8_indexes ∈ lw_tbl := List.mem_of_getElem? (i := 1057) rfl
set_option maxRecDepth 100000 in
theorem pw_1058 : Cond.selects RX8 yX8_indexes yX8_indexes ∈ lw_tbl := List.mem_of_getElem? (i := 1058) rfl
set_option maxRecDepth 100000 in
theorem pw_1059 : (.code yX8_indexes cX8_indexes 5 (some .int) : Cond) ∈ lw_tbl := List.mem_of_getElem? (i := 1059) rfl
set_option maxRecDepth 100000 in
theorem pw_1060 : Cond.methodLink RL 118 yX8_along ∈ lw_tbl := List.mem_of_getElem? (i := 1060) rfl
set_option maxRecDepth 100000 in
theorem pw_1061 : Cond.instanceMethod yX8_along ∈ lw_tbl := List.mem_of_getElem? (i := 1061) rfl
set_option maxRecDepth 100000 in
theorem pw_1062 : Cond.selects RX8 yX8_along yX8_along ∈ lw_tbl := List.mem_of_getElem? (i := 1062) rfl
set_option maxRecDepth 100000 in
theorem pw_1063 : (.code yX8_along cX8_along 7 (some .int) : Cond) ∈ lw_tbl := List.mem_of_getElem? (i := 1063) rfl
set_option maxRecDepth 100000 in
theorem pw_1064 : Cond.methodLink RX8 216 yX8_areSmall ∈ lw_tbl := List.mem_of_getElem? (i := 1064) rfl
set_option maxRecDepth 100000 in
theorem pw_1065 : Cond.static yX8_areSmall ∈ lw_tbl := List.mem_of_getElem? (i := 1065) rfl
set_option maxRecDepth 100000 in
theorem pw_1066 : Cond.code yX8_areSmall cX8_areSmall 5 (some .boolean) ∈ lw_tbl := List.mem_of_getElem? (i := 1066) rfl
set_option maxRecDepth 100000 in
theorem pw_1067 : Cond.methodLink RX8 220 yX8_changes ∈ lw_tbl := List.mem_of_getElem? (i := 1067) rfl
set_option maxRecDepth 100000 in
theorem pw_1069 : Cond.instanceMethod yX8_changes ∈ lw_tbl := List.mem_of_getElem? (i := 1069) rfl
set_option maxRecDepth 100000 in
theorem pw_1070 : Cond.code yX8_changes cX8_changes 9 none ∈ lw_tbl := List.mem_of_getElem? (i := 1070) rfl
set_option maxRecDepth 100000 in
theorem pw_1071 : Cond.methodLink RX8 207 yX8_xIn ∈ lw_tbl := List.mem_of_getElem? (i := 1071) rfl
set_option maxRecDepth 100000 in
theorem pw_1072 : Cond.static yX8_xIn ∈ lw_tbl := List.mem_of_getElem? (i := 1072) rfl
set_option maxRecDepth 100000 in
theorem pw_1073 : Cond.code yX8_xIn cX8_xIn 1 (some .int) ∈ lw_tbl := List.mem_of_getElem? (i := 1073) rfl
set_option maxRecDepth 100000 in
theorem pw_1074 : Cond.methodLink RX8 210 yX8_yIn ∈ lw_tbl := List.mem_of_getElem? (i := 1074) rfl
set_option maxRecDepth 100000 in
theorem pw_1075 : Cond.static yX8_yIn ∈ lw_tbl := List.mem_of_getElem? (i := 1075) rfl
set_option maxRecDepth 100000 in
theorem pw_1076 : Cond.code yX8_yIn cX8_yIn 1 (some .int) ∈ lw_tbl := List.mem_of_getElem? (i := 1076) rfl
set_option maxRecDepth 100000 in
theorem pw_1077 : Cond.methodLink RX8 213 yX8_place ∈ lw_tbl := List.mem_of_getElem? (i := 1077) rfl
set_option maxRecDepth 100000 in
theorem pw_1078 : Cond.static yX8_place ∈ lw_tbl := List.mem_of_getElem? (i := 1078) rfl
set_option maxRecDepth 100000 in
theorem pw_1079 : Cond.code yX8_place cX8_place 3 (some .int) ∈ lw_tbl := List.mem_of_getElem? (i := 1079) rfl
set_option maxRecDepth 100000 in
theorem pw_1080 : Cond.methodLink RL 123 yX8_falls ∈ lw_tbl := List.mem_of_getElem? (i := 1080) rfl
set_option maxRecDepth 100000 in
theorem pw_1081 : Cond.instanceMethod yX8_falls ∈ lw_tbl := List.mem_of_getElem? (i := 1081) rfl
set_option maxRecDepth 100000 in
theorem pw_1082 : Cond.selects RX8 yX8_falls yX8_falls ∈ lw_tbl := List.mem_of_getElem? (i := 1082) rfl
set_option maxRecDepth 100000 in
theorem pw_1083 : (.code yX8_falls cX8_falls 8 (some .int) : Cond) ∈ lw_tbl := List.mem_of_getElem? (i := 1083) rfl
set_option maxRecDepth 100000 in
theorem pw_1084 : Cond.methodLink RL 127 yX8_kept ∈ lw_tbl := List.mem_of_getElem? (i := 1084) rfl
set_option maxRecDepth 100000 in
theorem pw_1085 : Cond.instanceMethod yX8_kept ∈ lw_tbl := List.mem_of_getElem? (i := 1085) rfl
