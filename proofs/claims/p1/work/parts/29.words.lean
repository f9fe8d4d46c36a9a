theorem wm_21 : Cond.classLink RL 7 RX11 ∈ gw := gw_t (i := 21) (by decide +kernel) (by decide +kernel)
theorem wm_22 : Cond.instantiable RX11 11 ∈ gw := gw_t (i := 22) (by decide +kernel) (by decide +kernel)
theorem wm_23 : Cond.methodLink RL 9 yX11_init ∈ gw := gw_t (i := 23) (by decide +kernel) (by decide +kernel)
set_option maxHeartbeats 4000000 in
set_option maxRecDepth 100000 in
theorem wm_25 : Cond.code yX11_init cX11_init 1 none ∈ gw := gw_t (i := 25) rfl (by decide +kernel)
theorem wm_24 : Cond.instanceMethod yX11_init ∈ gw := gw_t (i := 24) (by decide +kernel) (by decide +kernel)
theorem wm_1257 : Cond.classLink RL 10 RX12 ∈ gw := gw_t (i := 1257) (by decide +kernel) (by decide +kernel)
theorem wm_1258 : Cond.instantiable RX12 118 ∈ gw := gw_t (i := 1258) (by decide +kernel) (by decide +kernel)
theorem wm_1259 : Cond.methodLink RL 12 yX12_init ∈ gw := gw_t (i := 1259) (by decide +kernel) (by decide +kernel)
set_option maxHeartbeats 4000000 in
set_option maxRecDepth 100000 in
theorem wm_1261 : Cond.code yX12_init cX12_init 2 none ∈ gw := gw_t (i := 1261) rfl (by decide +kernel)
theorem wm_1260 : Cond.instanceMethod yX12_init ∈ gw := gw_t (i := 1260) (by decide +kernel) (by decide +kernel)
theorem wm_616 : Cond.methodLink RL 13 yX11_feed ∈ gw := gw_t (i := 616) (by decide +kernel) (by decide +kernel)
set_option maxHeartbeats 4000000 in
set_option maxRecDepth 100000 in
theorem wm_619 : Cond.code yX11_feed cX11_feed 6 (some .int) ∈ gw := gw_t (i := 619) rfl (by decide +kernel)
theorem wm_617 : Cond.instanceMethod yX11_feed ∈ gw := gw_t (i := 617) (by decide +kernel) (by decide +kernel)
theorem wm_618 : Cond.selects RX11 yX11_feed yX11_feed ∈ gw := gw_t (i := 618) (by decide +kernel) (by decide +kernel)
theorem wm_1723 : Cond.methodLink RL 17 yX12_feed ∈ gw := gw_t (i := 1723) (by decide +kernel) (by decide +kernel)
set_option maxHeartbeats 4000000 in
set_option maxRecDepth 100000 in
theorem wm_1726 : Cond.code yX12_feed cX12_feed 6 (some .int) ∈ gw := gw_t (i := 1726) rfl (by decide +kernel)
theorem wm_1724 : Cond.instanceMethod yX12_feed ∈ gw := gw_t (i := 1724) (by decide +kernel) (by decide +kernel)
theorem wm_1725 : Cond.selects RX12 yX12_feed yX12_feed ∈ gw := gw_t (i := 1725) (by decide +kernel) (by decide +kernel)
theorem wm_625 : Cond.methodLink RL 18 yX11_program ∈ gw := gw_t (i := 625) (by decide +kernel) (by decide +kernel)
set_option maxHeartbeats 4000000 in
set_option maxRecDepth 100000 in
theorem wm_628 : Cond.code yX11_program cX11_program 5 (some .int) ∈ gw := gw_t (i := 628) rfl (by decide +kernel)
theorem wm_626 : Cond.instanceMethod yX11_program ∈ gw := gw_t (i := 626) (by decide +kernel) (by decide +kernel)
theorem wm_627 : Cond.selects RX11 yX11_program yX11_program ∈ gw := gw_t (i := 627) (by decide +kernel) (by decide +kernel)
theorem wm_1731 : Cond.methodLink RL 22 yX12_program ∈ gw := gw_t (i := 1731) (by decide +kernel) (by decide +kernel)
set_option maxHeartbeats 4000000 in
set_option maxRecDepth 100000 in
theorem wm_1734 : Cond.code yX12_program cX12_program 5 (some .int) ∈ gw := gw_t (i := 1734) rfl (by decide +kernel)
theorem wm_1732 : Cond.instanceMethod yX12_program ∈ gw := gw_t (i := 1732) (by decide +kernel) (by decide +kernel)
theorem wm_1733 : Cond.selects RX12 yX12_program yX12_program ∈ gw := gw_t (i := 1733) (by decide +kernel) (by decide +kernel)
theorem wm_762 : Cond.methodLink RL 23 yX11_type ∈ gw := gw_t (i := 762) (by decide +kernel) (by decide +kernel)
set_option maxHeartbeats 4000000 in
set_option maxRecDepth 100000 in
theorem wm_765 : Cond.code yX11_type cX11_type 2 (some .int) ∈ gw := gw_t (i := 765) rfl (by decide +kernel)
theorem wm_763 : Cond.instanceMethod yX11_type ∈ gw := gw_t (i := 763) (by decide +kernel) (by decide +kernel)
theorem wm_764 : Cond.selects RX11 yX11_type yX11_type ∈ gw := gw_t (i := 764) (by decide +kernel) (by decide +kernel)
theorem wm_1932 : Cond.methodLink RL 26 yX12_type ∈ gw := gw_t (i := 1932) (by decide +kernel) (by decide +kernel)
set_option maxHeartbeats 4000000 in
set_option maxRecDepth 100000 in
theorem wm_1935 : Cond.code yX12_type cX12_type 3 (some .int) ∈ gw := gw_t (i := 1935) rfl (by decide +kernel)
theorem wm_1933 : Cond.instanceMethod yX12_type ∈ gw := gw_t (i := 1933) (by decide +kernel) (by decide +kernel)
theorem wm_1934 : Cond.selects RX12 yX12_type yX12_type ∈ gw := gw_t (i := 1934) (by decide +kernel) (by decide +kernel)
theorem wm_780 : Cond.methodLink RL 27 yX11_count ∈ gw := gw_t (i := 780) (by decide +kernel) (by decide +kernel)
set_option maxHeartbeats 4000000 in
set_option maxRecDepth 100000 in
theorem wm_783 : Cond.code yX11_count cX11_count 2 (some .int) ∈ gw := gw_t (i := 783) rfl (by decide +kernel)
theorem wm_781 : Cond.instanceMethod yX11_count ∈ gw := gw_t (i := 781) (by decide +kernel) (by decide +kernel)
theorem wm_782 : Cond.selects RX11 yX11_count yX11_count ∈ gw := gw_t (i := 782) (by decide +kernel) (by decide +kernel)
theorem wm_2020 : Cond.methodLink RL 30 yX12_count ∈ gw := gw_t (i := 2020) (by decide +kernel) (by decide +kernel)
set_option maxHeartbeats 4000000 in
set_option maxRecDepth 100000 in
theorem wm_2023 : Cond.code yX12_count cX12_count 2 (some .int) ∈ gw := gw_t (i := 2023) rfl (by decide +kernel)
theorem wm_2021 : Cond.instanceMethod yX12_count ∈ gw := gw_t (i := 2021) (by decide +kernel) (by decide +kernel)
theorem wm_2022 : Cond.selects RX12 yX12_count yX12_count ∈ gw := gw_t (i := 2022) (by decide +kernel) (by decide +kernel)
theorem wm_797 : Cond.methodLink RL 31 yX11_node ∈ gw := gw_t (i := 797) (by decide +kernel) (by decide +kernel)
set_option maxHeartbeats 4000000 in
set_option maxRecDepth 100000 in
theorem wm_800 : Cond.code yX11_node cX11_node 3 (some .int) ∈ gw := gw_t (i := 800) rfl (by decide +kernel)
theorem wm_798 : Cond.instanceMethod yX11_node ∈ gw := gw_t (i := 798) (by decide +kernel) (by decide +kernel)
theorem wm_799 : Cond.selects RX11 yX11_node yX11_node ∈ gw := gw_t (i := 799) (by decide +kernel) (by decide +kernel)
theorem wm_2032 : Cond.methodLink RL 35 yX12_node ∈ gw := gw_t (i := 2032) (by decide +kernel) (by decide +kernel)
set_option maxHeartbeats 4000000 in
set_option maxRecDepth 100000 in
theorem wm_2035 : Cond.code yX12_node cX12_node 3 (some .int) ∈ gw := gw_t (i := 2035) rfl (by decide +kernel)
theorem wm_2033 : Cond.instanceMethod yX12_node ∈ gw := gw_t (i := 2033) (by decide +kernel) (by decide +kernel)
theorem wm_2034 : Cond.selects RX12 yX12_node yX12_node ∈ gw := gw_t (i := 2034) (by decide +kernel) (by decide +kernel)
theorem wm_817 : Cond.methodLink RL 36 yX11_cast ∈ gw := gw_t (i := 817) (by decide +kernel) (by decide +kernel)
set_option maxHeartbeats 4000000 in
set_option maxRecDepth 100000 in
theorem wm_820 : Cond.code yX11_cast cX11_cast 3 (some .int) ∈ gw := gw_t (i := 820) rfl (by decide +kernel)
theorem wm_818 : Cond.instanceMethod yX11_cast ∈ gw := gw_t (i := 818) (by decide +kernel) (by decide +kernel)
theorem wm_819 : Cond.selects RX11 yX11_cast yX11_cast ∈ gw := gw_t (i := 819) (by decide +kernel) (by decide +kernel)
theorem wm_2036 : Cond.methodLink RL 39 yX12_cast ∈ gw := gw_t (i := 2036) (by decide +kernel) (by decide +kernel)
set_option maxHeartbeats 4000000 in
set_option maxRecDepth 100000 in
theorem wm_2039 : Cond.code yX12_cast cX12_cast 5 (some .int) ∈ gw := gw_t (i := 2039) rfl (by decide +kernel)
theorem wm_2037 : Cond.instanceMethod yX12_cast ∈ gw := gw_t (i := 2037) (by decide +kernel) (by decide +kernel)
theorem wm_2038 : Cond.selects RX12 yX12_cast yX12_cast ∈ gw := gw_t (i := 2038) (by decide +kernel) (by decide +kernel)
theorem wm_845 : Cond.methodLink RL 40 yX11_text ∈ gw := gw_t (i := 845) (by decide +kernel) (by decide +kernel)
set_option maxHeartbeats 4000000 in
set_option maxRecDepth 100000 in
theorem wm_848 : Cond.code yX11_text cX11_text 4 (some .int) ∈ gw := gw_t (i := 848) rfl (by decide +kernel)
theorem wm_846 : Cond.instanceMethod yX11_text ∈ gw := gw_t (i := 846) (by decide +kernel) (by decide +kernel)
theorem wm_847 : Cond.selects RX11 yX11_text yX11_text ∈ gw := gw_t (i := 847) (by decide +kernel) (by decide +kernel)
theorem wm_2040 : Cond.methodLink RL 44 yX12_text ∈ gw := gw_t (i := 2040) (by decide +kernel) (by decide +kernel)
set_option maxHeartbeats 4000000 in
set_option maxRecDepth 100000 in
theorem wm_2043 : Cond.code yX12_text cX12_text 4 (some .int) ∈ gw := gw_t (i := 2043) rfl (by decide +kernel)
theorem wm_2041 : Cond.instanceMethod yX12_text ∈ gw := gw_t (i := 2041) (by decide +kernel) (by decide +kernel)
theorem wm_2042 : Cond.selects RX12 yX12_text yX12_text ∈ gw := gw_t (i := 2042) (by decide +kernel) (by decide +kernel)
theorem wm_999 : Cond.methodLink RL 45 yX11_pair ∈ gw := gw_t (i := 999) (by decide +kernel) (by decide +kernel)
set_option maxHeartbeats 4000000 in
set_option maxRecDepth 100000 in
theorem wm_1002 : Cond.code yX11_pair cX11_pair 4 (some .int) ∈ gw := gw_t (i := 1002) rfl (by decide +kernel)
theorem wm_1000 : Cond.instanceMethod yX11_pair ∈ gw := gw_t (i := 1000) (by decide +kernel) (by decide +kernel)
theorem wm_1001 : Cond.selects RX11 yX11_pair yX11_pair ∈ gw := gw_t (i := 1001) (by decide +kernel) (by decide +kernel)
theorem wm_1936 : Cond.methodLink RL 48 yX12_pair ∈ gw := gw_t (i := 1936) (by decide +kernel) (by decide +kernel)
set_option maxHeartbeats 4000000 in
set_option maxRecDepth 100000 in
theorem wm_1939 : Cond.code yX12_pair cX12_pair 7 (some .int) ∈ gw := gw_t (i := 1939) rfl (by decide +kernel)
theorem wm_1937 : Cond.instanceMethod yX12_pair ∈ gw := gw_t (i := 1937) (by decide +kernel) (by decide +kernel)
theorem wm_1938 : Cond.selects RX12 yX12_pair yX12_pair ∈ gw := gw_t (i := 1938) (by decide +kernel) (by decide +kernel)
theorem wm_1016 : Cond.methodLink RL 49 yX11_meet ∈ gw := gw_t (i := 1016) (by decide +kernel) (by decide +kernel)
set_option maxHeartbeats 4000000 in
set_option maxRecDepth 100000 in
theorem wm_1019 : Cond.code yX11_meet cX11_meet 3 (some .int) ∈ gw := gw_t (i := 1019) rfl (by decide +kernel)
theorem wm_1017 : Cond.instanceMethod yX11_meet ∈ gw := gw_t (i := 1017) (by decide +kernel) (by decide +kernel)
theorem wm_1018 : Cond.selects RX11 yX11_meet yX11_meet ∈ gw := gw_t (i := 1018) (by decide +kernel) (by decide +kernel)
theorem wm_1960 : Cond.methodLink RL 52 yX12_meet ∈ gw := gw_t (i := 1960) (by decide +kernel) (by decide +kernel)
set_option maxHeartbeats 4000000 in
set_option maxRecDepth 100000 in
theorem wm_1963 : Cond.code yX12_meet cX12_meet 5 (some .int) ∈ gw := gw_t (i := 1963) rfl (by decide +kernel)
theorem wm_1961 : Cond.instanceMethod yX12_meet ∈ gw := gw_t (i := 1961) (by decide +kernel) (by decide +kernel)
theorem wm_1962 : Cond.selects RX12 yX12_meet yX12_meet ∈ gw := gw_t (i := 1962) (by decide +kernel) (by decide +kernel)
theorem wm_1033 : Cond.methodLink RL 53 yX11_join ∈ gw := gw_t (i := 1033) (by decide +kernel) (by decide +kernel)
set_option maxHeartbeats 4000000 in
set_option maxRecDepth 100000 in
theorem wm_1036 : Cond.code yX11_join cX11_join 3 (some .int) ∈ gw := gw_t (i := 1036) rfl (by decide +kernel)
theorem wm_1034 : Cond.instanceMethod yX11_join ∈ gw := gw_t (i := 1034) (by decide +kernel) (by decide +kernel)
theorem wm_1035 : Cond.selects RX11 yX11_join yX11_join ∈ gw := gw_t (i := 1035) (by decide +kernel) (by decide +kernel)
theorem wm_1976 : Cond.methodLink RL 56 yX12_join ∈ gw := gw_t (i := 1976) (by decide +kernel) (by decide +kernel)
set_option maxHeartbeats 4000000 in
set_option maxRecDepth 100000 in
theorem wm_1979 : Cond.code yX12_join cX12_join 4 (some .int) ∈ gw := gw_t (i := 1979) rfl (by decide +kernel)
theorem wm_1977 : Cond.instanceMethod yX12_join ∈ gw := gw_t (i := 1977) (by decide +kernel) (by decide +kernel)
theorem wm_1978 : Cond.selects RX12 yX12_join yX12_join ∈ gw := gw_t (i := 1978) (by decide +kernel) (by decide +kernel)
theorem wm_1042 : Cond.methodLink RL 57 yX11_coerce ∈ gw := gw_t (i := 1042) (by decide +kernel) (by decide +kernel)
set_option maxHeartbeats 4000000 in
set_option maxRecDepth 100000 in
theorem wm_1045 : Cond.code yX11_coerce cX11_coerce 4 (some .int) ∈ gw := gw_t (i := 1045) rfl (by decide +kernel)
theorem wm_1043 : Cond.instanceMethod yX11_coerce ∈ gw := gw_t (i := 1043) (by decide +kernel) (by decide +kernel)
theorem wm_1044 : Cond.selects RX11 yX11_coerce yX11_coerce ∈ gw := gw_t (i := 1044) (by decide +kernel) (by decide +kernel)
theorem wm_1980 : Cond.methodLink RL 60 yX12_coerce ∈ gw := gw_t (i := 1980) (by decide +kernel) (by decide +kernel)
set_option maxHeartbeats 4000000 in
set_option maxRecDepth 100000 in
theorem wm_1983 : Cond.code yX12_coerce cX12_coerce 6 (some .int) ∈ gw := gw_t (i := 1983) rfl (by decide +kernel)
theorem wm_1981 : Cond.instanceMethod yX12_coerce ∈ gw := gw_t (i := 1981) (by decide +kernel) (by decide +kernel)
theorem wm_1982 : Cond.selects RX12 yX12_coerce yX12_coerce ∈ gw := gw_t (i := 1982) (by decide +kernel) (by decide +kernel)
theorem wm_1055 : Cond.methodLink RL 61 yX11_then ∈ gw := gw_t (i := 1055) (by decide +kernel) (by decide +kernel)
set_option maxHeartbeats 4000000 in
set_option maxRecDepth 100000 in
theorem wm_1058 : Cond.code yX11_then cX11_then 3 (some .int) ∈ gw := gw_t (i := 1058) rfl (by decide +kernel)
theorem wm_1056 : Cond.instanceMethod yX11_then ∈ gw := gw_t (i := 1056) (by decide +kernel) (by decide +kernel)
theorem wm_1057 : Cond.selects RX11 yX11_then yX11_then ∈ gw := gw_t (i := 1057) (by decide +kernel) (by decide +kernel)
theorem wm_1992 : Cond.methodLink RL 64 yX12_then ∈ gw := gw_t (i := 1992) (by decide +kernel) (by decide +kernel)
set_option maxHeartbeats 4000000 in
set_option maxRecDepth 100000 in
theorem wm_1995 : Cond.code yX12_then cX12_then 6 (some .int) ∈ gw := gw_t (i := 1995) rfl (by decide +kernel)
theorem wm_1993 : Cond.instanceMethod yX12_then ∈ gw := gw_t (i := 1993) (by decide +kernel) (by decide +kernel)
theorem wm_1994 : Cond.selects RX12 yX12_then yX12_then ∈ gw := gw_t (i := 1994) (by decide +kernel) (by decide +kernel)
theorem wm_1076 : Cond.methodLink RL 65 yX11_coercion ∈ gw := gw_t (i := 1076) (by decide +kernel) (by decide +kernel)
set_option maxHeartbeats 4000000 in
set_option maxRecDepth 100000 in
theorem wm_1079 : Cond.code yX11_coercion cX11_coercion 3 (some .int) ∈ gw := gw_t (i := 1079) rfl (by decide +kernel)
theorem wm_1077 : Cond.instanceMethod yX11_coercion ∈ gw := gw_t (i := 1077) (by decide +kernel) (by decide +kernel)
theorem wm_1078 : Cond.selects RX11 yX11_coercion yX11_coercion ∈ gw := gw_t (i := 1078) (by decide +kernel) (by decide +kernel)
theorem wm_2008 : Cond.methodLink RL 68 yX12_coercion ∈ gw := gw_t (i := 2008) (by decide +kernel) (by decide +kernel)
set_option maxHeartbeats 4000000 in
set_option maxRecDepth 100000 in
theorem wm_2011 : Cond.code yX12_coercion cX12_coercion 5 (some .int) ∈ gw := gw_t (i := 2011) rfl (by decide +kernel)
theorem wm_2009 : Cond.instanceMethod yX12_coercion ∈ gw := gw_t (i := 2009) (by decide +kernel) (by decide +kernel)
theorem wm_2010 : Cond.selects RX12 yX12_coercion yX12_coercion ∈ gw := gw_t (i := 2010) (by decide +kernel) (by decide +kernel)
theorem wm_1098 : Cond.methodLink RL 69 yX11_clear ∈ gw := gw_t (i := 1098) (by decide +kernel) (by decide +kernel)
set_option maxHeartbeats 4000000 in
set_option maxRecDepth 100000 in
theorem wm_1101 : Cond.code yX11_clear cX11_clear 2 (some .int) ∈ gw := gw_t (i := 1101) rfl (by decide +kernel)
theorem wm_1099 : Cond.instanceMethod yX11_clear ∈ gw := gw_t (i := 1099) (by decide +kernel) (by decide +kernel)
theorem wm_1100 : Cond.selects RX11 yX11_clear yX11_clear ∈ gw := gw_t (i := 1100) (by decide +kernel) (by decide +kernel)
theorem wm_2016 : Cond.methodLink RL 72 yX12_clear ∈ gw := gw_t (i := 2016) (by decide +kernel) (by decide +kernel)
set_option maxHeartbeats 4000000 in
set_option maxRecDepth 100000 in
theorem wm_2019 : Cond.code yX12_clear cX12_clear 3 (some .int) ∈ gw := gw_t (i := 2019) rfl (by decide +kernel)
theorem wm_2017 : Cond.instanceMethod yX12_clear ∈ gw := gw_t (i := 2017) (by decide +kernel) (by decide +kernel)
theorem wm_2018 : Cond.selects RX12 yX12_clear yX12_clear ∈ gw := gw_t (i := 2018) (by decide +kernel) (by decide +kernel)
theorem wm_1110 : Cond.methodLink RL 73 yX11_run ∈ gw := gw_t (i := 1110) (by decide +kernel) (by decide +kernel)
set_option maxHeartbeats 4000000 in
set_option maxRecDepth 100000 in
theorem wm_1113 : Cond.code yX11_run cX11_run 3 (some .int) ∈ gw := gw_t (i := 1113) rfl (by decide +kernel)
theorem wm_1111 : Cond.instanceMethod yX11_run ∈ gw := gw_t (i := 1111) (by decide +kernel) (by decide +kernel)
theorem wm_1112 : Cond.selects RX11 yX11_run yX11_run ∈ gw := gw_t (i := 1112) (by decide +kernel) (by decide +kernel)
theorem wm_1830 : Cond.methodLink RL 76 yX12_run ∈ gw := gw_t (i := 1830) (by decide +kernel) (by decide +kernel)
set_option maxHeartbeats 4000000 in
set_option maxRecDepth 100000 in
theorem wm_1833 : Cond.code yX12_run cX12_run 3 (some .int) ∈ gw := gw_t (i := 1833) rfl (by decide +kernel)
theorem wm_1831 : Cond.instanceMethod yX12_run ∈ gw := gw_t (i := 1831) (by decide +kernel) (by decide +kernel)
theorem wm_1832 : Cond.selects RX12 yX12_run yX12_run ∈ gw := gw_t (i := 1832) (by decide +kernel) (by decide +kernel)
theorem wm_1214 : Cond.methodLink RL 77 yX11_trace ∈ gw := gw_t (i := 1214) (by decide +kernel) (by decide +kernel)
set_option maxHeartbeats 4000000 in
set_option maxRecDepth 100000 in
theorem wm_1217 : Cond.code yX11_trace cX11_trace 4 (some .int) ∈ gw := gw_t (i := 1217) rfl (by decide +kernel)
theorem wm_1215 : Cond.instanceMethod yX11_trace ∈ gw := gw_t (i := 1215) (by decide +kernel) (by decide +kernel)
theorem wm_1216 : Cond.selects RX11 yX11_trace yX11_trace ∈ gw := gw_t (i := 1216) (by decide +kernel) (by decide +kernel)
theorem wm_1908 : Cond.methodLink RL 80 yX12_trace ∈ gw := gw_t (i := 1908) (by decide +kernel) (by decide +kernel)
set_option maxHeartbeats 4000000 in
set_option maxRecDepth 100000 in
theorem wm_1911 : Cond.code yX12_trace cX12_trace 5 (some .int) ∈ gw := gw_t (i := 1911) rfl (by decide +kernel)
theorem wm_1909 : Cond.instanceMethod yX12_trace ∈ gw := gw_t (i := 1909) (by decide +kernel) (by decide +kernel)
theorem wm_1910 : Cond.selects RX12 yX12_trace yX12_trace ∈ gw := gw_t (i := 1910) (by decide +kernel) (by decide +kernel)
theorem wm_1222 : Cond.methodLink RL 81 yX11_tries ∈ gw := gw_t (i := 1222) (by decide +kernel) (by decide +kernel)
set_option maxHeartbeats 4000000 in
set_option maxRecDepth 100000 in
theorem wm_1225 : Cond.code yX11_tries cX11_tries 8 (some .int) ∈ gw := gw_t (i := 1225) rfl (by decide +kernel)
theorem wm_1223 : Cond.instanceMethod yX11_tries ∈ gw := gw_t (i := 1223) (by decide +kernel) (by decide +kernel)
theorem wm_1224 : Cond.selects RX11 yX11_tries yX11_tries ∈ gw := gw_t (i := 1224) (by decide +kernel) (by decide +kernel)
theorem wm_1912 : Cond.methodLink RL 84 yX12_tries ∈ gw := gw_t (i := 1912) (by decide +kernel) (by decide +kernel)
set_option maxHeartbeats 4000000 in
set_option maxRecDepth 100000 in
theorem wm_1915 : Cond.code yX12_tries cX12_tries 9 (some .int) ∈ gw := gw_t (i := 1915) rfl (by decide +kernel)
theorem wm_1913 : Cond.instanceMethod yX12_tries ∈ gw := gw_t (i := 1913) (by decide +kernel) (by decide +kernel)
theorem wm_1914 : Cond.selects RX12 yX12_tries yX12_tries ∈ gw := gw_t (i := 1914) (by decide +kernel) (by decide +kernel)
theorem wm_1238 : Cond.methodLink RL 85 yX11_loose ∈ gw := gw_t (i := 1238) (by decide +kernel) (by decide +kernel)
set_option maxHeartbeats 4000000 in
set_option maxRecDepth 100000 in
theorem wm_1241 : Cond.code yX11_loose cX11_loose 5 (some .int) ∈ gw := gw_t (i := 1241) rfl (by decide +kernel)
theorem wm_1239 : Cond.instanceMethod yX11_loose ∈ gw := gw_t (i := 1239) (by decide +kernel) (by decide +kernel)
theorem wm_1240 : Cond.selects RX11 yX11_loose yX11_loose ∈ gw := gw_t (i := 1240) (by decide +kernel) (by decide +kernel)
theorem wm_1920 : Cond.methodLink RL 89 yX12_loose ∈ gw := gw_t (i := 1920) (by decide +kernel) (by decide +kernel)
set_option maxHeartbeats 4000000 in
set_option maxRecDepth 100000 in
theorem wm_1923 : Cond.code yX12_loose cX12_loose 3 (some .int) ∈ gw := gw_t (i := 1923) rfl (by decide +kernel)
theorem wm_1921 : Cond.instanceMethod yX12_loose ∈ gw := gw_t (i := 1921) (by decide +kernel) (by decide +kernel)
theorem wm_1922 : Cond.selects RX12 yX12_loose yX12_loose ∈ gw := gw_t (i := 1922) (by decide +kernel) (by decide +kernel)
theorem wm_1242 : Cond.methodLink RL 90 yX11_sets ∈ gw := gw_t (i := 1242) (by decide +kernel) (by decide +kernel)
set_option maxHeartbeats 4000000 in
set_option maxRecDepth 100000 in
theorem wm_1245 : Cond.code yX11_sets cX11_sets 5 (some .int) ∈ gw := gw_t (i := 1245) rfl (by decide +kernel)
theorem wm_1243 : Cond.instanceMethod yX11_sets ∈ gw := gw_t (i := 1243) (by decide +kernel) (by decide +kernel)
theorem wm_1244 : Cond.selects RX11 yX11_sets yX11_sets ∈ gw := gw_t (i := 1244) (by decide +kernel) (by decide +kernel)
theorem wm_1924 : Cond.methodLink RL 93 yX12_sets ∈ gw := gw_t (i := 1924) (by decide +kernel) (by decide +kernel)
set_option maxHeartbeats 4000000 in
set_option maxRecDepth 100000 in
theorem wm_1927 : Cond.code yX12_sets cX12_sets 10 (some .int) ∈ gw := gw_t (i := 1927) rfl (by decide +kernel)
theorem wm_1925 : Cond.instanceMethod yX12_sets ∈ gw := gw_t (i := 1925) (by decide +kernel) (by decide +kernel)
theorem wm_1926 : Cond.selects RX12 yX12_sets yX12_sets ∈ gw := gw_t (i := 1926) (by decide +kernel) (by decide +kernel)
theorem yk_X11_init : YC yX11_init cX11_init 1 0 := ⟨wm_25, wm_1, wm_24, by decide +kernel, by decide +kernel⟩
theorem yk_X12_init : YC yX12_init cX12_init 2 0 := ⟨wm_1261, wm_16, wm_1260, by decide +kernel, by decide +kernel⟩
theorem yk_X11_feed : YI yX11_feed cX11_feed 6 (some .int) 5 := ⟨wm_619, wm_1, wm_617, wm_618, by decide +kernel⟩
theorem yk_X12_feed : YI yX12_feed cX12_feed 6 (some .int) 5 := ⟨wm_1726, wm_16, wm_1724, wm_1725, by decide +kernel⟩
theorem yk_X11_program : YI yX11_program cX11_program 5 (some .int) 1 := ⟨wm_628, wm_1, wm_626, wm_627, by decide +kernel⟩
theorem yk_X12_program : YI yX12_program cX12_program 5 (some .int) 1 := ⟨wm_1734, wm_16, wm_1732, wm_1733, by decide +kernel⟩
theorem yk_X11_type : YI yX11_type cX11_type 2 (some .int) 1 := ⟨wm_765, wm_1, wm_763, wm_764, by decide +kernel⟩
theorem yk_X12_type : YI yX12_type cX12_type 3 (some .int) 1 := ⟨wm_1935, wm_16, wm_1933, wm_1934, by decide +kernel⟩
theorem yk_X11_count : YI yX11_count cX11_count 2 (some .int) 1 := ⟨wm_783, wm_1, wm_781, wm_782, by decide +kernel⟩
theorem yk_X12_count : YI yX12_count cX12_count 2 (some .int) 1 := ⟨wm_2023, wm_16, wm_2021, wm_2022, by decide +kernel⟩
theorem yk_X11_node : YI yX11_node cX11_node 3 (some .int) 2 := ⟨wm_800, wm_1, wm_798, wm_799, by decide +kernel⟩
theorem yk_X12_node : YI yX12_node cX12_node 3 (some .int) 2 := ⟨wm_2035, wm_16, wm_2033, wm_2034, by decide +kernel⟩
theorem yk_X11_cast : YI yX11_cast cX11_cast 3 (some .int) 2 := ⟨wm_820, wm_1, wm_818, wm_819, by decide +kernel⟩
theorem yk_X12_cast : YI yX12_cast cX12_cast 5 (some .int) 2 := ⟨wm_2039, wm_16, wm_2037, wm_2038, by decide +kernel⟩
theorem yk_X11_text : YI yX11_text cX11_text 4 (some .int) 3 := ⟨wm_848, wm_1, wm_846, wm_847, by decide +kernel⟩
theorem yk_X12_text : YI yX12_text cX12_text 4 (some .int) 3 := ⟨wm_2043, wm_16, wm_2041, wm_2042, by decide +kernel⟩
theorem yk_X11_pair : YI yX11_pair cX11_pair 4 (some .int) 3 := ⟨wm_1002, wm_1, wm_1000, wm_1001, by decide +kernel⟩
theorem yk_X12_pair : YI yX12_pair cX12_pair 7 (some .int) 3 := ⟨wm_1939, wm_16, wm_1937, wm_1938, by decide +kernel⟩
theorem yk_X11_meet : YI yX11_meet cX11_meet 3 (some .int) 2 := ⟨wm_1019, wm_1, wm_1017, wm_1018, by decide +kernel⟩
theorem yk_X12_meet : YI yX12_meet cX12_meet 5 (some .int) 2 := ⟨wm_1963, wm_16, wm_1961, wm_1962, by decide +kernel⟩
theorem yk_X11_join : YI yX11_join cX11_join 3 (some .int) 2 := ⟨wm_1036, wm_1, wm_1034, wm_1035, by decide +kernel⟩
theorem yk_X12_join : YI yX12_join cX12_join 4 (some .int) 2 := ⟨wm_1979, wm_16, wm_1977, wm_1978, by decide +kernel⟩
theorem yk_X11_coerce : YI yX11_coerce cX11_coerce 4 (some .int) 3 := ⟨wm_1045, wm_1, wm_1043, wm_1044, by decide +kernel⟩
theorem yk_X12_coerce : YI yX12_coerce cX12_coerce 6 (some .int) 3 := ⟨wm_1983, wm_16, wm_1981, wm_1982, by decide +kernel⟩
theorem yk_X11_then : YI yX11_then cX11_then 3 (some .int) 2 := ⟨wm_1058, wm_1, wm_1056, wm_1057, by decide +kernel⟩
theorem yk_X12_then : YI yX12_then cX12_then 6 (some .int) 2 := ⟨wm_1995, wm_16, wm_1993, wm_1994, by decide +kernel⟩
theorem yk_X11_coercion : YI yX11_coercion cX11_coercion 3 (some .int) 2 := ⟨wm_1079, wm_1, wm_1077, wm_1078, by decide +kernel⟩
theorem yk_X12_coercion : YI yX12_coercion cX12_coercion 5 (some .int) 2 := ⟨wm_2011, wm_16, wm_2009, wm_2010, by decide +kernel⟩
theorem yk_X11_clear : YI yX11_clear cX11_clear 2 (some .int) 1 := ⟨wm_1101, wm_1, wm_1099, wm_1100, by decide +kernel⟩
theorem yk_X12_clear : YI yX12_clear cX12_clear 3 (some .int) 1 := ⟨wm_2019, wm_16, wm_2017, wm_2018, by decide +kernel⟩
theorem yk_X11_run : YI yX11_run cX11_run 3 (some .int) 2 := ⟨wm_1113, wm_1, wm_1111, wm_1112, by decide +kernel⟩
theorem yk_X12_run : YI yX12_run cX12_run 3 (some .int) 2 := ⟨wm_1833, wm_16, wm_1831, wm_1832, by decide +kernel⟩
theorem yk_X11_trace : YI yX11_trace cX11_trace 4 (some .int) 3 := ⟨wm_1217, wm_1, wm_1215, wm_1216, by decide +kernel⟩
theorem yk_X12_trace : YI yX12_trace cX12_trace 5 (some .int) 3 := ⟨wm_1911, wm_16, wm_1909, wm_1910, by decide +kernel⟩
theorem yk_X11_tries : YI yX11_tries cX11_tries 8 (some .int) 2 := ⟨wm_1225, wm_1, wm_1223, wm_1224, by decide +kernel⟩
theorem yk_X12_tries : YI yX12_tries cX12_tries 9 (some .int) 2 := ⟨wm_1915, wm_16, wm_1913, wm_1914, by decide +kernel⟩
theorem yk_X11_loose : YI yX11_loose cX11_loose 5 (some .int) 2 := ⟨wm_1241, wm_1, wm_1239, wm_1240, by decide +kernel⟩
theorem yk_X12_loose : YI yX12_loose cX12_loose 3 (some .int) 2 := ⟨wm_1923, wm_16, wm_1921, wm_1922, by decide +kernel⟩
theorem yk_X11_sets : YI yX11_sets cX11_sets 5 (some .int) 1 := ⟨wm_1245, wm_1, wm_1243, wm_1244, by decide +kernel⟩
theorem yk_X12_sets : YI yX12_sets cX12_sets 10 (some .int) 1 := ⟨wm_1927, wm_16, wm_1925, wm_1926, by decide +kernel⟩
