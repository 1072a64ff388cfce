/-! the code words stand where the tables say -/
set_option maxRecDepth 100000 in
theorem am_yc0 : am_ycw 0 ∈ am_uw := am_uw_at (k := 481) rfl rfl
set_option maxRecDepth 100000 in
theorem am_yc1 : am_ycw 1 ∈ am_uw := am_uw_at (k := 916) rfl rfl
set_option maxRecDepth 100000 in
theorem am_yc2 : am_ycw 2 ∈ am_uw := am_uw_at (k := 949) rfl rfl
set_option maxRecDepth 100000 in
theorem am_yc3 : am_ycw 3 ∈ am_uw := am_uw_at (k := 942) rfl rfl
set_option maxRecDepth 100000 in
theorem am_yc4 : am_ycw 4 ∈ am_uw := am_uw_at (k := 974) rfl rfl
set_option maxRecDepth 100000 in
theorem am_yc5 : am_ycw 5 ∈ am_uw := am_uw_at (k := 953) rfl rfl
set_option maxRecDepth 100000 in
theorem am_yc6 : am_ycw 6 ∈ am_uw := am_uw_at (k := 923) rfl rfl
set_option maxRecDepth 100000 in
theorem am_yc7 : am_ycw 7 ∈ am_uw := am_uw_at (k := 958) rfl rfl
set_option maxRecDepth 100000 in
theorem am_yc8 : am_ycw 8 ∈ am_uw := am_uw_at (k := 966) rfl rfl
set_option maxRecDepth 100000 in
theorem am_yc9 : am_ycw 9 ∈ am_uw := am_uw_at (k := 1248) rfl rfl
set_option maxRecDepth 100000 in
theorem am_yc10 : am_ycw 10 ∈ am_uw := am_uw_at (k := 1035) rfl rfl
set_option maxRecDepth 100000 in
theorem am_yc11 : am_ycw 11 ∈ am_uw := am_uw_at (k := 347) rfl rfl
set_option maxRecDepth 100000 in
theorem am_yc12 : am_ycw 12 ∈ am_uw := am_uw_at (k := 796) rfl rfl
set_option maxRecDepth 100000 in
theorem am_yc13 : am_ycw 13 ∈ am_uw := am_uw_at (k := 834) rfl rfl
set_option maxRecDepth 100000 in
theorem am_yc14 : am_ycw 14 ∈ am_uw := am_uw_at (k := 1257) rfl rfl
set_option maxRecDepth 100000 in
theorem am_yc15 : am_ycw 15 ∈ am_uw := am_uw_at (k := 602) rfl rfl
set_option maxRecDepth 100000 in
theorem am_yc16 : am_ycw 16 ∈ am_uw := am_uw_at (k := 1282) rfl rfl
set_option maxRecDepth 100000 in
theorem am_yc17 : am_ycw 17 ∈ am_uw := am_uw_at (k := 1289) rfl rfl
set_option maxRecDepth 100000 in
theorem am_yc18 : am_ycw 18 ∈ am_uw := am_uw_at (k := 183) rfl rfl
set_option maxRecDepth 100000 in
theorem am_yc19 : am_ycw 19 ∈ am_uw := am_uw_at (k := 188) rfl rfl
set_option maxRecDepth 100000 in
theorem am_yc20 : am_ycw 20 ∈ am_uw := am_uw_at (k := 781) rfl rfl
set_option maxRecDepth 100000 in
theorem am_yc21 : am_ycw 21 ∈ am_uw := am_uw_at (k := 1052) rfl rfl
set_option maxRecDepth 100000 in
theorem am_yc22 : am_ycw 22 ∈ am_uw := am_uw_at (k := 970) rfl rfl
set_option maxRecDepth 100000 in
theorem am_yc23 : am_ycw 23 ∈ am_uw := am_uw_at (k := 1048) rfl rfl
set_option maxRecDepth 100000 in
theorem am_yc24 : am_ycw 24 ∈ am_uw := am_uw_at (k := 753) rfl rfl
set_option maxRecDepth 100000 in
theorem am_yc25 : am_ycw 25 ∈ am_uw := am_uw_at (k := 757) rfl rfl
set_option maxRecDepth 100000 in
theorem am_yc26 : am_ycw 26 ∈ am_uw := am_uw_at (k := 896) rfl rfl
set_option maxRecDepth 100000 in
theorem am_yc27 : am_ycw 27 ∈ am_uw := am_uw_at (k := 907) rfl rfl
set_option maxRecDepth 100000 in
theorem am_yc28 : am_ycw 28 ∈ am_uw := am_uw_at (k := 903) rfl rfl
set_option maxRecDepth 100000 in
theorem am_yc29 : am_ycw 29 ∈ am_uw := am_uw_at (k := 719) rfl rfl
set_option maxRecDepth 100000 in
theorem am_yc30 : am_ycw 30 ∈ am_uw := am_uw_at (k := 723) rfl rfl
set_option maxRecDepth 100000 in
theorem am_yc31 : am_ycw 31 ∈ am_uw := am_uw_at (k := 727) rfl rfl
set_option maxRecDepth 100000 in
theorem am_yc32 : am_ycw 32 ∈ am_uw := am_uw_at (k := 741) rfl rfl
set_option maxRecDepth 100000 in
theorem am_yc33 : am_ycw 33 ∈ am_uw := am_uw_at (k := 745) rfl rfl
set_option maxRecDepth 100000 in
theorem am_yc34 : am_ycw 34 ∈ am_uw := am_uw_at (k := 761) rfl rfl
set_option maxRecDepth 100000 in
theorem am_yc35 : am_ycw 35 ∈ am_uw := am_uw_at (k := 765) rfl rfl
set_option maxRecDepth 100000 in
theorem am_yc36 : am_ycw 36 ∈ am_uw := am_uw_at (k := 749) rfl rfl
set_option maxRecDepth 100000 in
theorem am_yc37 : am_ycw 37 ∈ am_uw := am_uw_at (k := 540) rfl rfl
set_option maxRecDepth 100000 in
theorem am_yc38 : am_ycw 38 ∈ am_uw := am_uw_at (k := 1156) rfl rfl
set_option maxRecDepth 100000 in
theorem am_yc39 : am_ycw 39 ∈ am_uw := am_uw_at (k := 1076) rfl rfl
set_option maxRecDepth 100000 in
theorem am_yc40 : am_ycw 40 ∈ am_uw := am_uw_at (k := 1152) rfl rfl
set_option maxRecDepth 100000 in
theorem am_yc41 : am_ycw 41 ∈ am_uw := am_uw_at (k := 1163) rfl rfl
set_option maxRecDepth 100000 in
theorem am_yc42 : am_ycw 42 ∈ am_uw := am_uw_at (k := 1171) rfl rfl
set_option maxRecDepth 100000 in
theorem am_yc43 : am_ycw 43 ∈ am_uw := am_uw_at (k := 1175) rfl rfl
set_option maxRecDepth 100000 in
theorem am_yc44 : am_ycw 44 ∈ am_uw := am_uw_at (k := 1180) rfl rfl
set_option maxRecDepth 100000 in
theorem am_yc45 : am_ycw 45 ∈ am_uw := am_uw_at (k := 1184) rfl rfl
set_option maxRecDepth 100000 in
theorem am_yc46 : am_ycw 46 ∈ am_uw := am_uw_at (k := 1188) rfl rfl
set_option maxRecDepth 100000 in
theorem am_yc47 : am_ycw 47 ∈ am_uw := am_uw_at (k := 1192) rfl rfl
set_option maxRecDepth 100000 in
theorem am_yc48 : am_ycw 48 ∈ am_uw := am_uw_at (k := 1196) rfl rfl
set_option maxRecDepth 100000 in
theorem am_yc49 : am_ycw 49 ∈ am_uw := am_uw_at (k := 1200) rfl rfl
set_option maxRecDepth 100000 in
theorem am_yc50 : am_ycw 50 ∈ am_uw := am_uw_at (k := 1204) rfl rfl
set_option maxRecDepth 100000 in
theorem am_yc51 : am_ycw 51 ∈ am_uw := am_uw_at (k := 1208) rfl rfl
set_option maxRecDepth 100000 in
theorem am_yc52 : am_ycw 52 ∈ am_uw := am_uw_at (k := 1362) rfl rfl
set_option maxRecDepth 100000 in
theorem am_yc53 : am_ycw 53 ∈ am_uw := am_uw_at (k := 1373) rfl rfl
set_option maxRecDepth 100000 in
theorem am_yc54 : am_ycw 54 ∈ am_uw := am_uw_at (k := 1370) rfl rfl
set_option maxRecDepth 100000 in
theorem am_yc55 : am_ycw 55 ∈ am_uw := am_uw_at (k := 1366) rfl rfl
set_option maxRecDepth 100000 in
theorem am_yc56 : am_ycw 56 ∈ am_uw := am_uw_at (k := 1378) rfl rfl
set_option maxRecDepth 100000 in
theorem am_yc57 : am_ycw 57 ∈ am_uw := am_uw_at (k := 286) rfl rfl
set_option maxRecDepth 100000 in
theorem am_yc58 : am_ycw 58 ∈ am_uw := am_uw_at (k := 788) rfl rfl
set_option maxRecDepth 100000 in
theorem am_yc59 : am_ycw 59 ∈ am_uw := am_uw_at (k := 838) rfl rfl
set_option maxRecDepth 100000 in
theorem am_yc60 : am_ycw 60 ∈ am_uw := am_uw_at (k := 986) rfl rfl
set_option maxRecDepth 100000 in
theorem am_yc61 : am_ycw 61 ∈ am_uw := am_uw_at (k := 931) rfl rfl
set_option maxRecDepth 100000 in
theorem am_yc62 : am_ycw 62 ∈ am_uw := am_uw_at (k := 927) rfl rfl
set_option maxRecDepth 100000 in
theorem am_yc63 : am_ycw 63 ∈ am_uw := am_uw_at (k := 946) rfl rfl
set_option maxRecDepth 100000 in
theorem am_yc64 : am_ycw 64 ∈ am_uw := am_uw_at (k := 962) rfl rfl
set_option maxRecDepth 100000 in
theorem am_yc65 : am_ycw 65 ∈ am_uw := am_uw_at (k := 935) rfl rfl
set_option maxRecDepth 100000 in
theorem am_yc66 : am_ycw 66 ∈ am_uw := am_uw_at (k := 939) rfl rfl
set_option maxRecDepth 100000 in
theorem am_yc67 : am_ycw 67 ∈ am_uw := am_uw_at (k := 825) rfl rfl
set_option maxRecDepth 100000 in
theorem am_yc68 : am_ycw 68 ∈ am_uw := am_uw_at (k := 1212) rfl rfl
set_option maxRecDepth 100000 in
theorem am_yc69 : am_ycw 69 ∈ am_uw := am_uw_at (k := 1240) rfl rfl
set_option maxRecDepth 100000 in
theorem am_yc70 : am_ycw 70 ∈ am_uw := am_uw_at (k := 1231) rfl rfl
set_option maxRecDepth 100000 in
theorem am_yc71 : am_ycw 71 ∈ am_uw := am_uw_at (k := 998) rfl rfl
set_option maxRecDepth 100000 in
theorem am_yc72 : am_ycw 72 ∈ am_uw := am_uw_at (k := 1409) rfl rfl
set_option maxRecDepth 100000 in
theorem am_yc73 : am_ycw 73 ∈ am_uw := am_uw_at (k := 1417) rfl rfl
set_option maxRecDepth 100000 in
theorem am_yc74 : am_ycw 74 ∈ am_uw := am_uw_at (k := 1016) rfl rfl
set_option maxRecDepth 100000 in
theorem am_yc75 : am_ycw 75 ∈ am_uw := am_uw_at (k := 1026) rfl rfl
set_option maxRecDepth 100000 in
theorem am_yc76 : am_ycw 76 ∈ am_uw := am_uw_at (k := 808) rfl rfl
set_option maxRecDepth 100000 in
theorem am_yc77 : am_ycw 77 ∈ am_uw := am_uw_at (k := 813) rfl rfl
set_option maxRecDepth 100000 in
theorem am_yc78 : am_ycw 78 ∈ am_uw := am_uw_at (k := 301) rfl rfl
set_option maxRecDepth 100000 in
theorem am_yc79 : am_ycw 79 ∈ am_uw := am_uw_at (k := 792) rfl rfl
set_option maxRecDepth 100000 in
theorem am_yc80 : am_ycw 80 ∈ am_uw := am_uw_at (k := 1391) rfl rfl
set_option maxRecDepth 100000 in
theorem am_yc81 : am_ycw 81 ∈ am_uw := am_uw_at (k := 883) rfl rfl
set_option maxRecDepth 100000 in
theorem am_yc82 : am_ycw 82 ∈ am_uw := am_uw_at (k := 848) rfl rfl
set_option maxRecDepth 100000 in
theorem am_yc83 : am_ycw 83 ∈ am_uw := am_uw_at (k := 853) rfl rfl
set_option maxRecDepth 100000 in
theorem am_yc84 : am_ycw 84 ∈ am_uw := am_uw_at (k := 857) rfl rfl
set_option maxRecDepth 100000 in
theorem am_yc85 : am_ycw 85 ∈ am_uw := am_uw_at (k := 861) rfl rfl
set_option maxRecDepth 100000 in
theorem am_yc86 : am_ycw 86 ∈ am_uw := am_uw_at (k := 873) rfl rfl
set_option maxRecDepth 100000 in
theorem am_yc87 : am_ycw 87 ∈ am_uw := am_uw_at (k := 878) rfl rfl
set_option maxRecDepth 100000 in
theorem am_yc88 : am_ycw 88 ∈ am_uw := am_uw_at (k := 869) rfl rfl
set_option maxRecDepth 100000 in
theorem am_yc89 : am_ycw 89 ∈ am_uw := am_uw_at (k := 1395) rfl rfl
set_option maxRecDepth 100000 in
theorem am_yc90 : am_ycw 90 ∈ am_uw := am_uw_at (k := 1399) rfl rfl
set_option maxRecDepth 100000 in
theorem am_yc91 : am_ycw 91 ∈ am_uw := am_uw_at (k := 1404) rfl rfl
set_option maxRecDepth 100000 in
theorem am_yc92 : am_ycw 92 ∈ am_uw := am_uw_at (k := 1413) rfl rfl
set_option maxRecDepth 100000 in
theorem am_yc93 : am_ycw 93 ∈ am_uw := am_uw_at (k := 571) rfl rfl
set_option maxRecDepth 100000 in
theorem am_yc94 : am_ycw 94 ∈ am_uw := am_uw_at (k := 1301) rfl rfl
set_option maxRecDepth 100000 in
theorem am_yc95 : am_ycw 95 ∈ am_uw := am_uw_at (k := 1305) rfl rfl
set_option maxRecDepth 100000 in
theorem am_yc96 : am_ycw 96 ∈ am_uw := am_uw_at (k := 1310) rfl rfl
set_option maxRecDepth 100000 in
theorem am_yc97 : am_ycw 97 ∈ am_uw := am_uw_at (k := 1314) rfl rfl
set_option maxRecDepth 100000 in
theorem am_yc98 : am_ycw 98 ∈ am_uw := am_uw_at (k := 1325) rfl rfl
set_option maxRecDepth 100000 in
theorem am_yc99 : am_ycw 99 ∈ am_uw := am_uw_at (k := 1329) rfl rfl
set_option maxRecDepth 100000 in
theorem am_yc100 : am_ycw 100 ∈ am_uw := am_uw_at (k := 1333) rfl rfl
set_option maxRecDepth 100000 in
theorem am_yc101 : am_ycw 101 ∈ am_uw := am_uw_at (k := 494) rfl rfl
set_option maxRecDepth 100000 in
theorem am_yc102 : am_ycw 102 ∈ am_uw := am_uw_at (k := 1092) rfl rfl
set_option maxRecDepth 100000 in
theorem am_yc103 : am_ycw 103 ∈ am_uw := am_uw_at (k := 1101) rfl rfl
set_option maxRecDepth 100000 in
theorem am_yc104 : am_ycw 104 ∈ am_uw := am_uw_at (k := 1105) rfl rfl
set_option maxRecDepth 100000 in
theorem am_yc105 : am_ycw 105 ∈ am_uw := am_uw_at (k := 1109) rfl rfl
set_option maxRecDepth 100000 in
theorem am_yc106 : am_ycw 106 ∈ am_uw := am_uw_at (k := 1129) rfl rfl
set_option maxRecDepth 100000 in
theorem am_yc107 : am_ycw 107 ∈ am_uw := am_uw_at (k := 1121) rfl rfl
set_option maxRecDepth 100000 in
theorem am_yc108 : am_ycw 108 ∈ am_uw := am_uw_at (k := 1125) rfl rfl
set_option maxRecDepth 100000 in
theorem am_yc109 : am_ycw 109 ∈ am_uw := am_uw_at (k := 1134) rfl rfl
set_option maxRecDepth 100000 in
theorem am_yc110 : am_ycw 110 ∈ am_uw := am_uw_at (k := 1113) rfl rfl
set_option maxRecDepth 100000 in
theorem am_yc111 : am_ycw 111 ∈ am_uw := am_uw_at (k := 1117) rfl rfl
set_option maxRecDepth 100000 in
theorem am_yc112 : am_ycw 112 ∈ am_uw := am_uw_at (k := 1138) rfl rfl
set_option maxRecDepth 100000 in
theorem am_yc113 : am_ycw 113 ∈ am_uw := am_uw_at (k := 1143) rfl rfl
set_option maxRecDepth 100000 in
theorem am_yc114 : am_ycw 114 ∈ am_uw := am_uw_at (k := 177) rfl rfl
set_option maxRecDepth 100000 in
theorem am_yc115 : am_ycw 115 ∈ am_uw := am_uw_at (k := 1426) rfl rfl
set_option maxRecDepth 100000 in
theorem am_yc116 : am_ycw 116 ∈ am_uw := am_uw_at (k := 1012) rfl rfl
set_option maxRecDepth 100000 in
theorem am_yc117 : am_ycw 117 ∈ am_uw := am_uw_at (k := 1008) rfl rfl
set_option maxRecDepth 100000 in
theorem am_yc118 : am_ycw 118 ∈ am_uw := am_uw_at (k := 373) rfl rfl
set_option maxRecDepth 100000 in
theorem am_yc119 : am_ycw 119 ∈ am_uw := am_uw_at (k := 681) rfl rfl
set_option maxRecDepth 100000 in
theorem am_yc120 : am_ycw 120 ∈ am_uw := am_uw_at (k := 693) rfl rfl
set_option maxRecDepth 100000 in
theorem am_yc121 : am_ycw 121 ∈ am_uw := am_uw_at (k := 697) rfl rfl
set_option maxRecDepth 100000 in
theorem am_yc122 : am_ycw 122 ∈ am_uw := am_uw_at (k := 700) rfl rfl
set_option maxRecDepth 100000 in
theorem am_yc123 : am_ycw 123 ∈ am_uw := am_uw_at (k := 703) rfl rfl
set_option maxRecDepth 100000 in
theorem am_yc124 : am_ycw 124 ∈ am_uw := am_uw_at (k := 711) rfl rfl
set_option maxRecDepth 100000 in
theorem am_yc125 : am_ycw 125 ∈ am_uw := am_uw_at (k := 707) rfl rfl
set_option maxRecDepth 100000 in
theorem am_yc126 : am_ycw 126 ∈ am_uw := am_uw_at (k := 715) rfl rfl
set_option maxRecDepth 100000 in
theorem am_yc127 : am_ycw 127 ∈ am_uw := am_uw_at (k := 773) rfl rfl
set_option maxRecDepth 100000 in
theorem am_yc128 : am_ycw 128 ∈ am_uw := am_uw_at (k := 731) rfl rfl
set_option maxRecDepth 100000 in
theorem am_yc129 : am_ycw 129 ∈ am_uw := am_uw_at (k := 736) rfl rfl
set_option maxRecDepth 100000 in
theorem am_yc130 : am_ycw 130 ∈ am_uw := am_uw_at (k := 769) rfl rfl
set_option maxRecDepth 100000 in
theorem am_yc131 : am_ycw 131 ∈ am_uw := am_uw_at (k := 817) rfl rfl
set_option maxRecDepth 100000 in
theorem am_yc132 : am_ycw 132 ∈ am_uw := am_uw_at (k := 169) rfl rfl
set_option maxRecDepth 100000 in
theorem am_yc133 : am_ycw 133 ∈ am_uw := am_uw_at (k := 677) rfl rfl
set_option maxRecDepth 100000 in
theorem am_yc134 : am_ycw 134 ∈ am_uw := am_uw_at (k := 685) rfl rfl
set_option maxRecDepth 100000 in
theorem am_yc135 : am_ycw 135 ∈ am_uw := am_uw_at (k := 689) rfl rfl
set_option maxRecDepth 100000 in
theorem am_yc136 : am_ycw 136 ∈ am_uw := am_uw_at (k := 800) rfl rfl
set_option maxRecDepth 100000 in
theorem am_yc137 : am_ycw 137 ∈ am_uw := am_uw_at (k := 804) rfl rfl
set_option maxRecDepth 100000 in
theorem am_yc138 : am_ycw 138 ∈ am_uw := am_uw_at (k := 844) rfl rfl
set_option maxRecDepth 100000 in
theorem am_yc139 : am_ycw 139 ∈ am_uw := am_uw_at (k := 777) rfl rfl
set_option maxRecDepth 100000 in
theorem am_yc140 : am_ycw 140 ∈ am_uw := am_uw_at (k := 1441) rfl rfl
set_option maxRecDepth 100000 in
theorem am_yc141 : am_ycw 141 ∈ am_uw := am_uw_at (k := 1510) rfl rfl
set_option maxRecDepth 100000 in
theorem am_yc142 : am_ycw 142 ∈ am_uw := am_uw_at (k := 1517) rfl rfl
set_option maxRecDepth 100000 in
theorem am_yc143 : am_ycw 143 ∈ am_uw := am_uw_at (k := 888) rfl rfl
set_option maxRecDepth 100000 in
theorem am_yc144 : am_ycw 144 ∈ am_uw := am_uw_at (k := 892) rfl rfl
set_option maxRecDepth 100000 in
theorem am_yc145 : am_ycw 145 ∈ am_uw := am_uw_at (k := 912) rfl rfl
set_option maxRecDepth 100000 in
theorem am_yc146 : am_ycw 146 ∈ am_uw := am_uw_at (k := 978) rfl rfl
set_option maxRecDepth 100000 in
theorem am_yc147 : am_ycw 147 ∈ am_uw := am_uw_at (k := 982) rfl rfl
set_option maxRecDepth 100000 in
theorem am_yc148 : am_ycw 148 ∈ am_uw := am_uw_at (k := 1524) rfl rfl
set_option maxRecDepth 100000 in
theorem am_yc149 : am_ycw 149 ∈ am_uw := am_uw_at (k := 994) rfl rfl
set_option maxRecDepth 100000 in
theorem am_yc150 : am_ycw 150 ∈ am_uw := am_uw_at (k := 1004) rfl rfl
set_option maxRecDepth 100000 in
theorem am_yc151 : am_ycw 151 ∈ am_uw := am_uw_at (k := 1022) rfl rfl
set_option maxRecDepth 100000 in
theorem am_yc152 : am_ycw 152 ∈ am_uw := am_uw_at (k := 1031) rfl rfl
set_option maxRecDepth 100000 in
theorem am_yc153 : am_ycw 153 ∈ am_uw := am_uw_at (k := 1039) rfl rfl
set_option maxRecDepth 100000 in
theorem am_yc154 : am_ycw 154 ∈ am_uw := am_uw_at (k := 1044) rfl rfl
set_option maxRecDepth 100000 in
theorem am_yc155 : am_ycw 155 ∈ am_uw := am_uw_at (k := 1056) rfl rfl
set_option maxRecDepth 100000 in
theorem am_yc156 : am_ycw 156 ∈ am_uw := am_uw_at (k := 1064) rfl rfl
set_option maxRecDepth 100000 in
theorem am_yc157 : am_ycw 157 ∈ am_uw := am_uw_at (k := 1060) rfl rfl
set_option maxRecDepth 100000 in
theorem am_yc158 : am_ycw 158 ∈ am_uw := am_uw_at (k := 1068) rfl rfl
set_option maxRecDepth 100000 in
theorem am_yc159 : am_ycw 159 ∈ am_uw := am_uw_at (k := 1072) rfl rfl
set_option maxRecDepth 100000 in
theorem am_yc160 : am_ycw 160 ∈ am_uw := am_uw_at (k := 1088) rfl rfl
set_option maxRecDepth 100000 in
theorem am_yc161 : am_ycw 161 ∈ am_uw := am_uw_at (k := 1148) rfl rfl
set_option maxRecDepth 100000 in
theorem am_yc162 : am_ycw 162 ∈ am_uw := am_uw_at (k := 1167) rfl rfl
set_option maxRecDepth 100000 in
theorem am_yc163 : am_ycw 163 ∈ am_uw := am_uw_at (k := 1217) rfl rfl
set_option maxRecDepth 100000 in
theorem am_yc164 : am_ycw 164 ∈ am_uw := am_uw_at (k := 830) rfl rfl
set_option maxRecDepth 100000 in
theorem am_yc165 : am_ycw 165 ∈ am_uw := am_uw_at (k := 1221) rfl rfl
set_option maxRecDepth 100000 in
theorem am_yc166 : am_ycw 166 ∈ am_uw := am_uw_at (k := 1227) rfl rfl
set_option maxRecDepth 100000 in
theorem am_yc167 : am_ycw 167 ∈ am_uw := am_uw_at (k := 1235) rfl rfl
set_option maxRecDepth 100000 in
theorem am_yc168 : am_ycw 168 ∈ am_uw := am_uw_at (k := 1244) rfl rfl
set_option maxRecDepth 100000 in
theorem am_yc169 : am_ycw 169 ∈ am_uw := am_uw_at (k := 1253) rfl rfl
set_option maxRecDepth 100000 in
theorem am_yc170 : am_ycw 170 ∈ am_uw := am_uw_at (k := 1261) rfl rfl
set_option maxRecDepth 100000 in
theorem am_yc171 : am_ycw 171 ∈ am_uw := am_uw_at (k := 1264) rfl rfl
set_option maxRecDepth 100000 in
theorem am_yc172 : am_ycw 172 ∈ am_uw := am_uw_at (k := 1268) rfl rfl
set_option maxRecDepth 100000 in
theorem am_yc173 : am_ycw 173 ∈ am_uw := am_uw_at (k := 1273) rfl rfl
set_option maxRecDepth 100000 in
theorem am_yc174 : am_ycw 174 ∈ am_uw := am_uw_at (k := 1278) rfl rfl
set_option maxRecDepth 100000 in
theorem am_yc175 : am_ycw 175 ∈ am_uw := am_uw_at (k := 1293) rfl rfl
set_option maxRecDepth 100000 in
theorem am_yc176 : am_ycw 176 ∈ am_uw := am_uw_at (k := 1297) rfl rfl
set_option maxRecDepth 100000 in
theorem am_yc177 : am_ycw 177 ∈ am_uw := am_uw_at (k := 1337) rfl rfl
set_option maxRecDepth 100000 in
theorem am_yc178 : am_ycw 178 ∈ am_uw := am_uw_at (k := 1531) rfl rfl
set_option maxRecDepth 100000 in
theorem am_yc179 : am_ycw 179 ∈ am_uw := am_uw_at (k := 1534) rfl rfl
set_option maxRecDepth 100000 in
theorem am_yc180 : am_ycw 180 ∈ am_uw := am_uw_at (k := 1341) rfl rfl
set_option maxRecDepth 100000 in
theorem am_yc181 : am_ycw 181 ∈ am_uw := am_uw_at (k := 1346) rfl rfl
set_option maxRecDepth 100000 in
theorem am_yc182 : am_ycw 182 ∈ am_uw := am_uw_at (k := 1353) rfl rfl
set_option maxRecDepth 100000 in
theorem am_yc183 : am_ycw 183 ∈ am_uw := am_uw_at (k := 1358) rfl rfl
set_option maxRecDepth 100000 in
theorem am_yc184 : am_ycw 184 ∈ am_uw := am_uw_at (k := 1382) rfl rfl
set_option maxRecDepth 100000 in
theorem am_yc185 : am_ycw 185 ∈ am_uw := am_uw_at (k := 1387) rfl rfl
set_option maxRecDepth 100000 in
theorem am_yc186 : am_ycw 186 ∈ am_uw := am_uw_at (k := 1422) rfl rfl
set_option maxRecDepth 100000 in
theorem am_yc187 : am_ycw 187 ∈ am_uw := am_uw_at (k := 1433) rfl rfl
set_option maxRecDepth 100000 in
theorem am_yc188 : am_ycw 188 ∈ am_uw := am_uw_at (k := 1539) rfl rfl
set_option maxRecDepth 100000 in
theorem am_yc189 : am_ycw 189 ∈ am_uw := am_uw_at (k := 1733) rfl rfl
set_option maxRecDepth 100000 in
theorem am_yc190 : am_ycw 190 ∈ am_uw := am_uw_at (k := 1871) rfl rfl
set_option maxRecDepth 100000 in
theorem am_yc191 : am_ycw 191 ∈ am_uw := am_uw_at (k := 2157) rfl rfl
set_option maxRecDepth 100000 in
theorem am_yc192 : am_ycw 192 ∈ am_uw := am_uw_at (k := 1741) rfl rfl
set_option maxRecDepth 100000 in
theorem am_yc193 : am_ycw 193 ∈ am_uw := am_uw_at (k := 1737) rfl rfl
set_option maxRecDepth 100000 in
theorem am_yc194 : am_ycw 194 ∈ am_uw := am_uw_at (k := 1745) rfl rfl
set_option maxRecDepth 100000 in
theorem am_yc195 : am_ycw 195 ∈ am_uw := am_uw_at (k := 1764) rfl rfl
set_option maxRecDepth 100000 in
theorem am_yc196 : am_ycw 196 ∈ am_uw := am_uw_at (k := 1816) rfl rfl
set_option maxRecDepth 100000 in
theorem am_yc197 : am_ycw 197 ∈ am_uw := am_uw_at (k := 1805) rfl rfl
set_option maxRecDepth 100000 in
theorem am_yc198 : am_ycw 198 ∈ am_uw := am_uw_at (k := 2137) rfl rfl
set_option maxRecDepth 100000 in
theorem am_yc199 : am_ycw 199 ∈ am_uw := am_uw_at (k := 2008) rfl rfl
set_option maxRecDepth 100000 in
theorem am_yc200 : am_ycw 200 ∈ am_uw := am_uw_at (k := 1961) rfl rfl
set_option maxRecDepth 100000 in
theorem am_yc201 : am_ycw 201 ∈ am_uw := am_uw_at (k := 2160) rfl rfl
set_option maxRecDepth 100000 in
theorem am_yc202 : am_ycw 202 ∈ am_uw := am_uw_at (k := 1778) rfl rfl
set_option maxRecDepth 100000 in
theorem am_yc203 : am_ycw 203 ∈ am_uw := am_uw_at (k := 1774) rfl rfl
set_option maxRecDepth 100000 in
theorem am_yc204 : am_ycw 204 ∈ am_uw := am_uw_at (k := 1771) rfl rfl
set_option maxRecDepth 100000 in
theorem am_yc205 : am_ycw 205 ∈ am_uw := am_uw_at (k := 1768) rfl rfl
set_option maxRecDepth 100000 in
theorem am_yc206 : am_ycw 206 ∈ am_uw := am_uw_at (k := 1794) rfl rfl
set_option maxRecDepth 100000 in
theorem am_yc207 : am_ycw 207 ∈ am_uw := am_uw_at (k := 1791) rfl rfl
set_option maxRecDepth 100000 in
theorem am_yc208 : am_ycw 208 ∈ am_uw := am_uw_at (k := 1788) rfl rfl
set_option maxRecDepth 100000 in
theorem am_yc209 : am_ycw 209 ∈ am_uw := am_uw_at (k := 1851) rfl rfl
set_option maxRecDepth 100000 in
theorem am_yc210 : am_ycw 210 ∈ am_uw := am_uw_at (k := 1832) rfl rfl
set_option maxRecDepth 100000 in
theorem am_yc211 : am_ycw 211 ∈ am_uw := am_uw_at (k := 1809) rfl rfl
set_option maxRecDepth 100000 in
theorem am_yc212 : am_ycw 212 ∈ am_uw := am_uw_at (k := 1813) rfl rfl
set_option maxRecDepth 100000 in
theorem am_yc213 : am_ycw 213 ∈ am_uw := am_uw_at (k := 1847) rfl rfl
set_option maxRecDepth 100000 in
theorem am_yc214 : am_ycw 214 ∈ am_uw := am_uw_at (k := 1753) rfl rfl
set_option maxRecDepth 100000 in
theorem am_yc215 : am_ycw 215 ∈ am_uw := am_uw_at (k := 1760) rfl rfl
set_option maxRecDepth 100000 in
theorem am_yc216 : am_ycw 216 ∈ am_uw := am_uw_at (k := 1757) rfl rfl
set_option maxRecDepth 100000 in
theorem am_yc217 : am_ycw 217 ∈ am_uw := am_uw_at (k := 1835) rfl rfl
set_option maxRecDepth 100000 in
theorem am_yc218 : am_ycw 218 ∈ am_uw := am_uw_at (k := 1802) rfl rfl
set_option maxRecDepth 100000 in
theorem am_yc219 : am_ycw 219 ∈ am_uw := am_uw_at (k := 1828) rfl rfl
set_option maxRecDepth 100000 in
theorem am_yc220 : am_ycw 220 ∈ am_uw := am_uw_at (k := 1824) rfl rfl
set_option maxRecDepth 100000 in
theorem am_yc221 : am_ycw 221 ∈ am_uw := am_uw_at (k := 1839) rfl rfl
set_option maxRecDepth 100000 in
theorem am_yc222 : am_ycw 222 ∈ am_uw := am_uw_at (k := 1843) rfl rfl
set_option maxRecDepth 100000 in
theorem am_yc223 : am_ycw 223 ∈ am_uw := am_uw_at (k := 1820) rfl rfl
set_option maxRecDepth 100000 in
theorem am_yc224 : am_ycw 224 ∈ am_uw := am_uw_at (k := 1798) rfl rfl
set_option maxRecDepth 100000 in
theorem am_yc225 : am_ycw 225 ∈ am_uw := am_uw_at (k := 1784) rfl rfl
set_option maxRecDepth 100000 in
theorem am_yc226 : am_ycw 226 ∈ am_uw := am_uw_at (k := 1749) rfl rfl
set_option maxRecDepth 100000 in
theorem am_yc227 : am_ycw 227 ∈ am_uw := am_uw_at (k := 1855) rfl rfl
set_option maxRecDepth 100000 in
theorem am_yc228 : am_ycw 228 ∈ am_uw := am_uw_at (k := 1867) rfl rfl
set_option maxRecDepth 100000 in
theorem am_yc229 : am_ycw 229 ∈ am_uw := am_uw_at (k := 1863) rfl rfl
set_option maxRecDepth 100000 in
theorem am_yc230 : am_ycw 230 ∈ am_uw := am_uw_at (k := 1934) rfl rfl
set_option maxRecDepth 100000 in
theorem am_yc231 : am_ycw 231 ∈ am_uw := am_uw_at (k := 1926) rfl rfl
set_option maxRecDepth 100000 in
theorem am_yc232 : am_ycw 232 ∈ am_uw := am_uw_at (k := 1859) rfl rfl
set_option maxRecDepth 100000 in
theorem am_yc233 : am_ycw 233 ∈ am_uw := am_uw_at (k := 1875) rfl rfl
set_option maxRecDepth 100000 in
theorem am_yc234 : am_ycw 234 ∈ am_uw := am_uw_at (k := 1879) rfl rfl
set_option maxRecDepth 100000 in
theorem am_yc235 : am_ycw 235 ∈ am_uw := am_uw_at (k := 1903) rfl rfl
set_option maxRecDepth 100000 in
theorem am_yc236 : am_ycw 236 ∈ am_uw := am_uw_at (k := 1915) rfl rfl
set_option maxRecDepth 100000 in
theorem am_yc237 : am_ycw 237 ∈ am_uw := am_uw_at (k := 1911) rfl rfl
set_option maxRecDepth 100000 in
theorem am_yc238 : am_ycw 238 ∈ am_uw := am_uw_at (k := 1930) rfl rfl
set_option maxRecDepth 100000 in
theorem am_yc239 : am_ycw 239 ∈ am_uw := am_uw_at (k := 1899) rfl rfl
set_option maxRecDepth 100000 in
theorem am_yc240 : am_ycw 240 ∈ am_uw := am_uw_at (k := 1895) rfl rfl
set_option maxRecDepth 100000 in
theorem am_yc241 : am_ycw 241 ∈ am_uw := am_uw_at (k := 1883) rfl rfl
set_option maxRecDepth 100000 in
theorem am_yc242 : am_ycw 242 ∈ am_uw := am_uw_at (k := 1891) rfl rfl
set_option maxRecDepth 100000 in
theorem am_yc243 : am_ycw 243 ∈ am_uw := am_uw_at (k := 1887) rfl rfl
set_option maxRecDepth 100000 in
theorem am_yc244 : am_ycw 244 ∈ am_uw := am_uw_at (k := 1922) rfl rfl
set_option maxRecDepth 100000 in
theorem am_yc245 : am_ycw 245 ∈ am_uw := am_uw_at (k := 1919) rfl rfl
set_option maxRecDepth 100000 in
theorem am_yc246 : am_ycw 246 ∈ am_uw := am_uw_at (k := 1907) rfl rfl
set_option maxRecDepth 100000 in
theorem am_yc247 : am_ycw 247 ∈ am_uw := am_uw_at (k := 1938) rfl rfl
set_option maxRecDepth 100000 in
theorem am_yc248 : am_ycw 248 ∈ am_uw := am_uw_at (k := 1942) rfl rfl
set_option maxRecDepth 100000 in
theorem am_yc249 : am_ycw 249 ∈ am_uw := am_uw_at (k := 1950) rfl rfl
set_option maxRecDepth 100000 in
theorem am_yc250 : am_ycw 250 ∈ am_uw := am_uw_at (k := 1946) rfl rfl
set_option maxRecDepth 100000 in
theorem am_yc251 : am_ycw 251 ∈ am_uw := am_uw_at (k := 1958) rfl rfl
set_option maxRecDepth 100000 in
theorem am_yc252 : am_ycw 252 ∈ am_uw := am_uw_at (k := 1954) rfl rfl
set_option maxRecDepth 100000 in
theorem am_yc253 : am_ycw 253 ∈ am_uw := am_uw_at (k := 1969) rfl rfl
set_option maxRecDepth 100000 in
theorem am_yc254 : am_ycw 254 ∈ am_uw := am_uw_at (k := 1965) rfl rfl
set_option maxRecDepth 100000 in
theorem am_yc255 : am_ycw 255 ∈ am_uw := am_uw_at (k := 1973) rfl rfl
set_option maxRecDepth 100000 in
theorem am_yc256 : am_ycw 256 ∈ am_uw := am_uw_at (k := 1985) rfl rfl
set_option maxRecDepth 100000 in
theorem am_yc257 : am_ycw 257 ∈ am_uw := am_uw_at (k := 1989) rfl rfl
set_option maxRecDepth 100000 in
theorem am_yc258 : am_ycw 258 ∈ am_uw := am_uw_at (k := 1981) rfl rfl
set_option maxRecDepth 100000 in
theorem am_yc259 : am_ycw 259 ∈ am_uw := am_uw_at (k := 1977) rfl rfl
set_option maxRecDepth 100000 in
theorem am_yc260 : am_ycw 260 ∈ am_uw := am_uw_at (k := 1993) rfl rfl
set_option maxRecDepth 100000 in
theorem am_yc261 : am_ycw 261 ∈ am_uw := am_uw_at (k := 2005) rfl rfl
set_option maxRecDepth 100000 in
theorem am_yc262 : am_ycw 262 ∈ am_uw := am_uw_at (k := 2001) rfl rfl
set_option maxRecDepth 100000 in
theorem am_yc263 : am_ycw 263 ∈ am_uw := am_uw_at (k := 1997) rfl rfl
set_option maxRecDepth 100000 in
theorem am_yc264 : am_ycw 264 ∈ am_uw := am_uw_at (k := 2012) rfl rfl
set_option maxRecDepth 100000 in
theorem am_yc265 : am_ycw 265 ∈ am_uw := am_uw_at (k := 2024) rfl rfl
set_option maxRecDepth 100000 in
theorem am_yc266 : am_ycw 266 ∈ am_uw := am_uw_at (k := 2020) rfl rfl
set_option maxRecDepth 100000 in
theorem am_yc267 : am_ycw 267 ∈ am_uw := am_uw_at (k := 2016) rfl rfl
set_option maxRecDepth 100000 in
theorem am_yc268 : am_ycw 268 ∈ am_uw := am_uw_at (k := 2032) rfl rfl
set_option maxRecDepth 100000 in
theorem am_yc269 : am_ycw 269 ∈ am_uw := am_uw_at (k := 2028) rfl rfl
set_option maxRecDepth 100000 in
theorem am_yc270 : am_ycw 270 ∈ am_uw := am_uw_at (k := 2056) rfl rfl
set_option maxRecDepth 100000 in
theorem am_yc271 : am_ycw 271 ∈ am_uw := am_uw_at (k := 2064) rfl rfl
set_option maxRecDepth 100000 in
theorem am_yc272 : am_ycw 272 ∈ am_uw := am_uw_at (k := 2060) rfl rfl
set_option maxRecDepth 100000 in
theorem am_yc273 : am_ycw 273 ∈ am_uw := am_uw_at (k := 2068) rfl rfl
set_option maxRecDepth 100000 in
theorem am_yc274 : am_ycw 274 ∈ am_uw := am_uw_at (k := 2048) rfl rfl
set_option maxRecDepth 100000 in
theorem am_yc275 : am_ycw 275 ∈ am_uw := am_uw_at (k := 2052) rfl rfl
set_option maxRecDepth 100000 in
theorem am_yc276 : am_ycw 276 ∈ am_uw := am_uw_at (k := 2072) rfl rfl
set_option maxRecDepth 100000 in
theorem am_yc277 : am_ycw 277 ∈ am_uw := am_uw_at (k := 2044) rfl rfl
set_option maxRecDepth 100000 in
theorem am_yc278 : am_ycw 278 ∈ am_uw := am_uw_at (k := 2076) rfl rfl
set_option maxRecDepth 100000 in
theorem am_yc279 : am_ycw 279 ∈ am_uw := am_uw_at (k := 2040) rfl rfl
set_option maxRecDepth 100000 in
theorem am_yc280 : am_ycw 280 ∈ am_uw := am_uw_at (k := 2036) rfl rfl
set_option maxRecDepth 100000 in
theorem am_yc281 : am_ycw 281 ∈ am_uw := am_uw_at (k := 2080) rfl rfl
set_option maxRecDepth 100000 in
theorem am_yc282 : am_ycw 282 ∈ am_uw := am_uw_at (k := 2084) rfl rfl
set_option maxRecDepth 100000 in
theorem am_yc283 : am_ycw 283 ∈ am_uw := am_uw_at (k := 2088) rfl rfl
set_option maxRecDepth 100000 in
theorem am_yc284 : am_ycw 284 ∈ am_uw := am_uw_at (k := 2092) rfl rfl
set_option maxRecDepth 100000 in
theorem am_yc285 : am_ycw 285 ∈ am_uw := am_uw_at (k := 2104) rfl rfl
set_option maxRecDepth 100000 in
theorem am_yc286 : am_ycw 286 ∈ am_uw := am_uw_at (k := 2100) rfl rfl
set_option maxRecDepth 100000 in
theorem am_yc287 : am_ycw 287 ∈ am_uw := am_uw_at (k := 2096) rfl rfl
set_option maxRecDepth 100000 in
theorem am_yc288 : am_ycw 288 ∈ am_uw := am_uw_at (k := 2108) rfl rfl
set_option maxRecDepth 100000 in
theorem am_yc289 : am_ycw 289 ∈ am_uw := am_uw_at (k := 2112) rfl rfl
set_option maxRecDepth 100000 in
theorem am_yc290 : am_ycw 290 ∈ am_uw := am_uw_at (k := 2119) rfl rfl
set_option maxRecDepth 100000 in
theorem am_yc291 : am_ycw 291 ∈ am_uw := am_uw_at (k := 2116) rfl rfl
set_option maxRecDepth 100000 in
theorem am_yc292 : am_ycw 292 ∈ am_uw := am_uw_at (k := 2126) rfl rfl
set_option maxRecDepth 100000 in
theorem am_yc293 : am_ycw 293 ∈ am_uw := am_uw_at (k := 2123) rfl rfl
set_option maxRecDepth 100000 in
theorem am_yc294 : am_ycw 294 ∈ am_uw := am_uw_at (k := 2130) rfl rfl
set_option maxRecDepth 100000 in
theorem am_yc295 : am_ycw 295 ∈ am_uw := am_uw_at (k := 2145) rfl rfl
set_option maxRecDepth 100000 in
theorem am_yc296 : am_ycw 296 ∈ am_uw := am_uw_at (k := 2141) rfl rfl
set_option maxRecDepth 100000 in
theorem am_yc297 : am_ycw 297 ∈ am_uw := am_uw_at (k := 2134) rfl rfl
set_option maxRecDepth 100000 in
theorem am_yc298 : am_ycw 298 ∈ am_uw := am_uw_at (k := 2149) rfl rfl
set_option maxRecDepth 100000 in
theorem am_yc299 : am_ycw 299 ∈ am_uw := am_uw_at (k := 2153) rfl rfl
set_option maxRecDepth 100000 in
theorem am_yc300 : am_ycw 300 ∈ am_uw := am_uw_at (k := 2164) rfl rfl
set_option maxRecDepth 100000 in
theorem am_yc301 : am_ycw 301 ∈ am_uw := am_uw_at (k := 2169) rfl rfl
set_option maxRecDepth 100000 in
theorem am_yc302 : am_ycw 302 ∈ am_uw := am_uw_at (k := 2177) rfl rfl
set_option maxRecDepth 100000 in
theorem am_yc303 : am_ycw 303 ∈ am_uw := am_uw_at (k := 2173) rfl rfl
set_option maxRecDepth 100000 in
theorem am_yc304 : am_ycw 304 ∈ am_uw := am_uw_at (k := 2193) rfl rfl
set_option maxRecDepth 100000 in
theorem am_yc305 : am_ycw 305 ∈ am_uw := am_uw_at (k := 2189) rfl rfl
set_option maxRecDepth 100000 in
theorem am_yc306 : am_ycw 306 ∈ am_uw := am_uw_at (k := 2185) rfl rfl
set_option maxRecDepth 100000 in
theorem am_yc307 : am_ycw 307 ∈ am_uw := am_uw_at (k := 2181) rfl rfl
set_option maxRecDepth 100000 in
theorem am_yc308 : am_ycw 308 ∈ am_uw := am_uw_at (k := 2198) rfl rfl
set_option maxRecDepth 100000 in
theorem am_yc309 : am_ycw 309 ∈ am_uw := am_uw_at (k := 2230) rfl rfl
set_option maxRecDepth 100000 in
theorem am_yc310 : am_ycw 310 ∈ am_uw := am_uw_at (k := 2206) rfl rfl
set_option maxRecDepth 100000 in
theorem am_yc311 : am_ycw 311 ∈ am_uw := am_uw_at (k := 2210) rfl rfl
set_option maxRecDepth 100000 in
theorem am_yc312 : am_ycw 312 ∈ am_uw := am_uw_at (k := 2218) rfl rfl
set_option maxRecDepth 100000 in
theorem am_yc313 : am_ycw 313 ∈ am_uw := am_uw_at (k := 2214) rfl rfl
set_option maxRecDepth 100000 in
theorem am_yc314 : am_ycw 314 ∈ am_uw := am_uw_at (k := 2226) rfl rfl
set_option maxRecDepth 100000 in
theorem am_yc315 : am_ycw 315 ∈ am_uw := am_uw_at (k := 2222) rfl rfl
set_option maxRecDepth 100000 in
theorem am_yc316 : am_ycw 316 ∈ am_uw := am_uw_at (k := 2234) rfl rfl
set_option maxRecDepth 100000 in
theorem am_yc317 : am_ycw 317 ∈ am_uw := am_uw_at (k := 2238) rfl rfl
set_option maxRecDepth 100000 in
theorem am_yc318 : am_ycw 318 ∈ am_uw := am_uw_at (k := 2202) rfl rfl
set_option maxRecDepth 100000 in
theorem am_yc319 : am_ycw 319 ∈ am_uw := am_uw_at (k := 2250) rfl rfl
set_option maxRecDepth 100000 in
theorem am_yc320 : am_ycw 320 ∈ am_uw := am_uw_at (k := 2254) rfl rfl
set_option maxRecDepth 100000 in
theorem am_yc321 : am_ycw 321 ∈ am_uw := am_uw_at (k := 2246) rfl rfl
set_option maxRecDepth 100000 in
theorem am_yc322 : am_ycw 322 ∈ am_uw := am_uw_at (k := 2242) rfl rfl
set_option maxRecDepth 100000 in
theorem am_yc323 : am_ycw 323 ∈ am_uw := am_uw_at (k := 2258) rfl rfl
set_option maxRecDepth 100000 in
theorem am_yc324 : am_ycw 324 ∈ am_uw := am_uw_at (k := 2262) rfl rfl
set_option maxRecDepth 100000 in
theorem am_yc325 : am_ycw 325 ∈ am_uw := am_uw_at (k := 2266) rfl rfl
set_option maxRecDepth 100000 in
theorem am_yc326 : am_ycw 326 ∈ am_uw := am_uw_at (k := 1317) rfl rfl
set_option maxRecDepth 100000 in
theorem am_yc327 : am_ycw 327 ∈ am_uw := am_uw_at (k := 1349) rfl rfl
set_option maxRecDepth 100000 in
theorem am_yc328 : am_ycw 328 ∈ am_uw := am_uw_at (k := 919) rfl rfl
