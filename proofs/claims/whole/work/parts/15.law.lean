theorem wk_836 : Cond.methodLink RL 122 yL_addShot ∈ ho_TB := ho_mk 293 (by decide +kernel)
theorem wk_837 : Cond.static yL_addShot ∈ ho_TB := ho_mk 294 (by decide +kernel)
theorem wk_838 : Cond.initialized RL ∈ ho_TB := ho_mk 85 (by decide +kernel)
theorem wk_839 : Cond.codeWith yL_addShot cL_addShot 4 (some .int) hL_addShot ∈ ho_TB := ho_mk 295 (by decide +kernel)
theorem wk_840 : Cond.methodLink RL 127 yX7_addShot ∈ ho_TB := ho_mk 1161 (by decide +kernel)
theorem wk_841 : Cond.instanceMethod yX7_addShot ∈ ho_TB := ho_mk 1162 (by decide +kernel)
theorem wk_842 : Cond.selects RX7 yX7_addShot yX7_addShot ∈ ho_TB := ho_mk 1163 (by decide +kernel)
theorem wk_843 : Cond.code yX7_addShot cX7_addShot 3 (some .int) ∈ ho_TB := ho_mk 1164 (by decide +kernel)
theorem wk_844 : Cond.methodLink RL 128 yX7_thrown ∈ ho_TB := ho_mk 1157 (by decide +kernel)
theorem wk_845 : Cond.instanceMethod yX7_thrown ∈ ho_TB := ho_mk 1158 (by decide +kernel)
theorem wk_846 : Cond.selects RX7 yX7_thrown yX7_thrown ∈ ho_TB := ho_mk 1159 (by decide +kernel)
theorem wk_847 : Cond.code yX7_thrown cX7_thrown 1 (some .int) ∈ ho_TB := ho_mk 1160 (by decide +kernel)
theorem wk_848 : Cond.methodLink RL 132 yL_cut ∈ ho_TB := ho_mk 411 (by decide +kernel)
theorem wk_849 : Cond.static yL_cut ∈ ho_TB := ho_mk 412 (by decide +kernel)
theorem wk_850 : Cond.codeWith yL_cut cL_cut 5 (some .int) hL_cut ∈ ho_TB := ho_mk 413 (by decide +kernel)
theorem wk_851 : Cond.methodLink RL 135 yX7_cut ∈ ho_TB := ho_mk 1180 (by decide +kernel)
theorem wk_852 : Cond.instanceMethod yX7_cut ∈ ho_TB := ho_mk 1181 (by decide +kernel)
theorem wk_853 : Cond.selects RX7 yX7_cut yX7_cut ∈ ho_TB := ho_mk 1182 (by decide +kernel)
theorem wk_854 : Cond.code yX7_cut cX7_cut 3 (some .int) ∈ ho_TB := ho_mk 1183 (by decide +kernel)
theorem wk_855 : Cond.methodLink RL 136 yL_move ∈ ho_TB := ho_mk 496 (by decide +kernel)
theorem wk_856 : Cond.static yL_move ∈ ho_TB := ho_mk 497 (by decide +kernel)
theorem wk_857 : Cond.codeWith yL_move cL_move 6 (some .int) hL_move ∈ ho_TB := ho_mk 498 (by decide +kernel)
theorem wk_858 : Cond.methodLink RL 139 yX7_move ∈ ho_TB := ho_mk 1196 (by decide +kernel)
theorem wk_859 : Cond.instanceMethod yX7_move ∈ ho_TB := ho_mk 1197 (by decide +kernel)
theorem wk_860 : Cond.selects RX7 yX7_move yX7_move ∈ ho_TB := ho_mk 1198 (by decide +kernel)
theorem wk_861 : Cond.code yX7_move cX7_move 6 (some .int) ∈ ho_TB := ho_mk 1199 (by decide +kernel)
theorem wk_862 : Cond.methodLink RL 140 yL_putBack ∈ ho_TB := ho_mk 511 (by decide +kernel)
theorem wk_863 : Cond.static yL_putBack ∈ ho_TB := ho_mk 512 (by decide +kernel)
theorem wk_864 : Cond.codeWith yL_putBack cL_putBack 7 (some .int) hL_putBack ∈ ho_TB := ho_mk 513 (by decide +kernel)
theorem wk_865 : Cond.methodLink RL 143 yX7_putBack ∈ ho_TB := ho_mk 1204 (by decide +kernel)
theorem wk_866 : Cond.instanceMethod yX7_putBack ∈ ho_TB := ho_mk 1205 (by decide +kernel)
theorem wk_867 : Cond.selects RX7 yX7_putBack yX7_putBack ∈ ho_TB := ho_mk 1206 (by decide +kernel)
theorem wk_868 : Cond.code yX7_putBack cX7_putBack 6 (some .int) ∈ ho_TB := ho_mk 1207 (by decide +kernel)
theorem wk_869 : Cond.methodLink RL 144 yX6_frames ∈ ho_TB := ho_mk 281 (by decide +kernel)
theorem wk_870 : Cond.instanceMethod yX6_frames ∈ ho_TB := ho_mk 282 (by decide +kernel)
theorem wk_871 : Cond.selects RX6 yX6_frames yX6_frames ∈ ho_TB := ho_mk 283 (by decide +kernel)
theorem wk_872 : Cond.code yX6_frames cX6_frames 1 (some .int) ∈ ho_TB := ho_mk 284 (by decide +kernel)
theorem wk_873 : Cond.methodLink RL 147 yX7_frames ∈ ho_TB := ho_mk 1212 (by decide +kernel)
theorem wk_874 : Cond.instanceMethod yX7_frames ∈ ho_TB := ho_mk 1213 (by decide +kernel)
theorem wk_875 : Cond.selects RX7 yX7_frames yX7_frames ∈ ho_TB := ho_mk 1214 (by decide +kernel)
theorem wk_876 : Cond.code yX7_frames cX7_frames 1 (some .int) ∈ ho_TB := ho_mk 1215 (by decide +kernel)
theorem wk_877 : Cond.methodLink RL 148 yL_frameAt ∈ ho_TB := ho_mk 537 (by decide +kernel)
theorem wk_878 : Cond.static yL_frameAt ∈ ho_TB := ho_mk 538 (by decide +kernel)
theorem wk_879 : Cond.codeWith yL_frameAt cL_frameAt 4 (some .int) hL_frameAt ∈ ho_TB := ho_mk 539 (by decide +kernel)
theorem wk_880 : Cond.methodLink RL 150 yX7_frameAt ∈ ho_TB := ho_mk 1216 (by decide +kernel)
theorem wk_881 : Cond.instanceMethod yX7_frameAt ∈ ho_TB := ho_mk 1217 (by decide +kernel)
theorem wk_882 : Cond.selects RX7 yX7_frameAt yX7_frameAt ∈ ho_TB := ho_mk 1218 (by decide +kernel)
theorem wk_883 : Cond.code yX7_frameAt cX7_frameAt 2 (some .int) ∈ ho_TB := ho_mk 1219 (by decide +kernel)
theorem wk_884 : Cond.methodLink RL 151 yL_placeOf ∈ ho_TB := ho_mk 545 (by decide +kernel)
theorem wk_885 : Cond.static yL_placeOf ∈ ho_TB := ho_mk 546 (by decide +kernel)
theorem wk_886 : Cond.codeWith yL_placeOf cL_placeOf 5 (some .int) hL_placeOf ∈ ho_TB := ho_mk 547 (by decide +kernel)
theorem wk_887 : Cond.methodLink RL 153 yX7_placeOf ∈ ho_TB := ho_mk 1220 (by decide +kernel)
theorem wk_888 : Cond.instanceMethod yX7_placeOf ∈ ho_TB := ho_mk 1221 (by decide +kernel)
theorem wk_889 : Cond.selects RX7 yX7_placeOf yX7_placeOf ∈ ho_TB := ho_mk 1222 (by decide +kernel)
theorem wk_890 : Cond.code yX7_placeOf cX7_placeOf 3 (some .int) ∈ ho_TB := ho_mk 1223 (by decide +kernel)
theorem wk_891 : Cond.methodLink RL 154 yL_isBoundary ∈ ho_TB := ho_mk 553 (by decide +kernel)
theorem wk_892 : Cond.static yL_isBoundary ∈ ho_TB := ho_mk 554 (by decide +kernel)
theorem wk_893 : Cond.codeWith yL_isBoundary cL_isBoundary 4 (some .int) hL_isBoundary ∈ ho_TB := ho_mk 555 (by decide +kernel)
theorem wk_894 : Cond.methodLink RL 156 yX7_isBoundary ∈ ho_TB := ho_mk 1224 (by decide +kernel)
theorem wk_895 : Cond.instanceMethod yX7_isBoundary ∈ ho_TB := ho_mk 1225 (by decide +kernel)
theorem wk_896 : Cond.selects RX7 yX7_isBoundary yX7_isBoundary ∈ ho_TB := ho_mk 1226 (by decide +kernel)
theorem wk_897 : Cond.code yX7_isBoundary cX7_isBoundary 2 (some .boolean) ∈ ho_TB := ho_mk 1227 (by decide +kernel)
theorem wk_898 : Cond.methodLink RL 157 yL_add ∈ ho_TB := ho_mk 564 (by decide +kernel)
theorem wk_899 : Cond.static yL_add ∈ ho_TB := ho_mk 565 (by decide +kernel)
theorem wk_900 : Cond.codeWith yL_add cL_add 5 (some .int) hL_add ∈ ho_TB := ho_mk 566 (by decide +kernel)
theorem wk_901 : Cond.methodLink RL 159 yX7_add ∈ ho_TB := ho_mk 1232 (by decide +kernel)
theorem wk_902 : Cond.instanceMethod yX7_add ∈ ho_TB := ho_mk 1233 (by decide +kernel)
theorem wk_903 : Cond.selects RX7 yX7_add yX7_add ∈ ho_TB := ho_mk 1234 (by decide +kernel)
theorem wk_904 : Cond.code yX7_add cX7_add 3 (some .int) ∈ ho_TB := ho_mk 1235 (by decide +kernel)
theorem wk_905 : Cond.methodLink RL 160 yL_lay ∈ ho_TB := ho_mk 583 (by decide +kernel)
theorem wk_906 : Cond.static yL_lay ∈ ho_TB := ho_mk 584 (by decide +kernel)
theorem wk_907 : Cond.codeWith yL_lay cL_lay 6 (some .int) hL_lay ∈ ho_TB := ho_mk 585 (by decide +kernel)
theorem wk_908 : Cond.methodLink RL 162 yX7_lay ∈ ho_TB := ho_mk 1240 (by decide +kernel)
theorem wk_909 : Cond.instanceMethod yX7_lay ∈ ho_TB := ho_mk 1241 (by decide +kernel)
theorem wk_910 : Cond.selects RX7 yX7_lay yX7_lay ∈ ho_TB := ho_mk 1242 (by decide +kernel)
theorem wk_911 : Cond.code yX7_lay cX7_lay 5 (some .int) ∈ ho_TB := ho_mk 1243 (by decide +kernel)
theorem wk_912 : Cond.methodLink RL 163 yL_setLook ∈ ho_TB := ho_mk 612 (by decide +kernel)
theorem wk_913 : Cond.static yL_setLook ∈ ho_TB := ho_mk 613 (by decide +kernel)
theorem wk_914 : Cond.codeWith yL_setLook cL_setLook 5 (some .int) hL_setLook ∈ ho_TB := ho_mk 614 (by decide +kernel)
theorem wk_915 : Cond.methodLink RL 165 yX7_setLook ∈ ho_TB := ho_mk 1256 (by decide +kernel)
theorem wk_916 : Cond.instanceMethod yX7_setLook ∈ ho_TB := ho_mk 1257 (by decide +kernel)
theorem wk_917 : Cond.selects RX7 yX7_setLook yX7_setLook ∈ ho_TB := ho_mk 1258 (by decide +kernel)
theorem wk_918 : Cond.code yX7_setLook cX7_setLook 4 (some .int) ∈ ho_TB := ho_mk 1259 (by decide +kernel)
theorem wk_919 : Cond.methodLink RL 166 yX6_captions ∈ ho_TB := ho_mk 289 (by decide +kernel)
theorem wk_920 : Cond.instanceMethod yX6_captions ∈ ho_TB := ho_mk 290 (by decide +kernel)
theorem wk_921 : Cond.selects RX6 yX6_captions yX6_captions ∈ ho_TB := ho_mk 291 (by decide +kernel)
theorem wk_922 : Cond.code yX6_captions cX6_captions 1 (some .int) ∈ ho_TB := ho_mk 292 (by decide +kernel)
theorem wk_923 : Cond.methodLink RL 169 yX7_captions ∈ ho_TB := ho_mk 1260 (by decide +kernel)
theorem wk_924 : Cond.instanceMethod yX7_captions ∈ ho_TB := ho_mk 1261 (by decide +kernel)
theorem wk_925 : Cond.selects RX7 yX7_captions yX7_captions ∈ ho_TB := ho_mk 1262 (by decide +kernel)
theorem wk_926 : Cond.code yX7_captions cX7_captions 1 (some .int) ∈ ho_TB := ho_mk 1263 (by decide +kernel)
theorem wk_927 : Cond.methodLink RL 170 yL_startOf ∈ ho_TB := ho_mk 621 (by decide +kernel)
theorem wk_928 : Cond.static yL_startOf ∈ ho_TB := ho_mk 622 (by decide +kernel)
theorem wk_929 : Cond.codeWith yL_startOf cL_startOf 4 (some .int) hL_startOf ∈ ho_TB := ho_mk 623 (by decide +kernel)
theorem wk_930 : Cond.methodLink RL 172 yX7_startOf ∈ ho_TB := ho_mk 1264 (by decide +kernel)
theorem wk_931 : Cond.instanceMethod yX7_startOf ∈ ho_TB := ho_mk 1265 (by decide +kernel)
theorem wk_932 : Cond.selects RX7 yX7_startOf yX7_startOf ∈ ho_TB := ho_mk 1266 (by decide +kernel)
theorem wk_933 : Cond.code yX7_startOf cX7_startOf 2 (some .int) ∈ ho_TB := ho_mk 1267 (by decide +kernel)
theorem wk_934 : Cond.methodLink RL 173 yL_lengthOf ∈ ho_TB := ho_mk 628 (by decide +kernel)
theorem wk_935 : Cond.static yL_lengthOf ∈ ho_TB := ho_mk 629 (by decide +kernel)
theorem wk_936 : Cond.codeWith yL_lengthOf cL_lengthOf 4 (some .int) hL_lengthOf ∈ ho_TB := ho_mk 630 (by decide +kernel)
theorem wk_937 : Cond.methodLink RL 175 yX7_lengthOf ∈ ho_TB := ho_mk 1272 (by decide +kernel)
theorem wk_938 : Cond.instanceMethod yX7_lengthOf ∈ ho_TB := ho_mk 1273 (by decide +kernel)
theorem wk_939 : Cond.selects RX7 yX7_lengthOf yX7_lengthOf ∈ ho_TB := ho_mk 1274 (by decide +kernel)
theorem wk_940 : Cond.code yX7_lengthOf cX7_lengthOf 2 (some .int) ∈ ho_TB := ho_mk 1275 (by decide +kernel)
theorem wk_941 : Cond.methodLink RL 176 yL_startByFrames ∈ ho_TB := ho_mk 636 (by decide +kernel)
theorem wk_942 : Cond.static yL_startByFrames ∈ ho_TB := ho_mk 637 (by decide +kernel)
theorem wk_943 : Cond.codeWith yL_startByFrames cL_startByFrames 4 (some .int) hL_startByFrames ∈ ho_TB := ho_mk 638 (by decide +kernel)
theorem wk_944 : Cond.methodLink RL 178 yX7_startByFrames ∈ ho_TB := ho_mk 1276 (by decide +kernel)
theorem wk_945 : Cond.instanceMethod yX7_startByFrames ∈ ho_TB := ho_mk 1277 (by decide +kernel)
theorem wk_946 : Cond.selects RX7 yX7_startByFrames yX7_startByFrames ∈ ho_TB := ho_mk 1278 (by decide +kernel)
theorem wk_947 : Cond.code yX7_startByFrames cX7_startByFrames 2 (some .int) ∈ ho_TB := ho_mk 1279 (by decide +kernel)
theorem wk_948 : Cond.methodLink RL 179 yL_inOrder ∈ ho_TB := ho_mk 645 (by decide +kernel)
theorem wk_949 : Cond.static yL_inOrder ∈ ho_TB := ho_mk 646 (by decide +kernel)
theorem wk_950 : Cond.codeWith yL_inOrder cL_inOrder 4 (some .int) hL_inOrder ∈ ho_TB := ho_mk 647 (by decide +kernel)
theorem wk_951 : Cond.methodLink RL 181 yX7_inOrder ∈ ho_TB := ho_mk 1280 (by decide +kernel)
theorem wk_952 : Cond.instanceMethod yX7_inOrder ∈ ho_TB := ho_mk 1281 (by decide +kernel)
theorem wk_953 : Cond.selects RX7 yX7_inOrder yX7_inOrder ∈ ho_TB := ho_mk 1282 (by decide +kernel)
theorem wk_954 : Cond.code yX7_inOrder cX7_inOrder 2 (some .int) ∈ ho_TB := ho_mk 1283 (by decide +kernel)
theorem wk_955 : Cond.methodLink RL 182 yL_type ∈ ho_TB := ho_mk 665 (by decide +kernel)
theorem wk_956 : Cond.static yL_type ∈ ho_TB := ho_mk 666 (by decide +kernel)
theorem wk_957 : Cond.codeWith yL_type cL_type 6 (some .int) hL_type ∈ ho_TB := ho_mk 667 (by decide +kernel)
theorem wk_958 : Cond.methodLink RL 184 yX7_type ∈ ho_TB := ho_mk 1292 (by decide +kernel)
theorem wk_959 : Cond.instanceMethod yX7_type ∈ ho_TB := ho_mk 1293 (by decide +kernel)
theorem wk_960 : Cond.selects RX7 yX7_type yX7_type ∈ ho_TB := ho_mk 1294 (by decide +kernel)
theorem wk_961 : Cond.code yX7_type cX7_type 5 (some .int) ∈ ho_TB := ho_mk 1295 (by decide +kernel)
theorem wk_962 : Cond.methodLink RL 185 yL_erase ∈ ho_TB := ho_mk 707 (by decide +kernel)
theorem wk_963 : Cond.static yL_erase ∈ ho_TB := ho_mk 708 (by decide +kernel)
theorem wk_964 : Cond.codeWith yL_erase cL_erase 5 (some .int) hL_erase ∈ ho_TB := ho_mk 709 (by decide +kernel)
theorem wk_965 : Cond.methodLink RL 187 yX7_erase ∈ ho_TB := ho_mk 1310 (by decide +kernel)
theorem wk_966 : Cond.instanceMethod yX7_erase ∈ ho_TB := ho_mk 1311 (by decide +kernel)
theorem wk_967 : Cond.selects RX7 yX7_erase yX7_erase ∈ ho_TB := ho_mk 1312 (by decide +kernel)
theorem wk_968 : Cond.code yX7_erase cX7_erase 4 (some .int) ∈ ho_TB := ho_mk 1313 (by decide +kernel)
theorem wk_969 : Cond.methodLink RL 188 yL_signs ∈ ho_TB := ho_mk 723 (by decide +kernel)
theorem wk_970 : Cond.static yL_signs ∈ ho_TB := ho_mk 724 (by decide +kernel)
theorem wk_971 : Cond.codeWith yL_signs cL_signs 5 (some .int) hL_signs ∈ ho_TB := ho_mk 725 (by decide +kernel)
theorem wk_972 : Cond.methodLink RL 190 yX7_signs ∈ ho_TB := ho_mk 1314 (by decide +kernel)
theorem wk_973 : Cond.instanceMethod yX7_signs ∈ ho_TB := ho_mk 1315 (by decide +kernel)
theorem wk_974 : Cond.selects RX7 yX7_signs yX7_signs ∈ ho_TB := ho_mk 1316 (by decide +kernel)
theorem wk_975 : Cond.code yX7_signs cX7_signs 3 (some .int) ∈ ho_TB := ho_mk 1317 (by decide +kernel)
theorem wk_976 : Cond.methodLink RL 191 yL_signAt ∈ ho_TB := ho_mk 730 (by decide +kernel)
theorem wk_977 : Cond.static yL_signAt ∈ ho_TB := ho_mk 731 (by decide +kernel)
theorem wk_978 : Cond.codeWith yL_signAt cL_signAt 6 (some .int) hL_signAt ∈ ho_TB := ho_mk 732 (by decide +kernel)
theorem wk_979 : Cond.methodLink RL 193 yX7_signAt ∈ ho_TB := ho_mk 1322 (by decide +kernel)
theorem wk_980 : Cond.instanceMethod yX7_signAt ∈ ho_TB := ho_mk 1323 (by decide +kernel)
theorem wk_981 : Cond.selects RX7 yX7_signAt yX7_signAt ∈ ho_TB := ho_mk 1324 (by decide +kernel)
theorem wk_982 : Cond.code yX7_signAt cX7_signAt 4 (some .int) ∈ ho_TB := ho_mk 1325 (by decide +kernel)
theorem wk_983 : Cond.methodLink RL 194 yL_width ∈ ho_TB := ho_mk 739 (by decide +kernel)
theorem wk_984 : Cond.static yL_width ∈ ho_TB := ho_mk 740 (by decide +kernel)
theorem wk_985 : Cond.codeWith yL_width cL_width 5 (some .int) hL_width ∈ ho_TB := ho_mk 741 (by decide +kernel)
theorem wk_986 : Cond.methodLink RL 196 yX7_width ∈ ho_TB := ho_mk 1326 (by decide +kernel)
theorem wk_987 : Cond.instanceMethod yX7_width ∈ ho_TB := ho_mk 1327 (by decide +kernel)
theorem wk_988 : Cond.selects RX7 yX7_width yX7_width ∈ ho_TB := ho_mk 1328 (by decide +kernel)
theorem wk_989 : Cond.code yX7_width cX7_width 4 (some .int) ∈ ho_TB := ho_mk 1329 (by decide +kernel)
theorem wk_990 : Cond.methodLink RL 197 yL_rows ∈ ho_TB := ho_mk 755 (by decide +kernel)
theorem wk_991 : Cond.static yL_rows ∈ ho_TB := ho_mk 756 (by decide +kernel)
theorem wk_992 : Cond.codeWith yL_rows cL_rows 5 (some .int) hL_rows ∈ ho_TB := ho_mk 757 (by decide +kernel)
theorem wk_993 : Cond.methodLink RL 199 yX7_rows ∈ ho_TB := ho_mk 1339 (by decide +kernel)
theorem wk_994 : Cond.instanceMethod yX7_rows ∈ ho_TB := ho_mk 1340 (by decide +kernel)
theorem wk_995 : Cond.selects RX7 yX7_rows yX7_rows ∈ ho_TB := ho_mk 1341 (by decide +kernel)
theorem wk_996 : Cond.code yX7_rows cX7_rows 3 (some .int) ∈ ho_TB := ho_mk 1342 (by decide +kernel)
theorem wk_997 : Cond.methodLink RL 200 yL_row ∈ ho_TB := ho_mk 804 (by decide +kernel)
theorem wk_998 : Cond.static yL_row ∈ ho_TB := ho_mk 805 (by decide +kernel)
theorem wk_999 : Cond.codeWith yL_row cL_row 6 (some .int) hL_row ∈ ho_TB := ho_mk 806 (by decide +kernel)
theorem wk_1000 : Cond.methodLink RL 202 yX7_row ∈ ho_TB := ho_mk 1362 (by decide +kernel)
theorem wk_1001 : Cond.instanceMethod yX7_row ∈ ho_TB := ho_mk 1363 (by decide +kernel)
theorem wk_1002 : Cond.selects RX7 yX7_row yX7_row ∈ ho_TB := ho_mk 1364 (by decide +kernel)
theorem wk_1003 : Cond.code yX7_row cX7_row 4 (some .int) ∈ ho_TB := ho_mk 1365 (by decide +kernel)
theorem wk_1004 : Cond.methodLink RL 203 yL_setLimits ∈ ho_TB := ho_mk 820 (by decide +kernel)
theorem wk_1005 : Cond.static yL_setLimits ∈ ho_TB := ho_mk 821 (by decide +kernel)
theorem wk_1006 : Cond.codeWith yL_setLimits cL_setLimits 5 (some .int) hL_setLimits ∈ ho_TB := ho_mk 822 (by decide +kernel)
theorem wk_1007 : Cond.methodLink RL 205 yX7_setLimits ∈ ho_TB := ho_mk 1366 (by decide +kernel)
theorem wk_1008 : Cond.instanceMethod yX7_setLimits ∈ ho_TB := ho_mk 1367 (by decide +kernel)
theorem wk_1009 : Cond.selects RX7 yX7_setLimits yX7_setLimits ∈ ho_TB := ho_mk 1368 (by decide +kernel)
theorem wk_1010 : Cond.code yX7_setLimits cX7_setLimits 4 (some .int) ∈ ho_TB := ho_mk 1369 (by decide +kernel)
theorem wk_1011 : Cond.methodLink RL 206 yL_confirm ∈ ho_TB := ho_mk 828 (by decide +kernel)
theorem wk_1012 : Cond.static yL_confirm ∈ ho_TB := ho_mk 829 (by decide +kernel)
theorem wk_1013 : Cond.codeWith yL_confirm cL_confirm 5 (some .int) hL_confirm ∈ ho_TB := ho_mk 830 (by decide +kernel)
theorem wk_1014 : Cond.methodLink RL 208 yX7_confirm ∈ ho_TB := ho_mk 1370 (by decide +kernel)
theorem wk_1015 : Cond.instanceMethod yX7_confirm ∈ ho_TB := ho_mk 1371 (by decide +kernel)
theorem wk_1016 : Cond.selects RX7 yX7_confirm yX7_confirm ∈ ho_TB := ho_mk 1372 (by decide +kernel)
theorem wk_1017 : Cond.code yX7_confirm cX7_confirm 3 (some .int) ∈ ho_TB := ho_mk 1373 (by decide +kernel)
theorem wk_1018 : Cond.methodLink RL 209 yL_fill ∈ ho_TB := ho_mk 875 (by decide +kernel)
theorem wk_1019 : Cond.static yL_fill ∈ ho_TB := ho_mk 876 (by decide +kernel)
theorem wk_1020 : Cond.codeWith yL_fill cL_fill 4 (some .int) hL_fill ∈ ho_TB := ho_mk 877 (by decide +kernel)
theorem wk_1021 : Cond.methodLink RL 211 yX7_fill ∈ ho_TB := ho_mk 1390 (by decide +kernel)
theorem wk_1022 : Cond.instanceMethod yX7_fill ∈ ho_TB := ho_mk 1391 (by decide +kernel)
theorem wk_1023 : Cond.selects RX7 yX7_fill yX7_fill ∈ ho_TB := ho_mk 1392 (by decide +kernel)
theorem wk_1024 : Cond.code yX7_fill cX7_fill 6 (some .int) ∈ ho_TB := ho_mk 1393 (by decide +kernel)
theorem wk_1025 : Cond.methodLink RL 212 yL_isStale ∈ ho_TB := ho_mk 890 (by decide +kernel)
theorem wk_1026 : Cond.static yL_isStale ∈ ho_TB := ho_mk 891 (by decide +kernel)
theorem wk_1027 : Cond.codeWith yL_isStale cL_isStale 5 (some .int) hL_isStale ∈ ho_TB := ho_mk 892 (by decide +kernel)
theorem wk_1028 : Cond.methodLink RL 214 yX7_isStale ∈ ho_TB := ho_mk 1402 (by decide +kernel)
theorem wk_1029 : Cond.instanceMethod yX7_isStale ∈ ho_TB := ho_mk 1403 (by decide +kernel)
theorem wk_1030 : Cond.selects RX7 yX7_isStale yX7_isStale ∈ ho_TB := ho_mk 1404 (by decide +kernel)
theorem wk_1031 : Cond.code yX7_isStale cX7_isStale 3 (some .boolean) ∈ ho_TB := ho_mk 1405 (by decide +kernel)
theorem wk_1032 : Cond.methodLink RL 215 yL_memory ∈ ho_TB := ho_mk 901 (by decide +kernel)
theorem wk_1033 : Cond.static yL_memory ∈ ho_TB := ho_mk 902 (by decide +kernel)
theorem wk_1034 : Cond.codeWith yL_memory cL_memory 4 (some .int) hL_memory ∈ ho_TB := ho_mk 903 (by decide +kernel)
theorem wk_1035 : Cond.methodLink RL 217 yX7_memory ∈ ho_TB := ho_mk 1406 (by decide +kernel)
theorem wk_1036 : Cond.instanceMethod yX7_memory ∈ ho_TB := ho_mk 1407 (by decide +kernel)
theorem wk_1037 : Cond.selects RX7 yX7_memory yX7_memory ∈ ho_TB := ho_mk 1408 (by decide +kernel)
theorem wk_1038 : Cond.code yX7_memory cX7_memory 2 (some .int) ∈ ho_TB := ho_mk 1409 (by decide +kernel)
theorem wk_1039 : Cond.methodLink RL 218 yL_broken ∈ ho_TB := ho_mk 908 (by decide +kernel)
theorem wk_1040 : Cond.static yL_broken ∈ ho_TB := ho_mk 909 (by decide +kernel)
theorem wk_1041 : Cond.codeWith yL_broken cL_broken 5 (some .int) hL_broken ∈ ho_TB := ho_mk 910 (by decide +kernel)
theorem wk_1042 : Cond.methodLink RL 220 yX7_broken ∈ ho_TB := ho_mk 1410 (by decide +kernel)
theorem wk_1043 : Cond.instanceMethod yX7_broken ∈ ho_TB := ho_mk 1411 (by decide +kernel)
theorem wk_1044 : Cond.selects RX7 yX7_broken yX7_broken ∈ ho_TB := ho_mk 1412 (by decide +kernel)
theorem wk_1045 : Cond.code yX7_broken cX7_broken 3 (some .int) ∈ ho_TB := ho_mk 1413 (by decide +kernel)
theorem wk_1046 : Cond.methodLink RL 221 yL_letGo ∈ ho_TB := ho_mk 943 (by decide +kernel)
theorem wk_1047 : Cond.static yL_letGo ∈ ho_TB := ho_mk 944 (by decide +kernel)
theorem wk_1048 : Cond.codeWith yL_letGo cL_letGo 7 (some .int) hL_letGo ∈ ho_TB := ho_mk 945 (by decide +kernel)
theorem wk_1049 : Cond.methodLink RL 223 yX7_letGo ∈ ho_TB := ho_mk 1434 (by decide +kernel)
theorem wk_1050 : Cond.instanceMethod yX7_letGo ∈ ho_TB := ho_mk 1435 (by decide +kernel)
theorem wk_1051 : Cond.selects RX7 yX7_letGo yX7_letGo ∈ ho_TB := ho_mk 1436 (by decide +kernel)
theorem wk_1052 : Cond.code yX7_letGo cX7_letGo 7 (some .int) ∈ ho_TB := ho_mk 1437 (by decide +kernel)
theorem wk_1053 : Cond.methodLink RL 224 yL_nameOf ∈ ho_TB := ho_mk 956 (by decide +kernel)
theorem wk_1054 : Cond.static yL_nameOf ∈ ho_TB := ho_mk 957 (by decide +kernel)
theorem wk_1055 : Cond.codeWith yL_nameOf cL_nameOf 6 (some .int) hL_nameOf ∈ ho_TB := ho_mk 958 (by decide +kernel)
theorem wk_1056 : Cond.methodLink RL 226 yX7_nameOf ∈ ho_TB := ho_mk 1438 (by decide +kernel)
theorem wk_1057 : Cond.instanceMethod yX7_nameOf ∈ ho_TB := ho_mk 1439 (by decide +kernel)
theorem wk_1058 : Cond.selects RX7 yX7_nameOf yX7_nameOf ∈ ho_TB := ho_mk 1440 (by decide +kernel)
theorem wk_1059 : Cond.code yX7_nameOf cX7_nameOf 4 (some .int) ∈ ho_TB := ho_mk 1441 (by decide +kernel)
theorem wk_1060 : Cond.methodLink RL 227 yL_faults ∈ ho_TB := ho_mk 963 (by decide +kernel)
theorem wk_1061 : Cond.static yL_faults ∈ ho_TB := ho_mk 964 (by decide +kernel)
theorem wk_1062 : Cond.codeWith yL_faults cL_faults 4 (some .int) hL_faults ∈ ho_TB := ho_mk 965 (by decide +kernel)
theorem wk_1063 : Cond.methodLink RL 229 yX7_faults ∈ ho_TB := ho_mk 1442 (by decide +kernel)
theorem wk_1064 : Cond.instanceMethod yX7_faults ∈ ho_TB := ho_mk 1443 (by decide +kernel)
theorem wk_1065 : Cond.selects RX7 yX7_faults yX7_faults ∈ ho_TB := ho_mk 1444 (by decide +kernel)
theorem wk_1066 : Cond.code yX7_faults cX7_faults 6 (some .int) ∈ ho_TB := ho_mk 1445 (by decide +kernel)
theorem wk_1067 : Cond.methodLink RL 230 yL_written ∈ ho_TB := ho_mk 980 (by decide +kernel)
theorem wk_1068 : Cond.static yL_written ∈ ho_TB := ho_mk 981 (by decide +kernel)
theorem wk_1069 : Cond.codeWith yL_written cL_written 5 (some .int) hL_written ∈ ho_TB := ho_mk 982 (by decide +kernel)
theorem wk_1070 : Cond.methodLink RL 232 yX7_written ∈ ho_TB := ho_mk 1446 (by decide +kernel)
theorem wk_1071 : Cond.instanceMethod yX7_written ∈ ho_TB := ho_mk 1447 (by decide +kernel)
theorem wk_1072 : Cond.selects RX7 yX7_written yX7_written ∈ ho_TB := ho_mk 1448 (by decide +kernel)
theorem wk_1073 : Cond.code yX7_written cX7_written 3 (some .int) ∈ ho_TB := ho_mk 1449 (by decide +kernel)
theorem wk_1074 : Cond.methodLink RL 233 yL_writtenChar ∈ ho_TB := ho_mk 1042 (by decide +kernel)
theorem wk_1075 : Cond.static yL_writtenChar ∈ ho_TB := ho_mk 1043 (by decide +kernel)
theorem wk_1076 : Cond.codeWith yL_writtenChar cL_writtenChar 6 (some .int) hL_writtenChar ∈ ho_TB := ho_mk 1044 (by decide +kernel)
theorem wk_1077 : Cond.methodLink RL 235 yX7_writtenChar ∈ ho_TB := ho_mk 1488 (by decide +kernel)
theorem wk_1078 : Cond.instanceMethod yX7_writtenChar ∈ ho_TB := ho_mk 1489 (by decide +kernel)
theorem wk_1079 : Cond.selects RX7 yX7_writtenChar yX7_writtenChar ∈ ho_TB := ho_mk 1490 (by decide +kernel)
theorem wk_1080 : Cond.code yX7_writtenChar cX7_writtenChar 4 (some .char) ∈ ho_TB := ho_mk 1491 (by decide +kernel)
theorem ho_l64 {a : Int} (h : ho_in a) : (Int64.ofInt a).toInt = a := by
  unfold ho_in at h
  rw [Int64.toInt_ofInt, Int.bmod_def]
  simp only [Int64.size]
  split <;> omega
theorem ho_lcmp0 {a b : Int} (ha : ho_in a) (hb : ho_in b) : lg_cmp (Int64.ofInt a) (Int64.ofInt b) = 0 ↔ a = b := by
  unfold lg_cmp
  simp only [gt_iff_lt, Int64.lt_iff_toInt_lt, ← Int64.toInt_inj, ho_l64 ha, ho_l64 hb]
  by_cases h1 : b < a
  · rw [if_pos h1]
    exact ⟨fun h => absurd h (by decide), fun h => by omega⟩
  · rw [if_neg h1]
    by_cases h2 : a = b
    · rw [if_pos h2]; exact ⟨fun _ => h2, fun _ => rfl⟩
    · rw [if_neg h2]; exact ⟨fun h => absurd h (by decide), fun h => absurd h h2⟩
def ho_b01 (a : Int) : Int := if a = 0 then 0 else 1
def ho_scr (xs : Nat → Int32) (L : Nat) (C : ho_Cx) : Prop := match C with
  | (p, l, e, R, s, m, args, below, meth, c, dC, dI, cA, ad, A, Q, X, ρ, Qf, nc, ns) => ho_nc9 s ∧ va_X (ad 60) L xs s s.heap ∧ ad 60 < s.heap.size ∧ ¬ A (ad 60)
abbrev iLaw (xs : Nat → Int32) (L : Nat) : ho_I := (RL, cL_law, 7, 12, 440, ret, (fun _ => True), ho_scr xs L)
def ho_up1 (C : ho_Cx) : ho_Cx := match C with
  | (p, l, e, R, s, m, args, below, meth, c, dC, dI, cA, ad, A, Q, X, ρ, Qf, nc, ns) => (p, l, e, R, s, m, args, below, meth, c, dC, dI, cA, ad, A, Q, X, ρ, Qf, nc + 1, ns + 6)
section
variable {mi : ho_I} {ρ : Nat} {T T' T'' Ta : List Nat} {τ d pc p1 p2 p3 p4 pc' : Nat} {xs : Nat → Int32} {L : Nat}
/-- an int of the script -/
def eS (xs : Nat → Int32) (L : Nat) (g : ho_E) : ho_E := fun v σ K X => g v σ (fun i σ => (0 ≤ i ∧ i < (L : Int)) ∧ K (xs i.toNat).toInt σ) X
theorem se_scr {g : ho_E} (h0 : T[0]? = some 99) (hz : mi.2.2.2.2.2.2.2 = ho_scr xs L) (hd0 : decode mi.2.1 pc = .ok (.aload_n 0, 1)) (h2 : ho_SE mi T 0 (d + 1) (pc + 1) p2 g) (hd : decode mi.2.1 p2 = .ok (.iaload, 1)) : ho_SE mi T 0 d pc (p2 + 1) (eS xs L g) := by
  intro C hC v σ st K hf hst hT hσ kk
  have h1 : ho_SE mi T 99 d pc (pc + 1) (eV 0) := se_aload_n (τ := 98) h0 rfl hd0
  have hv0 : v.getD 0 0 = 60 := by
    have h9 := ho_typ_get hT h0
    unfold ho_typ at h9
    rw [if_neg (by omega)] at h9
    rcases h9 with h9 | h9
    · exact h9.2
    · have h8 : ((List.range 55).all fun k => decide (ho_T k < 98)) = true := by decide +kernel
      have h7 := List.all_eq_true.mp h8 _ (List.mem_range.mpr h9.2.1)
      simp only [decide_eq_true_eq] at h7
      omega
  refine h1 C hC v σ st (fun x σ' => x = 60 ∧ σ' = σ) ⟨hv0, rfl⟩ hst hT hσ fun x σ' hKx hx hσ' => ?_
  obtain ⟨rfl, rfl⟩ := hKx
  refine h2 C hC v σ' _ _ hf (by simp only [ho_cs, List.map_cons, List.sum_cons, ho_cat] at hst ⊢; omega) hT hσ fun i σ hKi hi hσ => ?_
  obtain ⟨p, l, e, R, s, m, args, below, meth, c, dC, dI, cA, ad, A, Q, X, ρ9, Qf, nc, ns⟩ := C
  obtain ⟨he, hb, hm, ho, hts, hK, hA, hZ, hfr9, hlo9, hRc, hRs, hlk, hst0, hexc, hret, hqr, hzz⟩ := id hC
  intro hT hσ H locs ls hl hP hD hS
  rw [hz] at hzz
  obtain ⟨hn, hX, hbl, hbA⟩ := hzz
  have hi : ho_in i := hi
  refine W.eq (g2 := F0 m p2 ls (.int (Int32.ofInt i) :: .ref (ad 60) :: st)) rfl ?_
  refine va_sld he hb hX hbl hbA hS (ho_vpin hi hKi.1.1 hKi.1.2) hd ?_
  rw [ho_clamp hi]
  have h9 := kk _ σ hKi.2 (ho_ti_in _) hσ hT hσ H locs ls hl hP hD hS
  have e9 : ho_val ad 0 (xs i.toNat).toInt = .int (xs i.toNat) := by unfold ho_val; rw [if_pos rfl, ho_oi]
  rw [show ho_val (ho_ad _) 0 (xs i.toNat).toInt = .int (xs i.toNat) from e9] at h9
  exact h9
/-- the script's length -/
theorem se_slen (h0 : T[0]? = some 99) (hL : L ≤ 2560) (hz : mi.2.2.2.2.2.2.2 = ho_scr xs L) (hd0 : decode mi.2.1 pc = .ok (.aload_n 0, 1)) (hd : decode mi.2.1 (pc + 1) = .ok (.arraylength, 1)) : ho_SE mi T 0 d pc (pc + 2) (eC (L : Int)) := by
  intro C hC v σ st K hf hst hT hσ kk
  have h1 : ho_SE mi T 99 d pc (pc + 1) (eV 0) := se_aload_n (τ := 98) h0 rfl hd0
  have hv0 : v.getD 0 0 = 60 := by
    have h9 := ho_typ_get hT h0
    unfold ho_typ at h9
    rw [if_neg (by omega)] at h9
    rcases h9 with h9 | h9
    · exact h9.2
    · have h8 : ((List.range 55).all fun k => decide (ho_T k < 98)) = true := by decide +kernel
      have h7 := List.all_eq_true.mp h8 _ (List.mem_range.mpr h9.2.1)
      simp only [decide_eq_true_eq] at h7
      omega
  refine h1 C hC v σ st (fun x σ' => x = 60 ∧ σ' = σ) ⟨hv0, rfl⟩ hst hT hσ fun x σ' hKx hx hσ' => ?_
  obtain ⟨rfl, rfl⟩ := hKx
  obtain ⟨p, l, e, R, s, m, args, below, meth, c, dC, dI, cA, ad, A, Q, X, ρ9, Qf, nc, ns⟩ := C
  obtain ⟨he, hb, hm, ho, hts, hK, hA, hZ, hfr9, hlo9, hRc, hRs, hlk, hst0, hexc, hret, hqr, hzz⟩ := id hC
  intro hT hσ H locs ls hl hP hD hS
  rw [hz] at hzz
  obtain ⟨hn, hX, hbl, hbA⟩ := hzz
  refine W.eq (g2 := F0 m (pc + 1) ls (.ref (ad 60) :: st)) rfl ?_
  refine va_slen he hb hX hbl hbA hS hd ?_
  exact kk _ σ' hf (by show ho_in _; unfold ho_in; omega) hσ hT hσ H locs ls hl hP hD hS
/-- a call of a wrapper: one more cell, of six slots, may be there -/
theorem ho_wcall {M : ho_M} {as : ho_A} {y : MethodName} {bytes : ByteArray} {mL fr lo idx : Nat} {hh : List (Nat × Nat × Nat × Nat)} (hM : ho_MetW y bytes mL hh fr lo Ta M) (ha : ho_SA mi T Ta 0 pc p1 as) (hd : decode mi.2.1 p1 = .ok (.invokestatic idx, 3)) (w1 : Cond.methodLink mi.1 idx y ∈ ho_TB) (w2 : Cond.static y ∈ ho_TB) (w3 : Cond.initialized y.cls ∈ ho_TB) (w4 : Cond.codeWith y bytes mL (some .int) hh ∈ ho_TB) (hy : ho_yok y Ta.length) (hfr : fr + 1 ≤ mi.2.2.2.1) (hlo : 8 + (mL + 11) + lo ≤ mi.2.2.2.2.1) (hz : mi.2.2.2.2.2.2.2 = ho_scr xs L)
    {C : ho_Cx} (hC : ho_ok C mi) {v : List Int} {σ : ho_S} {K : ho_K} (hf : as v σ (fun l σ => M l σ K (fun _ _ => False)) (ho_X' C)) (hT : ho_ty T v) (hσ : ho_rng σ) (kk : ∀ (x : Int) (σ' : ho_S), K x σ' → ho_in x → ho_rng σ' → ho_P (ho_up1 C) (p1 + 3) T v [ho_val (ho_ad C) 0 x] σ') : ho_P C pc T v [] σ := by
  refine ha C hC v σ [] _ hf (Nat.zero_le _) hT hσ fun a σ hKa hta hσ => ?_
  obtain ⟨p, l, e, R, s, m, args, below, meth, c, dC, dI, cA, ad, A, Q, X, ρ9, Qf, nc, ns⟩ := C
  obtain ⟨he, hb, hm, ho, hts, hK, hA, hZ, hfr9, hlo9, hRc, hRs, hlk, hst0, hexc, hret, hqr, hzz⟩ := id hC
  intro hT hσ H locs ls hl hP hD hS
  rw [hz] at hzz
  obtain ⟨hn, -⟩ := hzz
  have hMl := hM l dC dI cA ad A a σ K hst0 hta hσ hKa
  have hG : GoodIn ho_TB (va_wsS mi.1 idx y (Cond.codeWith y bytes mL (some .int) hh :: ho_TB)) := by
    intro q hq
    unfold va_wsS at hq
    rcases List.mem_append.mp hq with h | h
    · simp only [List.mem_cons, List.not_mem_nil, or_false] at h
      rcases h with rfl | rfl | rfl
      · exact ⟨w1, ho_good w1⟩
      · exact ⟨w2, ho_good w2⟩
      · exact ⟨w3, ho_good w3⟩
    · exact ho_goodIn w4 q h
  have cw := vx_cwSW (R := R) (s := s) (args := args) (ws := Cond.codeWith y bytes mL (some .int) hh :: ho_TB) (rm := { frames := fr, cells := 1, slots := 6, locals := lo }) (mc := 1) (ms := 6) Ta.length hts hG rfl rfl rfl hy ⟨Nat.le_trans hfr hfr9, Nat.le_trans hlo hlo9⟩
  have hbl : FrameBlind (fun v U => ho_Pc dC dI cA ad A Ta a σ v U ∧ ho_nc9 U) := fun v U g mk h => ⟨ho_blind v U g mk h.1, fun q hq => va_Nc.moved (u := U) (U := U.calling g mk v) (Vm.Alike.refl U.vm) (h.2 q hq)⟩
  have hrun := vx_runSW (p := p) (l := l) (e := e) (R := R) (below := below) (meth := meth) (H := H) (locs := locs) (cells := nc) (slots := ns) (As := ho_vals ad Ta a) (rest := []) (g := F0 m p1 ls ((ho_vals ad Ta a).reverse ++ [])) ⟨he, hb, hm, ho, hts⟩ hMl cw ⟨hbl, fun U hU hW => ⟨ho_pre hA hS hP hK hD hZ hU hW, fun q hq => va_Nc.moved hW.alike (hn q hq)⟩⟩ rfl (by simp [ho_vals, hta.1]) (hl.1.trans hm) rfl (by show 2 * 0 + 0 ≤ 8; omega) hd ⟨hRc, hRs⟩
  intro T9 hT9 X9
  obtain ⟨r, st₀, t, T', L9, h0, X', hL9, e1, e2, hq, st⟩ := hrun T9 hT9 X9
  obtain ⟨x, σ', hr9, hKx, hx, ⟨hσ', hP', hD'⟩, hF⟩ := hq
  cases hr9
  have hk9 := vx_keep (st₀ := st₀) h0 e1 hS (fun _ _ h => h) (fun _ h => h) hL9 hF
  obtain ⟨t2, a1, b1⟩ := kk x σ' hKx (hx.resolve_left (by omega)) hσ' hT hσ' T'.heap (locs ++ L9) ls hl (by rw [e1]; exact hP') hD' hk9.2.2 T' rfl X'
  exact ⟨t2, st t2 a1, b1⟩
theorem ho_wid {C : ho_Cx} {pc : Nat} {v : List Int} {st : List Value} {σ : ho_S} (k : ho_P (ho_up1 C) pc T v st σ) : ho_P C pc T v st σ := by
  obtain ⟨p, l, e, R, s, m, args, below, meth, c, dC, dI, cA, ad, A, Q, X, ρ9, Qf, nc, ns⟩ := C
  intro hT hσ H locs ls hl hP hD hS
  exact W.widen (Nat.le_succ _) (Nat.le_add_right _ _) (k hT hσ H locs ls hl hP hD hS)
/-- out[0] against a number -/
theorem sc_lng {g : ho_E} {off : Int} {tgt : Nat} {f h : ho_E} (hf : ho_SE mi T 4 d pc p1 f) (hg : ho_SE mi T 0 (d + 1) p1 p2 g) (hd1 : decode mi.2.1 p2 = .ok (.laload, 1)) (hh : ho_SE mi T 0 (d + 2) (p2 + 1) p3 h) (hd2 : decode mi.2.1 p3 = .ok (.i2l, 1)) (hd3 : decode mi.2.1 (p3 + 1) = .ok (.lcmp, 1)) (hd4 : decode mi.2.1 (p3 + 2) = .ok (.ifCond .eq off, 3)) (ht : ((p3 + 2 : Nat) : Int) + off = (tgt : Int)) : ho_SC mi T d pc (p3 + 5) tgt (cNe (eI f g) h) := by
  intro C hC v σ st Kt Kf hK hst hT hσ kt kf
  refine hf C hC v σ st _ hK hst hT hσ fun r σ hKr hr9 hσ => ?_
  obtain ⟨hx0, hx1, hx2⟩ := ho_typS hr9 (by omega)
  refine hg C hC v σ _ _ hKr (by simp only [ho_cs, List.map_cons, List.sum_cons, ho_cat] at hst ⊢; omega) hT hσ fun i σ hKi hi hσ => ?_
  obtain ⟨⟨hi0, hi1⟩, hKi⟩ := hKi
  have hi : ho_in i := hi
  obtain ⟨a, ha⟩ : ∃ a : Int, a = σ r.toNat i.toNat := ⟨_, rfl⟩
  have hain : ho_in a := by rw [ha]; exact hσ _ _
  have kk : ho_P C (p2 + 1) T v (.long (Int64.ofInt a) :: st) σ := by
    rw [← ha] at hKi
    refine hh C hC v σ _ _ hKi (by simp only [ho_cs, List.map_cons, List.sum_cons] at hst ⊢; show 2 + _ ≤ _; omega) hT hσ fun b σ hKb hb9 hσ => ?_
    have hb9 : ho_in b := hb9
    refine ho_i2lP hC hb9 hd2 ?_
    have h1 := fun q => kt σ (hKb.1 q) hσ
    have h2 := fun q => kf σ (hKb.2 q) hσ
    obtain ⟨p, l, e, R, s, m, args, below, meth, c, dC, dI, cA, ad, A, Q, X, ρ9, Qf, nc, ns⟩ := C
    obtain ⟨he, hb, hm, ho, hts, hK, hA, hZ, hfr9, hlo9, hRc, hRs, hlk, hst0, hexc, hret, hqr, hzz⟩ := id hC
    intro hT hσ H locs ls hl hP hD hS
    refine W.eq (g2 := F0 m (p3 + 1) ls (.long (Int64.ofInt b) :: .long (Int64.ofInt a) :: st)) rfl ?_
    refine W.lcmp he hb hd3 ?_
    refine lv_if_eq he hb hd4 ht (fun q => ?_) (fun q => ?_)
    · exact h2 ((ho_lcmp0 hain hb9).mp q) hT hσ H locs ls hl hP hD hS
    · exact h1 (fun z => q ((ho_lcmp0 hain hb9).mpr z)) hT hσ H locs ls hl hP hD hS
  obtain ⟨p, l, e, R, s, m, args, below, meth, c, dC, dI, cA, ad, A, Q, X, ρ9, Qf, nc, ns⟩ := C
  obtain ⟨he, hb, hm, ho, hts, hK, hA, hZ, hfr9, hlo9, hRc, hRs, hlk, hst0, hexc, hret, hqr, hzz⟩ := id hC
  intro hT hσ H locs ls hl hP hD hS
  have hg := ho_W_get (cA := cA) (ad := ad) (σ := σ) hx1
  rw [ho_ce_lng (by omega)] at hg
  refine W.eq (g2 := F0 m p2 ls (.int (Int32.ofInt i) :: .ref (ad r.toNat) :: st)) rfl ?_
  refine va_lald (D := (dC, dI)) (cl := vwCl) (tys := ho_tys cA) (ws := ho_W cA ad σ) he hb hK hP r.toNat 3 hg rfl (i := Int32.ofInt i) (ho_vpin hi hi0 hi1) hd1 ?_
  rw [ho_clamp hi, ← ha]
  exact kk hT hσ H locs ls hl hP hD hS
/-- out[0] against (b ? 1L : 0L) -/
theorem sc_lngz {g : ho_E} {off : Int} {tgt : Nat} {f h : ho_E} (hf : ho_SE mi T 4 d pc p1 f) (hg : ho_SE mi T 0 (d + 1) p1 p2 g) (hd1 : decode mi.2.1 p2 = .ok (.laload, 1)) (hh : ho_SE mi T 0 (d + 2) (p2 + 1) p3 h) {o1 o2 : Int} {t1 t2 : Nat} (hd2 : decode mi.2.1 p3 = .ok (.ifCond .eq o1, 3)) (ht1 : (p3 : Int) + o1 = (t1 : Int)) (hd6 : decode mi.2.1 (p3 + 3) = .ok (.lconst 1, 1)) (hd7 : decode mi.2.1 (p3 + 4) = .ok (.goto o2, 3)) (ht2 : ((p3 + 4 : Nat) : Int) + o2 = (t2 : Int)) (hd8 : decode mi.2.1 t1 = .ok (.lconst 0, 1)) (ht3 : t1 + 1 = t2) (hd3 : decode mi.2.1 t2 = .ok (.lcmp, 1)) (hd4 : decode mi.2.1 (t2 + 1) = .ok (.ifCond .eq off, 3)) (ht : ((t2 + 1 : Nat) : Int) + off = (tgt : Int)) : ho_SC mi T d pc (t2 + 4) tgt (cNe (eI f g) (eU ho_b01 h)) := by
  intro C hC v σ st Kt Kf hK hst hT hσ kt kf
  refine hf C hC v σ st _ hK hst hT hσ fun r σ hKr hr9 hσ => ?_
  obtain ⟨hx0, hx1, hx2⟩ := ho_typS hr9 (by omega)
  refine hg C hC v σ _ _ hKr (by simp only [ho_cs, List.map_cons, List.sum_cons, ho_cat] at hst ⊢; omega) hT hσ fun i σ hKi hi hσ => ?_
  obtain ⟨⟨hi0, hi1⟩, hKi⟩ := hKi
  have hi : ho_in i := hi
  obtain ⟨a, ha⟩ : ∃ a : Int, a = σ r.toNat i.toNat := ⟨_, rfl⟩
  have hain : ho_in a := by rw [ha]; exact hσ _ _
  have kk : ho_P C (p2 + 1) T v (.long (Int64.ofInt a) :: st) σ := by
    rw [← ha] at hKi
    refine hh C hC v σ _ _ hKi (by simp only [ho_cs, List.map_cons, List.sum_cons] at hst ⊢; show 2 + _ ≤ _; omega) hT hσ fun b σ hKb hb9 hσ => ?_
    have hb9 : ho_in b := hb9
    have h1 := fun q => kt σ (hKb.1 q) hσ
    have h2 := fun q => kf σ (hKb.2 q) hσ
    have go : ∀ b9 : Int, b9 = ho_b01 b → ho_P C t2 T v (.long (Int64.ofInt b9) :: .long (Int64.ofInt a) :: st) σ := by
      intro b9 hb0
      have hb8 : ho_in b9 := by rw [hb0]; unfold ho_in ho_b01; split <;> omega
      rw [← hb0] at h1 h2
      obtain ⟨p, l, e, R, s, m, args, below, meth, c, dC, dI, cA, ad, A, Q, X, ρ9, Qf, nc, ns⟩ := C
      obtain ⟨he, hb, hm, ho, hts, hK, hA, hZ, hfr9, hlo9, hRc, hRs, hlk, hst0, hexc, hret, hqr, hzz⟩ := id hC
      intro hT hσ H locs ls hl hP hD hS
      refine W.lcmp he hb hd3 ?_
      refine lv_if_eq he hb hd4 ht (fun q => ?_) (fun q => ?_)
      · exact h2 ((ho_lcmp0 hain hb8).mp q) hT hσ H locs ls hl hP hD hS
      · exact h1 (fun z => q ((ho_lcmp0 hain hb8).mpr z)) hT hσ H locs ls hl hP hD hS
    refine ho_ifeq hC hb9 hd2 ht1 (fun q => ?_) (fun q => ?_)
    · refine ho_lconst (x := 0) hC (by decide) hd8 ?_
      rw [ht3]
      exact go 0 (by unfold ho_b01; rw [if_pos q])
    · refine ho_lconst (x := 1) hC (by decide) hd6 (ho_go hC hd7 ht2 ?_)
      exact go 1 (by unfold ho_b01; rw [if_neg q])
  obtain ⟨p, l, e, R, s, m, args, below, meth, c, dC, dI, cA, ad, A, Q, X, ρ9, Qf, nc, ns⟩ := C
  obtain ⟨he, hb, hm, ho, hts, hK, hA, hZ, hfr9, hlo9, hRc, hRs, hlk, hst0, hexc, hret, hqr, hzz⟩ := id hC
  intro hT hσ H locs ls hl hP hD hS
  have hg := ho_W_get (cA := cA) (ad := ad) (σ := σ) hx1
  rw [ho_ce_lng (by omega)] at hg
  refine W.eq (g2 := F0 m p2 ls (.int (Int32.ofInt i) :: .ref (ad r.toNat) :: st)) rfl ?_
  refine va_lald (D := (dC, dI)) (cl := vwCl) (tys := ho_tys cA) (ws := ho_W cA ad σ) he hb hK hP r.toNat 3 hg rfl (i := Int32.ofInt i) (ho_vpin hi hi0 hi1) hd1 ?_
  rw [ho_clamp hi, ← ha]
  exact kk hT hσ H locs ls hl hP hD hS
end
theorem ho_up1_X {C : ho_Cx} : ho_X' (ho_up1 C) = ho_X' C := rfl
theorem ho_up1_Q {C : ho_Cx} : ho_Q' (ho_up1 C) = ho_Q' C := rfl
theorem ho_up1_ad {C : ho_Cx} : ho_ad (ho_up1 C) = ho_ad C := rfl
/-- k's store -/
theorem lw_st {mi : ho_I} {C : ho_Cx} {pc : Nat} {T : List Nat} {v : List Int} {σ : ho_S} {x : Int} {i : Nat} (hC : ho_ok (ho_up1 C) mi) (hx : ho_in x) (hT : ho_ty T v) (hσ : ho_rng σ) (hn : T.length < mi.2.2.1) (hd : decode mi.2.1 pc = .ok (.istore i, 2)) (k : ho_ty (T ++ [0]) (v ++ [x]) → ho_P (ho_up1 C) (pc + 2) (T ++ [0]) (v ++ [x]) [] σ) (hi : T.length = i := by rfl) : ho_P (ho_up1 C) pc T v [ho_val (ho_ad C) 0 x] σ := by
  have hT2 : ho_ty (T ++ [0]) (v ++ [x]) := ho_ty_app hT hx
  have kk := k hT2
  obtain ⟨p, l, e, R, s, m, args, below, meth, c, dC, dI, cA, ad, A, Q, X, ρ9, Qf, nc, ns⟩ := C
  obtain ⟨he, hb, hm, ho, hts, hK, hA, hZ, hfr9, hlo9, hRc, hRs, hlk, hst0, hexc, hret, hqr, hzz⟩ := id hC
  intro hT hσ H locs ls hl hP hD hS
  subst hi
  have hh := ho_ls_has hl hT
  refine W.eq (g2 := F0 m pc ls [.int (Int32.ofInt x)]) rfl ?_
  refine lv_istore he hb hd hh (by rw [hm]; exact hn) rfl (fun ls' hl' => ?_)
  exact kk hT2 hσ H locs ls' (ho_ls_set (τ := 0) (x := x) hT hl' (fun j t y h1 h2 => ho_app_at hT j t y h1 h2)) hP hD hS
def lr_addShot (xs : Nat → Int32) (L : Nat) : ho_Z := (zB 5 (zS (zD (eK mX7_addShot (aC (eV 2) (aC (eS xs L (eB ho_oadd (eV 4) (eC 1))) aN)))) (zS (zC (cNe (eK mX7_thrown (aC (eV 2) aN)) (eV 5)) (zRZ (eC 0)) zN) (zC (cAnd (cEq (eV 5) (eC 0)) (cNe (eI (eV 3) (eC 0)) (eV 6))) (zRZ (eC 0)) zN))))
def la_addShot (xs : Nat → Int32) (L : Nat) : ho_A := (aC (eV 1) (aC (eS xs L (eB ho_oadd (eV 4) (eC 1))) (aC (eV 3) aN)))
def lf_addShot (xs : Nat → Int32) (L : Nat) : List Int → ho_S → (List Int → ho_S → Prop) → Prop := fun v σ K => la_addShot xs L v σ (fun l σ => mL_addShot l σ (fun k σ => lr_addShot xs L (v ++ [k]) σ K (fun _ _ => False) (fun _ _ => False)) (fun _ _ => False)) (fun _ _ => False)
set_option maxRecDepth 20000 in
theorem lk_addShot {xs : Nat → Int32} {L : Nat} {C : ho_Cx} (hC : ho_ok C (iLaw xs L)) (hC1 : ho_ok (ho_up1 C) (iLaw xs L)) (hr : ho_ro C = 1) (hX : ho_X' C = fun _ _ => False) (hQ : ho_Q' C = fun _ _ => False) {v : List Int} {σ : ho_S} {K : List Int → ho_S → Prop} (hf : lf_addShot xs L v σ K) (hT : ho_ty [99, 11, 12, 4, 0] v) (hσ : ho_rng σ) (kk : ∀ v' σ', K v' σ' → ho_ty [99, 11, 12, 4, 0] v' → ho_rng σ' → ho_P (ho_up1 C) 2416 [99, 11, 12, 4, 0] v' [] σ') : ho_P C 188 [99, 11, 12, 4, 0] v [] σ := by
  have ha : ho_SA (iLaw xs L) [99, 11, 12, 4, 0] [11, 0, 4] 0 188 196 (la_addShot xs L) := (sa_cons (se_aload_n rfl rfl dL_law_188) (sa_cons (se_scr rfl rfl dL_law_189 (se_iadd (se_iload rfl dL_law_190) (se_iconst dL_law_192 rfl) dL_law_193) dL_law_194) (sa_cons (se_aload_n rfl rfl dL_law_195) sa_nil)))
  have s0 : ho_SS (iLaw xs L) 1 [99, 11, 12, 4, 0, 0] [99, 11, 12, 4, 0, 0, 0] 201 _ _ := ss_decl (se_callV kX7_addShot (sa_cons (se_aload_n rfl rfl dL_law_201) (sa_cons (se_scr rfl rfl dL_law_202 (se_iadd (se_iload rfl dL_law_203) (se_iconst dL_law_205 rfl) dL_law_206) dL_law_207) sa_nil)) dL_law_208 wk_840 wk_841 wk_842 hcX7 wk_478 wk_843 ykX7_addShot (Nat.le_of_ble_eq_true rfl) (Nat.le_of_ble_eq_true rfl) (Nat.le_of_ble_eq_true rfl) trivial) rfl (Nat.le_of_ble_eq_true rfl) dL_law_211
  have s1 : ho_SS (iLaw xs L) 1 [99, 11, 12, 4, 0, 0, 0] [99, 11, 12, 4, 0, 0, 0] _ _ _ := ss_if (sc_NeN (tgt := 224) (se_callV kX7_thrown (sa_cons (se_aload_n rfl rfl dL_law_213) sa_nil) dL_law_214 wk_844 wk_845 wk_846 hcX7 wk_478 wk_847 ykX7_thrown (Nat.le_of_ble_eq_true rfl) (Nat.le_of_ble_eq_true rfl) (Nat.le_of_ble_eq_true rfl) trivial) (se_iload rfl dL_law_217) dL_law_219 rfl) (ss_retZ (se_iconst dL_law_222 rfl) rfl dL_law_223) ss_nop
  have s2 : ho_SS (iLaw xs L) 1 [99, 11, 12, 4, 0, 0, 0] [99, 11, 12, 4, 0, 0, 0] _ _ _ := ss_if (sc_and (sc_EqN0 (tgt := 241) (se_iload rfl dL_law_224) dL_law_226 rfl) (sc_lng (tgt := 241) (se_aload_n rfl rfl dL_law_229) (se_iconst dL_law_230 rfl) dL_law_231 (se_iload rfl dL_law_232) dL_law_234 dL_law_235 dL_law_236 rfl)) (ss_retZ (se_iconst dL_law_239 rfl) rfl dL_law_240) ss_nop
  have fin : ho_SS (iLaw xs L) 1 [99, 11, 12, 4, 0, 0] [99, 11, 12, 4, 0] 201 2416 (lr_addShot xs L) := ss_go (tgt := 2416) (ss_blk (n := 5) (ss_seq s0 (ss_seq s1 s2)) rfl) dL_law_241 rfl
  refine ho_wcall (L := L) (xs := xs) kL_addShot ha dL_law_196 wk_836 wk_837 wk_838 wk_839 ⟨by decide +kernel, by decide +kernel, by decide +kernel⟩ (Nat.le_of_ble_eq_true rfl) (Nat.le_of_ble_eq_true rfl) rfl hC (K := fun k σ => lr_addShot xs L (v ++ [k]) σ K (fun _ _ => False) (fun _ _ => False)) (by rw [hX]; exact hf) hT hσ (fun x σ' hKx hx hσ' => ?_)
  refine lw_st (hC := hC1) (C := C) hx hT hσ' (Nat.le_of_ble_eq_true rfl) dL_law_199 (fun hT1 => ?_)
  exact fin _ hC1 (by rw [← hr]; rfl) _ _ K (by rw [ho_up1_X, ho_up1_Q, hX, hQ]; exact hKx) hT1 hσ' (fun v' σ2 h1 h2 h3 => kk v' σ2 h1 h2 h3)
def lr_cut (xs : Nat → Int32) (L : Nat) : ho_Z := (zB 5 (zS (zD (eK mX7_cut (aC (eV 2) (aC (eS xs L (eB ho_oadd (eV 4) (eC 1))) (aC (eS xs L (eB ho_oadd (eV 4) (eC 2))) aN))))) (zS (zC (cNe (eK mX7_thrown (aC (eV 2) aN)) (eV 5)) (zRZ (eC 0)) zN) (zC (cAnd (cEq (eV 5) (eC 0)) (cNe (eI (eV 3) (eC 0)) (eV 6))) (zRZ (eC 0)) zN))))
def la_cut (xs : Nat → Int32) (L : Nat) : ho_A := (aC (eV 1) (aC (eS xs L (eB ho_oadd (eV 4) (eC 1))) (aC (eS xs L (eB ho_oadd (eV 4) (eC 2))) (aC (eV 3) aN))))
def lf_cut (xs : Nat → Int32) (L : Nat) : List Int → ho_S → (List Int → ho_S → Prop) → Prop := fun v σ K => la_cut xs L v σ (fun l σ => mL_cut l σ (fun k σ => lr_cut xs L (v ++ [k]) σ K (fun _ _ => False) (fun _ _ => False)) (fun _ _ => False)) (fun _ _ => False)
set_option maxRecDepth 20000 in
theorem lk_cut {xs : Nat → Int32} {L : Nat} {C : ho_Cx} (hC : ho_ok C (iLaw xs L)) (hC1 : ho_ok (ho_up1 C) (iLaw xs L)) (hr : ho_ro C = 1) (hX : ho_X' C = fun _ _ => False) (hQ : ho_Q' C = fun _ _ => False) {v : List Int} {σ : ho_S} {K : List Int → ho_S → Prop} (hf : lf_cut xs L v σ K) (hT : ho_ty [99, 11, 12, 4, 0] v) (hσ : ho_rng σ) (kk : ∀ v' σ', K v' σ' → ho_ty [99, 11, 12, 4, 0] v' → ho_rng σ' → ho_P (ho_up1 C) 2416 [99, 11, 12, 4, 0] v' [] σ') : ho_P C 244 [99, 11, 12, 4, 0] v [] σ := by
  have ha : ho_SA (iLaw xs L) [99, 11, 12, 4, 0] [11, 0, 0, 4] 0 244 258 (la_cut xs L) := (sa_cons (se_aload_n rfl rfl dL_law_244) (sa_cons (se_scr rfl rfl dL_law_245 (se_iadd (se_iload rfl dL_law_246) (se_iconst dL_law_248 rfl) dL_law_249) dL_law_250) (sa_cons (se_scr rfl rfl dL_law_251 (se_iadd (se_iload rfl dL_law_252) (se_iconst dL_law_254 rfl) dL_law_255) dL_law_256) (sa_cons (se_aload_n rfl rfl dL_law_257) sa_nil))))
  have s0 : ho_SS (iLaw xs L) 1 [99, 11, 12, 4, 0, 0] [99, 11, 12, 4, 0, 0, 0] 263 _ _ := ss_decl (se_callV kX7_cut (sa_cons (se_aload_n rfl rfl dL_law_263) (sa_cons (se_scr rfl rfl dL_law_264 (se_iadd (se_iload rfl dL_law_265) (se_iconst dL_law_267 rfl) dL_law_268) dL_law_269) (sa_cons (se_scr rfl rfl dL_law_270 (se_iadd (se_iload rfl dL_law_271) (se_iconst dL_law_273 rfl) dL_law_274) dL_law_275) sa_nil))) dL_law_276 wk_851 wk_852 wk_853 hcX7 wk_478 wk_854 ykX7_cut (Nat.le_of_ble_eq_true rfl) (Nat.le_of_ble_eq_true rfl) (Nat.le_of_ble_eq_true rfl) trivial) rfl (Nat.le_of_ble_eq_true rfl) dL_law_279
  have s1 : ho_SS (iLaw xs L) 1 [99, 11, 12, 4, 0, 0, 0] [99, 11, 12, 4, 0, 0, 0] _ _ _ := ss_if (sc_NeN (tgt := 292) (se_callV kX7_thrown (sa_cons (se_aload_n rfl rfl dL_law_281) sa_nil) dL_law_282 wk_844 wk_845 wk_846 hcX7 wk_478 wk_847 ykX7_thrown (Nat.le_of_ble_eq_true rfl) (Nat.le_of_ble_eq_true rfl) (Nat.le_of_ble_eq_true rfl) trivial) (se_iload rfl dL_law_285) dL_law_287 rfl) (ss_retZ (se_iconst dL_law_290 rfl) rfl dL_law_291) ss_nop
  have s2 : ho_SS (iLaw xs L) 1 [99, 11, 12, 4, 0, 0, 0] [99, 11, 12, 4, 0, 0, 0] _ _ _ := ss_if (sc_and (sc_EqN0 (tgt := 309) (se_iload rfl dL_law_292) dL_law_294 rfl) (sc_lng (tgt := 309) (se_aload_n rfl rfl dL_law_297) (se_iconst dL_law_298 rfl) dL_law_299 (se_iload rfl dL_law_300) dL_law_302 dL_law_303 dL_law_304 rfl)) (ss_retZ (se_iconst dL_law_307 rfl) rfl dL_law_308) ss_nop
  have fin : ho_SS (iLaw xs L) 1 [99, 11, 12, 4, 0, 0] [99, 11, 12, 4, 0] 263 2416 (lr_cut xs L) := ss_go (tgt := 2416) (ss_blk (n := 5) (ss_seq s0 (ss_seq s1 s2)) rfl) dL_law_309 rfl
  refine ho_wcall (L := L) (xs := xs) kL_cut ha dL_law_258 wk_848 wk_849 wk_838 wk_850 ⟨by decide +kernel, by decide +kernel, by decide +kernel⟩ (Nat.le_of_ble_eq_true rfl) (Nat.le_of_ble_eq_true rfl) rfl hC (K := fun k σ => lr_cut xs L (v ++ [k]) σ K (fun _ _ => False) (fun _ _ => False)) (by rw [hX]; exact hf) hT hσ (fun x σ' hKx hx hσ' => ?_)
  refine lw_st (hC := hC1) (C := C) hx hT hσ' (Nat.le_of_ble_eq_true rfl) dL_law_261 (fun hT1 => ?_)
  exact fin _ hC1 (by rw [← hr]; rfl) _ _ K (by rw [ho_up1_X, ho_up1_Q, hX, hQ]; exact hKx) hT1 hσ' (fun v' σ2 h1 h2 h3 => kk v' σ2 h1 h2 h3)
def lr_move (xs : Nat → Int32) (L : Nat) : ho_Z := (zB 5 (zS (zD (eK mX7_move (aC (eV 2) (aC (eS xs L (eB ho_oadd (eV 4) (eC 1))) (aC (eS xs L (eB ho_oadd (eV 4) (eC 2))) (aC (eS xs L (eB ho_oadd (eV 4) (eC 3))) aN)))))) (zS (zC (cNe (eK mX7_thrown (aC (eV 2) aN)) (eV 5)) (zRZ (eC 0)) zN) (zC (cAnd (cEq (eV 5) (eC 0)) (cNe (eI (eV 3) (eC 0)) (eV 6))) (zRZ (eC 0)) zN))))
def la_move (xs : Nat → Int32) (L : Nat) : ho_A := (aC (eV 1) (aC (eS xs L (eB ho_oadd (eV 4) (eC 1))) (aC (eS xs L (eB ho_oadd (eV 4) (eC 2))) (aC (eS xs L (eB ho_oadd (eV 4) (eC 3))) (aC (eV 3) aN)))))
def lf_move (xs : Nat → Int32) (L : Nat) : List Int → ho_S → (List Int → ho_S → Prop) → Prop := fun v σ K => la_move xs L v σ (fun l σ => mL_move l σ (fun k σ => lr_move xs L (v ++ [k]) σ K (fun _ _ => False) (fun _ _ => False)) (fun _ _ => False)) (fun _ _ => False)
set_option maxRecDepth 20000 in
theorem lk_move {xs : Nat → Int32} {L : Nat} {C : ho_Cx} (hC : ho_ok C (iLaw xs L)) (hC1 : ho_ok (ho_up1 C) (iLaw xs L)) (hr : ho_ro C = 1) (hX : ho_X' C = fun _ _ => False) (hQ : ho_Q' C = fun _ _ => False) {v : List Int} {σ : ho_S} {K : List Int → ho_S → Prop} (hf : lf_move xs L v σ K) (hT : ho_ty [99, 11, 12, 4, 0] v) (hσ : ho_rng σ) (kk : ∀ v' σ', K v' σ' → ho_ty [99, 11, 12, 4, 0] v' → ho_rng σ' → ho_P (ho_up1 C) 2416 [99, 11, 12, 4, 0] v' [] σ') : ho_P C 312 [99, 11, 12, 4, 0] v [] σ := by
  have ha : ho_SA (iLaw xs L) [99, 11, 12, 4, 0] [11, 0, 0, 0, 4] 0 312 332 (la_move xs L) := (sa_cons (se_aload_n rfl rfl dL_law_312) (sa_cons (se_scr rfl rfl dL_law_313 (se_iadd (se_iload rfl dL_law_314) (se_iconst dL_law_316 rfl) dL_law_317) dL_law_318) (sa_cons (se_scr rfl rfl dL_law_319 (se_iadd (se_iload rfl dL_law_320) (se_iconst dL_law_322 rfl) dL_law_323) dL_law_324) (sa_cons (se_scr rfl rfl dL_law_325 (se_iadd (se_iload rfl dL_law_326) (se_iconst dL_law_328 rfl) dL_law_329) dL_law_330) (sa_cons (se_aload_n rfl rfl dL_law_331) sa_nil)))))
  have s0 : ho_SS (iLaw xs L) 1 [99, 11, 12, 4, 0, 0] [99, 11, 12, 4, 0, 0, 0] 337 _ _ := ss_decl (se_callV kX7_move (sa_cons (se_aload_n rfl rfl dL_law_337) (sa_cons (se_scr rfl rfl dL_law_338 (se_iadd (se_iload rfl dL_law_339) (se_iconst dL_law_341 rfl) dL_law_342) dL_law_343) (sa_cons (se_scr rfl rfl dL_law_344 (se_iadd (se_iload rfl dL_law_345) (se_iconst dL_law_347 rfl) dL_law_348) dL_law_349) (sa_cons (se_scr rfl rfl dL_law_350 (se_iadd (se_iload rfl dL_law_351) (se_iconst dL_law_353 rfl) dL_law_354) dL_law_355) sa_nil)))) dL_law_356 wk_858 wk_859 wk_860 hcX7 wk_478 wk_861 ykX7_move (Nat.le_of_ble_eq_true rfl) (Nat.le_of_ble_eq_true rfl) (Nat.le_of_ble_eq_true rfl) trivial) rfl (Nat.le_of_ble_eq_true rfl) dL_law_359
  have s1 : ho_SS (iLaw xs L) 1 [99, 11, 12, 4, 0, 0, 0] [99, 11, 12, 4, 0, 0, 0] _ _ _ := ss_if (sc_NeN (tgt := 372) (se_callV kX7_thrown (sa_cons (se_aload_n rfl rfl dL_law_361) sa_nil) dL_law_362 wk_844 wk_845 wk_846 hcX7 wk_478 wk_847 ykX7_thrown (Nat.le_of_ble_eq_true rfl) (Nat.le_of_ble_eq_true rfl) (Nat.le_of_ble_eq_true rfl) trivial) (se_iload rfl dL_law_365) dL_law_367 rfl) (ss_retZ (se_iconst dL_law_370 rfl) rfl dL_law_371) ss_nop
  have s2 : ho_SS (iLaw xs L) 1 [99, 11, 12, 4, 0, 0, 0] [99, 11, 12, 4, 0, 0, 0] _ _ _ := ss_if (sc_and (sc_EqN0 (tgt := 389) (se_iload rfl dL_law_372) dL_law_374 rfl) (sc_lng (tgt := 389) (se_aload_n rfl rfl dL_law_377) (se_iconst dL_law_378 rfl) dL_law_379 (se_iload rfl dL_law_380) dL_law_382 dL_law_383 dL_law_384 rfl)) (ss_retZ (se_iconst dL_law_387 rfl) rfl dL_law_388) ss_nop
  have fin : ho_SS (iLaw xs L) 1 [99, 11, 12, 4, 0, 0] [99, 11, 12, 4, 0] 337 2416 (lr_move xs L) := ss_go (tgt := 2416) (ss_blk (n := 5) (ss_seq s0 (ss_seq s1 s2)) rfl) dL_law_389 rfl
  refine ho_wcall (L := L) (xs := xs) kL_move ha dL_law_332 wk_855 wk_856 wk_838 wk_857 ⟨by decide +kernel, by decide +kernel, by decide +kernel⟩ (Nat.le_of_ble_eq_true rfl) (Nat.le_of_ble_eq_true rfl) rfl hC (K := fun k σ => lr_move xs L (v ++ [k]) σ K (fun _ _ => False) (fun _ _ => False)) (by rw [hX]; exact hf) hT hσ (fun x σ' hKx hx hσ' => ?_)
  refine lw_st (hC := hC1) (C := C) hx hT hσ' (Nat.le_of_ble_eq_true rfl) dL_law_335 (fun hT1 => ?_)
  exact fin _ hC1 (by rw [← hr]; rfl) _ _ K (by rw [ho_up1_X, ho_up1_Q, hX, hQ]; exact hKx) hT1 hσ' (fun v' σ2 h1 h2 h3 => kk v' σ2 h1 h2 h3)
def lr_putBack (xs : Nat → Int32) (L : Nat) : ho_Z := (zB 5 (zS (zD (eK mX7_putBack (aC (eV 2) (aC (eS xs L (eB ho_oadd (eV 4) (eC 1))) (aC (eS xs L (eB ho_oadd (eV 4) (eC 2))) (aC (eS xs L (eB ho_oadd (eV 4) (eC 3))) (aC (eS xs L (eB ho_oadd (eV 4) (eC 4))) aN))))))) (zS (zC (cNe (eK mX7_thrown (aC (eV 2) aN)) (eV 5)) (zRZ (eC 0)) zN) (zC (cAnd (cEq (eV 5) (eC 0)) (cNe (eI (eV 3) (eC 0)) (eV 6))) (zRZ (eC 0)) zN))))
def la_putBack (xs : Nat → Int32) (L : Nat) : ho_A := (aC (eV 1) (aC (eS xs L (eB ho_oadd (eV 4) (eC 1))) (aC (eS xs L (eB ho_oadd (eV 4) (eC 2))) (aC (eS xs L (eB ho_oadd (eV 4) (eC 3))) (aC (eS xs L (eB ho_oadd (eV 4) (eC 4))) (aC (eV 3) aN))))))
def lf_putBack (xs : Nat → Int32) (L : Nat) : List Int → ho_S → (List Int → ho_S → Prop) → Prop := fun v σ K => la_putBack xs L v σ (fun l σ => mL_putBack l σ (fun k σ => lr_putBack xs L (v ++ [k]) σ K (fun _ _ => False) (fun _ _ => False)) (fun _ _ => False)) (fun _ _ => False)
set_option maxRecDepth 20000 in
theorem lk_putBack {xs : Nat → Int32} {L : Nat} {C : ho_Cx} (hC : ho_ok C (iLaw xs L)) (hC1 : ho_ok (ho_up1 C) (iLaw xs L)) (hr : ho_ro C = 1) (hX : ho_X' C = fun _ _ => False) (hQ : ho_Q' C = fun _ _ => False) {v : List Int} {σ : ho_S} {K : List Int → ho_S → Prop} (hf : lf_putBack xs L v σ K) (hT : ho_ty [99, 11, 12, 4, 0] v) (hσ : ho_rng σ) (kk : ∀ v' σ', K v' σ' → ho_ty [99, 11, 12, 4, 0] v' → ho_rng σ' → ho_P (ho_up1 C) 2416 [99, 11, 12, 4, 0] v' [] σ') : ho_P C 392 [99, 11, 12, 4, 0] v [] σ := by
  have ha : ho_SA (iLaw xs L) [99, 11, 12, 4, 0] [11, 0, 0, 0, 0, 4] 0 392 418 (la_putBack xs L) := (sa_cons (se_aload_n rfl rfl dL_law_392) (sa_cons (se_scr rfl rfl dL_law_393 (se_iadd (se_iload rfl dL_law_394) (se_iconst dL_law_396 rfl) dL_law_397) dL_law_398) (sa_cons (se_scr rfl rfl dL_law_399 (se_iadd (se_iload rfl dL_law_400) (se_iconst dL_law_402 rfl) dL_law_403) dL_law_404) (sa_cons (se_scr rfl rfl dL_law_405 (se_iadd (se_iload rfl dL_law_406) (se_iconst dL_law_408 rfl) dL_law_409) dL_law_410) (sa_cons (se_scr rfl rfl dL_law_411 (se_iadd (se_iload rfl dL_law_412) (se_iconst dL_law_414 rfl) dL_law_415) dL_law_416) (sa_cons (se_aload_n rfl rfl dL_law_417) sa_nil))))))
  have s0 : ho_SS (iLaw xs L) 1 [99, 11, 12, 4, 0, 0] [99, 11, 12, 4, 0, 0, 0] 423 _ _ := ss_decl (se_callV kX7_putBack (sa_cons (se_aload_n rfl rfl dL_law_423) (sa_cons (se_scr rfl rfl dL_law_424 (se_iadd (se_iload rfl dL_law_425) (se_iconst dL_law_427 rfl) dL_law_428) dL_law_429) (sa_cons (se_scr rfl rfl dL_law_430 (se_iadd (se_iload rfl dL_law_431) (se_iconst dL_law_433 rfl) dL_law_434) dL_law_435) (sa_cons (se_scr rfl rfl dL_law_436 (se_iadd (se_iload rfl dL_law_437) (se_iconst dL_law_439 rfl) dL_law_440) dL_law_441) (sa_cons (se_scr rfl rfl dL_law_442 (se_iadd (se_iload rfl dL_law_443) (se_iconst dL_law_445 rfl) dL_law_446) dL_law_447) sa_nil))))) dL_law_448 wk_865 wk_866 wk_867 hcX7 wk_478 wk_868 ykX7_putBack (Nat.le_of_ble_eq_true rfl) (Nat.le_of_ble_eq_true rfl) (Nat.le_of_ble_eq_true rfl) trivial) rfl (Nat.le_of_ble_eq_true rfl) dL_law_451
  have s1 : ho_SS (iLaw xs L) 1 [99, 11, 12, 4, 0, 0, 0] [99, 11, 12, 4, 0, 0, 0] _ _ _ := ss_if (sc_NeN (tgt := 464) (se_callV kX7_thrown (sa_cons (se_aload_n rfl rfl dL_law_453) sa_nil) dL_law_454 wk_844 wk_845 wk_846 hcX7 wk_478 wk_847 ykX7_thrown (Nat.le_of_ble_eq_true rfl) (Nat.le_of_ble_eq_true rfl) (Nat.le_of_ble_eq_true rfl) trivial) (se_iload rfl dL_law_457) dL_law_459 rfl) (ss_retZ (se_iconst dL_law_462 rfl) rfl dL_law_463) ss_nop
  have s2 : ho_SS (iLaw xs L) 1 [99, 11, 12, 4, 0, 0, 0] [99, 11, 12, 4, 0, 0, 0] _ _ _ := ss_if (sc_and (sc_EqN0 (tgt := 481) (se_iload rfl dL_law_464) dL_law_466 rfl) (sc_lng (tgt := 481) (se_aload_n rfl rfl dL_law_469) (se_iconst dL_law_470 rfl) dL_law_471 (se_iload rfl dL_law_472) dL_law_474 dL_law_475 dL_law_476 rfl)) (ss_retZ (se_iconst dL_law_479 rfl) rfl dL_law_480) ss_nop
  have fin : ho_SS (iLaw xs L) 1 [99, 11, 12, 4, 0, 0] [99, 11, 12, 4, 0] 423 2416 (lr_putBack xs L) := ss_go (tgt := 2416) (ss_blk (n := 5) (ss_seq s0 (ss_seq s1 s2)) rfl) dL_law_481 rfl
  refine ho_wcall (L := L) (xs := xs) kL_putBack ha dL_law_418 wk_862 wk_863 wk_838 wk_864 ⟨by decide +kernel, by decide +kernel, by decide +kernel⟩ (Nat.le_of_ble_eq_true rfl) (Nat.le_of_ble_eq_true rfl) rfl hC (K := fun k σ => lr_putBack xs L (v ++ [k]) σ K (fun _ _ => False) (fun _ _ => False)) (by rw [hX]; exact hf) hT hσ (fun x σ' hKx hx hσ' => ?_)
  refine lw_st (hC := hC1) (C := C) hx hT hσ' (Nat.le_of_ble_eq_true rfl) dL_law_421 (fun hT1 => ?_)
  exact fin _ hC1 (by rw [← hr]; rfl) _ _ K (by rw [ho_up1_X, ho_up1_Q, hX, hQ]; exact hKx) hT1 hσ' (fun v' σ2 h1 h2 h3 => kk v' σ2 h1 h2 h3)
def lf_frames (xs : Nat → Int32) (L : Nat) : List Int → ho_S → (List Int → ho_S → Prop) → Prop := fun v σ K => (zC (cNe (eK mX6_frames (aC (eV 1) aN)) (eK mX7_frames (aC (eV 2) aN))) (zRZ (eC 0)) zN) v σ K (fun _ _ => False) (fun _ _ => False)
set_option maxRecDepth 20000 in
theorem lk_frames {xs : Nat → Int32} {L : Nat} {C : ho_Cx} (hC : ho_ok C (iLaw xs L)) (hC1 : ho_ok (ho_up1 C) (iLaw xs L)) (hr : ho_ro C = 1) (hX : ho_X' C = fun _ _ => False) (hQ : ho_Q' C = fun _ _ => False) {v : List Int} {σ : ho_S} {K : List Int → ho_S → Prop} (hf : lf_frames xs L v σ K) (hT : ho_ty [99, 11, 12, 4, 0] v) (hσ : ho_rng σ) (kk : ∀ v' σ', K v' σ' → ho_ty [99, 11, 12, 4, 0] v' → ho_rng σ' → ho_P (ho_up1 C) 2416 [99, 11, 12, 4, 0] v' [] σ') : ho_P C 484 [99, 11, 12, 4, 0] v [] σ := by
  have fin : ho_SS (iLaw xs L) 1 [99, 11, 12, 4, 0] [99, 11, 12, 4, 0] 484 2416 _ := ss_if (sc_NeN (tgt := 2416) (se_callV kX6_frames (sa_cons (se_aload_n rfl rfl dL_law_484) sa_nil) dL_law_485 wk_869 wk_870 wk_871 hcX6 wk_4 wk_872 ykX6_frames (Nat.le_of_ble_eq_true rfl) (Nat.le_of_ble_eq_true rfl) (Nat.le_of_ble_eq_true rfl) trivial) (se_callV kX7_frames (sa_cons (se_aload_n rfl rfl dL_law_488) sa_nil) dL_law_489 wk_873 wk_874 wk_875 hcX7 wk_478 wk_876 ykX7_frames (Nat.le_of_ble_eq_true rfl) (Nat.le_of_ble_eq_true rfl) (Nat.le_of_ble_eq_true rfl) trivial) dL_law_492 rfl) (ss_retZ (se_iconst dL_law_495 rfl) rfl dL_law_496) ss_nop
  exact fin C hC hr v σ K (by rw [hX, hQ]; exact hf) hT hσ (fun v' σ' h1 h2 h3 => ho_wid (kk v' σ' h1 h2 h3))
def lr_frameAt (xs : Nat → Int32) (L : Nat) : ho_Z := (zB 5 (zS (zD (eK mX7_frameAt (aC (eV 2) (aC (eS xs L (eB ho_oadd (eV 4) (eC 1))) aN)))) (zS (zC (cNe (eK mX7_thrown (aC (eV 2) aN)) (eV 5)) (zRZ (eC 0)) zN) (zC (cAnd (cEq (eV 5) (eC 0)) (cNe (eI (eV 3) (eC 0)) (eV 6))) (zRZ (eC 0)) zN))))
def la_frameAt (xs : Nat → Int32) (L : Nat) : ho_A := (aC (eV 1) (aC (eS xs L (eB ho_oadd (eV 4) (eC 1))) (aC (eV 3) aN)))
def lf_frameAt (xs : Nat → Int32) (L : Nat) : List Int → ho_S → (List Int → ho_S → Prop) → Prop := fun v σ K => la_frameAt xs L v σ (fun l σ => mL_frameAt l σ (fun k σ => lr_frameAt xs L (v ++ [k]) σ K (fun _ _ => False) (fun _ _ => False)) (fun _ _ => False)) (fun _ _ => False)
set_option maxRecDepth 20000 in
theorem lk_frameAt {xs : Nat → Int32} {L : Nat} {C : ho_Cx} (hC : ho_ok C (iLaw xs L)) (hC1 : ho_ok (ho_up1 C) (iLaw xs L)) (hr : ho_ro C = 1) (hX : ho_X' C = fun _ _ => False) (hQ : ho_Q' C = fun _ _ => False) {v : List Int} {σ : ho_S} {K : List Int → ho_S → Prop} (hf : lf_frameAt xs L v σ K) (hT : ho_ty [99, 11, 12, 4, 0] v) (hσ : ho_rng σ) (kk : ∀ v' σ', K v' σ' → ho_ty [99, 11, 12, 4, 0] v' → ho_rng σ' → ho_P (ho_up1 C) 2416 [99, 11, 12, 4, 0] v' [] σ') : ho_P C 497 [99, 11, 12, 4, 0] v [] σ := by
  have ha : ho_SA (iLaw xs L) [99, 11, 12, 4, 0] [11, 0, 4] 0 497 505 (la_frameAt xs L) := (sa_cons (se_aload_n rfl rfl dL_law_497) (sa_cons (se_scr rfl rfl dL_law_498 (se_iadd (se_iload rfl dL_law_499) (se_iconst dL_law_501 rfl) dL_law_502) dL_law_503) (sa_cons (se_aload_n rfl rfl dL_law_504) sa_nil)))
  have s0 : ho_SS (iLaw xs L) 1 [99, 11, 12, 4, 0, 0] [99, 11, 12, 4, 0, 0, 0] 510 _ _ := ss_decl (se_callV kX7_frameAt (sa_cons (se_aload_n rfl rfl dL_law_510) (sa_cons (se_scr rfl rfl dL_law_511 (se_iadd (se_iload rfl dL_law_512) (se_iconst dL_law_514 rfl) dL_law_515) dL_law_516) sa_nil)) dL_law_517 wk_880 wk_881 wk_882 hcX7 wk_478 wk_883 ykX7_frameAt (Nat.le_of_ble_eq_true rfl) (Nat.le_of_ble_eq_true rfl) (Nat.le_of_ble_eq_true rfl) trivial) rfl (Nat.le_of_ble_eq_true rfl) dL_law_520
  have s1 : ho_SS (iLaw xs L) 1 [99, 11, 12, 4, 0, 0, 0] [99, 11, 12, 4, 0, 0, 0] _ _ _ := ss_if (sc_NeN (tgt := 533) (se_callV kX7_thrown (sa_cons (se_aload_n rfl rfl dL_law_522) sa_nil) dL_law_523 wk_844 wk_845 wk_846 hcX7 wk_478 wk_847 ykX7_thrown (Nat.le_of_ble_eq_true rfl) (Nat.le_of_ble_eq_true rfl) (Nat.le_of_ble_eq_true rfl) trivial) (se_iload rfl dL_law_526) dL_law_528 rfl) (ss_retZ (se_iconst dL_law_531 rfl) rfl dL_law_532) ss_nop
  have s2 : ho_SS (iLaw xs L) 1 [99, 11, 12, 4, 0, 0, 0] [99, 11, 12, 4, 0, 0, 0] _ _ _ := ss_if (sc_and (sc_EqN0 (tgt := 550) (se_iload rfl dL_law_533) dL_law_535 rfl) (sc_lng (tgt := 550) (se_aload_n rfl rfl dL_law_538) (se_iconst dL_law_539 rfl) dL_law_540 (se_iload rfl dL_law_541) dL_law_543 dL_law_544 dL_law_545 rfl)) (ss_retZ (se_iconst dL_law_548 rfl) rfl dL_law_549) ss_nop
  have fin : ho_SS (iLaw xs L) 1 [99, 11, 12, 4, 0, 0] [99, 11, 12, 4, 0] 510 2416 (lr_frameAt xs L) := ss_go (tgt := 2416) (ss_blk (n := 5) (ss_seq s0 (ss_seq s1 s2)) rfl) dL_law_550 rfl
  refine ho_wcall (L := L) (xs := xs) kL_frameAt ha dL_law_505 wk_877 wk_878 wk_838 wk_879 ⟨by decide +kernel, by decide +kernel, by decide +kernel⟩ (Nat.le_of_ble_eq_true rfl) (Nat.le_of_ble_eq_true rfl) rfl hC (K := fun k σ => lr_frameAt xs L (v ++ [k]) σ K (fun _ _ => False) (fun _ _ => False)) (by rw [hX]; exact hf) hT hσ (fun x σ' hKx hx hσ' => ?_)
  refine lw_st (hC := hC1) (C := C) hx hT hσ' (Nat.le_of_ble_eq_true rfl) dL_law_508 (fun hT1 => ?_)
  exact fin _ hC1 (by rw [← hr]; rfl) _ _ K (by rw [ho_up1_X, ho_up1_Q, hX, hQ]; exact hKx) hT1 hσ' (fun v' σ2 h1 h2 h3 => kk v' σ2 h1 h2 h3)
def lr_placeOf (xs : Nat → Int32) (L : Nat) : ho_Z := (zB 5 (zS (zD (eK mX7_placeOf (aC (eV 2) (aC (eS xs L (eB ho_oadd (eV 4) (eC 1))) (aC (eS xs L (eB ho_oadd (eV 4) (eC 2))) aN))))) (zS (zC (cNe (eK mX7_thrown (aC (eV 2) aN)) (eV 5)) (zRZ (eC 0)) zN) (zC (cAnd (cEq (eV 5) (eC 0)) (cNe (eI (eV 3) (eC 0)) (eV 6))) (zRZ (eC 0)) zN))))
def la_placeOf (xs : Nat → Int32) (L : Nat) : ho_A := (aC (eV 1) (aC (eS xs L (eB ho_oadd (eV 4) (eC 1))) (aC (eS xs L (eB ho_oadd (eV 4) (eC 2))) (aC (eV 3) aN))))
def lf_placeOf (xs : Nat → Int32) (L : Nat) : List Int → ho_S → (List Int → ho_S → Prop) → Prop := fun v σ K => la_placeOf xs L v σ (fun l σ => mL_placeOf l σ (fun k σ => lr_placeOf xs L (v ++ [k]) σ K (fun _ _ => False) (fun _ _ => False)) (fun _ _ => False)) (fun _ _ => False)
set_option maxRecDepth 20000 in
theorem lk_placeOf {xs : Nat → Int32} {L : Nat} {C : ho_Cx} (hC : ho_ok C (iLaw xs L)) (hC1 : ho_ok (ho_up1 C) (iLaw xs L)) (hr : ho_ro C = 1) (hX : ho_X' C = fun _ _ => False) (hQ : ho_Q' C = fun _ _ => False) {v : List Int} {σ : ho_S} {K : List Int → ho_S → Prop} (hf : lf_placeOf xs L v σ K) (hT : ho_ty [99, 11, 12, 4, 0] v) (hσ : ho_rng σ) (kk : ∀ v' σ', K v' σ' → ho_ty [99, 11, 12, 4, 0] v' → ho_rng σ' → ho_P (ho_up1 C) 2416 [99, 11, 12, 4, 0] v' [] σ') : ho_P C 553 [99, 11, 12, 4, 0] v [] σ := by
  have ha : ho_SA (iLaw xs L) [99, 11, 12, 4, 0] [11, 0, 0, 4] 0 553 567 (la_placeOf xs L) := (sa_cons (se_aload_n rfl rfl dL_law_553) (sa_cons (se_scr rfl rfl dL_law_554 (se_iadd (se_iload rfl dL_law_555) (se_iconst dL_law_557 rfl) dL_law_558) dL_law_559) (sa_cons (se_scr rfl rfl dL_law_560 (se_iadd (se_iload rfl dL_law_561) (se_iconst dL_law_563 rfl) dL_law_564) dL_law_565) (sa_cons (se_aload_n rfl rfl dL_law_566) sa_nil))))
  have s0 : ho_SS (iLaw xs L) 1 [99, 11, 12, 4, 0, 0] [99, 11, 12, 4, 0, 0, 0] 572 _ _ := ss_decl (se_callV kX7_placeOf (sa_cons (se_aload_n rfl rfl dL_law_572) (sa_cons (se_scr rfl rfl dL_law_573 (se_iadd (se_iload rfl dL_law_574) (se_iconst dL_law_576 rfl) dL_law_577) dL_law_578) (sa_cons (se_scr rfl rfl dL_law_579 (se_iadd (se_iload rfl dL_law_580) (se_iconst dL_law_582 rfl) dL_law_583) dL_law_584) sa_nil))) dL_law_585 wk_887 wk_888 wk_889 hcX7 wk_478 wk_890 ykX7_placeOf (Nat.le_of_ble_eq_true rfl) (Nat.le_of_ble_eq_true rfl) (Nat.le_of_ble_eq_true rfl) trivial) rfl (Nat.le_of_ble_eq_true rfl) dL_law_588
  have s1 : ho_SS (iLaw xs L) 1 [99, 11, 12, 4, 0, 0, 0] [99, 11, 12, 4, 0, 0, 0] _ _ _ := ss_if (sc_NeN (tgt := 601) (se_callV kX7_thrown (sa_cons (se_aload_n rfl rfl dL_law_590) sa_nil) dL_law_591 wk_844 wk_845 wk_846 hcX7 wk_478 wk_847 ykX7_thrown (Nat.le_of_ble_eq_true rfl) (Nat.le_of_ble_eq_true rfl) (Nat.le_of_ble_eq_true rfl) trivial) (se_iload rfl dL_law_594) dL_law_596 rfl) (ss_retZ (se_iconst dL_law_599 rfl) rfl dL_law_600) ss_nop
  have s2 : ho_SS (iLaw xs L) 1 [99, 11, 12, 4, 0, 0, 0] [99, 11, 12, 4, 0, 0, 0] _ _ _ := ss_if (sc_and (sc_EqN0 (tgt := 618) (se_iload rfl dL_law_601) dL_law_603 rfl) (sc_lng (tgt := 618) (se_aload_n rfl rfl dL_law_606) (se_iconst dL_law_607 rfl) dL_law_608 (se_iload rfl dL_law_609) dL_law_611 dL_law_612 dL_law_613 rfl)) (ss_retZ (se_iconst dL_law_616 rfl) rfl dL_law_617) ss_nop
  have fin : ho_SS (iLaw xs L) 1 [99, 11, 12, 4, 0, 0] [99, 11, 12, 4, 0] 572 2416 (lr_placeOf xs L) := ss_go (tgt := 2416) (ss_blk (n := 5) (ss_seq s0 (ss_seq s1 s2)) rfl) dL_law_618 rfl
  refine ho_wcall (L := L) (xs := xs) kL_placeOf ha dL_law_567 wk_884 wk_885 wk_838 wk_886 ⟨by decide +kernel, by decide +kernel, by decide +kernel⟩ (Nat.le_of_ble_eq_true rfl) (Nat.le_of_ble_eq_true rfl) rfl hC (K := fun k σ => lr_placeOf xs L (v ++ [k]) σ K (fun _ _ => False) (fun _ _ => False)) (by rw [hX]; exact hf) hT hσ (fun x σ' hKx hx hσ' => ?_)
  refine lw_st (hC := hC1) (C := C) hx hT hσ' (Nat.le_of_ble_eq_true rfl) dL_law_570 (fun hT1 => ?_)
  exact fin _ hC1 (by rw [← hr]; rfl) _ _ K (by rw [ho_up1_X, ho_up1_Q, hX, hQ]; exact hKx) hT1 hσ' (fun v' σ2 h1 h2 h3 => kk v' σ2 h1 h2 h3)
def lr_isBoundary (xs : Nat → Int32) (L : Nat) : ho_Z := (zB 5 (zS (zD (eK mX7_isBoundary (aC (eV 2) (aC (eS xs L (eB ho_oadd (eV 4) (eC 1))) aN)))) (zS (zC (cNe (eK mX7_thrown (aC (eV 2) aN)) (eV 5)) (zRZ (eC 0)) zN) (zC (cAnd (cEq (eV 5) (eC 0)) (cNe (eI (eV 3) (eC 0)) (eU ho_b01 (eV 6)))) (zRZ (eC 0)) zN))))
def la_isBoundary (xs : Nat → Int32) (L : Nat) : ho_A := (aC (eV 1) (aC (eS xs L (eB ho_oadd (eV 4) (eC 1))) (aC (eV 3) aN)))
def lf_isBoundary (xs : Nat → Int32) (L : Nat) : List Int → ho_S → (List Int → ho_S → Prop) → Prop := fun v σ K => la_isBoundary xs L v σ (fun l σ => mL_isBoundary l σ (fun k σ => lr_isBoundary xs L (v ++ [k]) σ K (fun _ _ => False) (fun _ _ => False)) (fun _ _ => False)) (fun _ _ => False)
set_option maxRecDepth 20000 in
theorem lk_isBoundary {xs : Nat → Int32} {L : Nat} {C : ho_Cx} (hC : ho_ok C (iLaw xs L)) (hC1 : ho_ok (ho_up1 C) (iLaw xs L)) (hr : ho_ro C = 1) (hX : ho_X' C = fun _ _ => False) (hQ : ho_Q' C = fun _ _ => False) {v : List Int} {σ : ho_S} {K : List Int → ho_S → Prop} (hf : lf_isBoundary xs L v σ K) (hT : ho_ty [99, 11, 12, 4, 0] v) (hσ : ho_rng σ) (kk : ∀ v' σ', K v' σ' → ho_ty [99, 11, 12, 4, 0] v' → ho_rng σ' → ho_P (ho_up1 C) 2416 [99, 11, 12, 4, 0] v' [] σ') : ho_P C 621 [99, 11, 12, 4, 0] v [] σ := by
  have ha : ho_SA (iLaw xs L) [99, 11, 12, 4, 0] [11, 0, 4] 0 621 629 (la_isBoundary xs L) := (sa_cons (se_aload_n rfl rfl dL_law_621) (sa_cons (se_scr rfl rfl dL_law_622 (se_iadd (se_iload rfl dL_law_623) (se_iconst dL_law_625 rfl) dL_law_626) dL_law_627) (sa_cons (se_aload_n rfl rfl dL_law_628) sa_nil)))
  have s0 : ho_SS (iLaw xs L) 1 [99, 11, 12, 4, 0, 0] [99, 11, 12, 4, 0, 0, 0] 634 _ _ := ss_decl (se_callV kX7_isBoundary (sa_cons (se_aload_n rfl rfl dL_law_634) (sa_cons (se_scr rfl rfl dL_law_635 (se_iadd (se_iload rfl dL_law_636) (se_iconst dL_law_638 rfl) dL_law_639) dL_law_640) sa_nil)) dL_law_641 wk_894 wk_895 wk_896 hcX7 wk_478 wk_897 ykX7_isBoundary (Nat.le_of_ble_eq_true rfl) (Nat.le_of_ble_eq_true rfl) (Nat.le_of_ble_eq_true rfl) trivial) rfl (Nat.le_of_ble_eq_true rfl) dL_law_644
  have s1 : ho_SS (iLaw xs L) 1 [99, 11, 12, 4, 0, 0, 0] [99, 11, 12, 4, 0, 0, 0] _ _ _ := ss_if (sc_NeN (tgt := 657) (se_callV kX7_thrown (sa_cons (se_aload_n rfl rfl dL_law_646) sa_nil) dL_law_647 wk_844 wk_845 wk_846 hcX7 wk_478 wk_847 ykX7_thrown (Nat.le_of_ble_eq_true rfl) (Nat.le_of_ble_eq_true rfl) (Nat.le_of_ble_eq_true rfl) trivial) (se_iload rfl dL_law_650) dL_law_652 rfl) (ss_retZ (se_iconst dL_law_655 rfl) rfl dL_law_656) ss_nop
  have s2 : ho_SS (iLaw xs L) 1 [99, 11, 12, 4, 0, 0, 0] [99, 11, 12, 4, 0, 0, 0] _ _ _ := ss_if (sc_and (sc_EqN0 (tgt := 681) (se_iload rfl dL_law_657) dL_law_659 rfl) (sc_lngz (tgt := 681) (t1 := 674) (t2 := 675) (se_aload_n rfl rfl dL_law_662) (se_iconst dL_law_663 rfl) dL_law_664 (se_iload rfl dL_law_665) dL_law_667 rfl dL_law_670 dL_law_671 rfl dL_law_674 rfl dL_law_675 dL_law_676 rfl)) (ss_retZ (se_iconst dL_law_679 rfl) rfl dL_law_680) ss_nop
  have fin : ho_SS (iLaw xs L) 1 [99, 11, 12, 4, 0, 0] [99, 11, 12, 4, 0] 634 2416 (lr_isBoundary xs L) := ss_go (tgt := 2416) (ss_blk (n := 5) (ss_seq s0 (ss_seq s1 s2)) rfl) dL_law_681 rfl
  refine ho_wcall (L := L) (xs := xs) kL_isBoundary ha dL_law_629 wk_891 wk_892 wk_838 wk_893 ⟨by decide +kernel, by decide +kernel, by decide +kernel⟩ (Nat.le_of_ble_eq_true rfl) (Nat.le_of_ble_eq_true rfl) rfl hC (K := fun k σ => lr_isBoundary xs L (v ++ [k]) σ K (fun _ _ => False) (fun _ _ => False)) (by rw [hX]; exact hf) hT hσ (fun x σ' hKx hx hσ' => ?_)
  refine lw_st (hC := hC1) (C := C) hx hT hσ' (Nat.le_of_ble_eq_true rfl) dL_law_632 (fun hT1 => ?_)
  exact fin _ hC1 (by rw [← hr]; rfl) _ _ K (by rw [ho_up1_X, ho_up1_Q, hX, hQ]; exact hKx) hT1 hσ' (fun v' σ2 h1 h2 h3 => kk v' σ2 h1 h2 h3)
def lr_add (xs : Nat → Int32) (L : Nat) : ho_Z := (zB 5 (zS (zD (eK mX7_add (aC (eV 2) (aC (eS xs L (eB ho_oadd (eV 4) (eC 1))) (aC (eS xs L (eB ho_oadd (eV 4) (eC 2))) aN))))) (zS (zC (cNe (eK mX7_thrown (aC (eV 2) aN)) (eV 5)) (zRZ (eC 0)) zN) (zC (cAnd (cEq (eV 5) (eC 0)) (cNe (eI (eV 3) (eC 0)) (eV 6))) (zRZ (eC 0)) zN))))
def la_add (xs : Nat → Int32) (L : Nat) : ho_A := (aC (eV 1) (aC (eS xs L (eB ho_oadd (eV 4) (eC 1))) (aC (eS xs L (eB ho_oadd (eV 4) (eC 2))) (aC (eV 3) aN))))
def lf_add (xs : Nat → Int32) (L : Nat) : List Int → ho_S → (List Int → ho_S → Prop) → Prop := fun v σ K => la_add xs L v σ (fun l σ => mL_add l σ (fun k σ => lr_add xs L (v ++ [k]) σ K (fun _ _ => False) (fun _ _ => False)) (fun _ _ => False)) (fun _ _ => False)
set_option maxRecDepth 20000 in
theorem lk_add {xs : Nat → Int32} {L : Nat} {C : ho_Cx} (hC : ho_ok C (iLaw xs L)) (hC1 : ho_ok (ho_up1 C) (iLaw xs L)) (hr : ho_ro C = 1) (hX : ho_X' C = fun _ _ => False) (hQ : ho_Q' C = fun _ _ => False) {v : List Int} {σ : ho_S} {K : List Int → ho_S → Prop} (hf : lf_add xs L v σ K) (hT : ho_ty [99, 11, 12, 4, 0] v) (hσ : ho_rng σ) (kk : ∀ v' σ', K v' σ' → ho_ty [99, 11, 12, 4, 0] v' → ho_rng σ' → ho_P (ho_up1 C) 2416 [99, 11, 12, 4, 0] v' [] σ') : ho_P C 684 [99, 11, 12, 4, 0] v [] σ := by
  have ha : ho_SA (iLaw xs L) [99, 11, 12, 4, 0] [11, 0, 0, 4] 0 684 698 (la_add xs L) := (sa_cons (se_aload_n rfl rfl dL_law_684) (sa_cons (se_scr rfl rfl dL_law_685 (se_iadd (se_iload rfl dL_law_686) (se_iconst dL_law_688 rfl) dL_law_689) dL_law_690) (sa_cons (se_scr rfl rfl dL_law_691 (se_iadd (se_iload rfl dL_law_692) (se_iconst dL_law_694 rfl) dL_law_695) dL_law_696) (sa_cons (se_aload_n rfl rfl dL_law_697) sa_nil))))
  have s0 : ho_SS (iLaw xs L) 1 [99, 11, 12, 4, 0, 0] [99, 11, 12, 4, 0, 0, 0] 703 _ _ := ss_decl (se_callV kX7_add (sa_cons (se_aload_n rfl rfl dL_law_703) (sa_cons (se_scr rfl rfl dL_law_704 (se_iadd (se_iload rfl dL_law_705) (se_iconst dL_law_707 rfl) dL_law_708) dL_law_709) (sa_cons (se_scr rfl rfl dL_law_710 (se_iadd (se_iload rfl dL_law_711) (se_iconst dL_law_713 rfl) dL_law_714) dL_law_715) sa_nil))) dL_law_716 wk_901 wk_902 wk_903 hcX7 wk_478 wk_904 ykX7_add (Nat.le_of_ble_eq_true rfl) (Nat.le_of_ble_eq_true rfl) (Nat.le_of_ble_eq_true rfl) trivial) rfl (Nat.le_of_ble_eq_true rfl) dL_law_719
  have s1 : ho_SS (iLaw xs L) 1 [99, 11, 12, 4, 0, 0, 0] [99, 11, 12, 4, 0, 0, 0] _ _ _ := ss_if (sc_NeN (tgt := 732) (se_callV kX7_thrown (sa_cons (se_aload_n rfl rfl dL_law_721) sa_nil) dL_law_722 wk_844 wk_845 wk_846 hcX7 wk_478 wk_847 ykX7_thrown (Nat.le_of_ble_eq_true rfl) (Nat.le_of_ble_eq_true rfl) (Nat.le_of_ble_eq_true rfl) trivial) (se_iload rfl dL_law_725) dL_law_727 rfl) (ss_retZ (se_iconst dL_law_730 rfl) rfl dL_law_731) ss_nop
  have s2 : ho_SS (iLaw xs L) 1 [99, 11, 12, 4, 0, 0, 0] [99, 11, 12, 4, 0, 0, 0] _ _ _ := ss_if (sc_and (sc_EqN0 (tgt := 749) (se_iload rfl dL_law_732) dL_law_734 rfl) (sc_lng (tgt := 749) (se_aload_n rfl rfl dL_law_737) (se_iconst dL_law_738 rfl) dL_law_739 (se_iload rfl dL_law_740) dL_law_742 dL_law_743 dL_law_744 rfl)) (ss_retZ (se_iconst dL_law_747 rfl) rfl dL_law_748) ss_nop
  have fin : ho_SS (iLaw xs L) 1 [99, 11, 12, 4, 0, 0] [99, 11, 12, 4, 0] 703 2416 (lr_add xs L) := ss_go (tgt := 2416) (ss_blk (n := 5) (ss_seq s0 (ss_seq s1 s2)) rfl) dL_law_749 rfl
  refine ho_wcall (L := L) (xs := xs) kL_add ha dL_law_698 wk_898 wk_899 wk_838 wk_900 ⟨by decide +kernel, by decide +kernel, by decide +kernel⟩ (Nat.le_of_ble_eq_true rfl) (Nat.le_of_ble_eq_true rfl) rfl hC (K := fun k σ => lr_add xs L (v ++ [k]) σ K (fun _ _ => False) (fun _ _ => False)) (by rw [hX]; exact hf) hT hσ (fun x σ' hKx hx hσ' => ?_)
  refine lw_st (hC := hC1) (C := C) hx hT hσ' (Nat.le_of_ble_eq_true rfl) dL_law_701 (fun hT1 => ?_)
  exact fin _ hC1 (by rw [← hr]; rfl) _ _ K (by rw [ho_up1_X, ho_up1_Q, hX, hQ]; exact hKx) hT1 hσ' (fun v' σ2 h1 h2 h3 => kk v' σ2 h1 h2 h3)
def lr_lay (xs : Nat → Int32) (L : Nat) : ho_Z := (zB 5 (zS (zD (eK mX7_lay (aC (eV 2) (aC (eS xs L (eB ho_oadd (eV 4) (eC 1))) (aC (eS xs L (eB ho_oadd (eV 4) (eC 2))) (aC (eS xs L (eB ho_oadd (eV 4) (eC 3))) aN)))))) (zS (zC (cNe (eK mX7_thrown (aC (eV 2) aN)) (eV 5)) (zRZ (eC 0)) zN) (zC (cAnd (cEq (eV 5) (eC 0)) (cNe (eI (eV 3) (eC 0)) (eV 6))) (zRZ (eC 0)) zN))))
def la_lay (xs : Nat → Int32) (L : Nat) : ho_A := (aC (eV 1) (aC (eS xs L (eB ho_oadd (eV 4) (eC 1))) (aC (eS xs L (eB ho_oadd (eV 4) (eC 2))) (aC (eS xs L (eB ho_oadd (eV 4) (eC 3))) (aC (eV 3) aN)))))
def lf_lay (xs : Nat → Int32) (L : Nat) : List Int → ho_S → (List Int → ho_S → Prop) → Prop := fun v σ K => la_lay xs L v σ (fun l σ => mL_lay l σ (fun k σ => lr_lay xs L (v ++ [k]) σ K (fun _ _ => False) (fun _ _ => False)) (fun _ _ => False)) (fun _ _ => False)
set_option maxRecDepth 20000 in
theorem lk_lay {xs : Nat → Int32} {L : Nat} {C : ho_Cx} (hC : ho_ok C (iLaw xs L)) (hC1 : ho_ok (ho_up1 C) (iLaw xs L)) (hr : ho_ro C = 1) (hX : ho_X' C = fun _ _ => False) (hQ : ho_Q' C = fun _ _ => False) {v : List Int} {σ : ho_S} {K : List Int → ho_S → Prop} (hf : lf_lay xs L v σ K) (hT : ho_ty [99, 11, 12, 4, 0] v) (hσ : ho_rng σ) (kk : ∀ v' σ', K v' σ' → ho_ty [99, 11, 12, 4, 0] v' → ho_rng σ' → ho_P (ho_up1 C) 2416 [99, 11, 12, 4, 0] v' [] σ') : ho_P C 752 [99, 11, 12, 4, 0] v [] σ := by
  have ha : ho_SA (iLaw xs L) [99, 11, 12, 4, 0] [11, 0, 0, 0, 4] 0 752 772 (la_lay xs L) := (sa_cons (se_aload_n rfl rfl dL_law_752) (sa_cons (se_scr rfl rfl dL_law_753 (se_iadd (se_iload rfl dL_law_754) (se_iconst dL_law_756 rfl) dL_law_757) dL_law_758) (sa_cons (se_scr rfl rfl dL_law_759 (se_iadd (se_iload rfl dL_law_760) (se_iconst dL_law_762 rfl) dL_law_763) dL_law_764) (sa_cons (se_scr rfl rfl dL_law_765 (se_iadd (se_iload rfl dL_law_766) (se_iconst dL_law_768 rfl) dL_law_769) dL_law_770) (sa_cons (se_aload_n rfl rfl dL_law_771) sa_nil)))))
  have s0 : ho_SS (iLaw xs L) 1 [99, 11, 12, 4, 0, 0] [99, 11, 12, 4, 0, 0, 0] 777 _ _ := ss_decl (se_callV kX7_lay (sa_cons (se_aload_n rfl rfl dL_law_777) (sa_cons (se_scr rfl rfl dL_law_778 (se_iadd (se_iload rfl dL_law_779) (se_iconst dL_law_781 rfl) dL_law_782) dL_law_783) (sa_cons (se_scr rfl rfl dL_law_784 (se_iadd (se_iload rfl dL_law_785) (se_iconst dL_law_787 rfl) dL_law_788) dL_law_789) (sa_cons (se_scr rfl rfl dL_law_790 (se_iadd (se_iload rfl dL_law_791) (se_iconst dL_law_793 rfl) dL_law_794) dL_law_795) sa_nil)))) dL_law_796 wk_908 wk_909 wk_910 hcX7 wk_478 wk_911 ykX7_lay (Nat.le_of_ble_eq_true rfl) (Nat.le_of_ble_eq_true rfl) (Nat.le_of_ble_eq_true rfl) trivial) rfl (Nat.le_of_ble_eq_true rfl) dL_law_799
  have s1 : ho_SS (iLaw xs L) 1 [99, 11, 12, 4, 0, 0, 0] [99, 11, 12, 4, 0, 0, 0] _ _ _ := ss_if (sc_NeN (tgt := 812) (se_callV kX7_thrown (sa_cons (se_aload_n rfl rfl dL_law_801) sa_nil) dL_law_802 wk_844 wk_845 wk_846 hcX7 wk_478 wk_847 ykX7_thrown (Nat.le_of_ble_eq_true rfl) (Nat.le_of_ble_eq_true rfl) (Nat.le_of_ble_eq_true rfl) trivial) (se_iload rfl dL_law_805) dL_law_807 rfl) (ss_retZ (se_iconst dL_law_810 rfl) rfl dL_law_811) ss_nop
  have s2 : ho_SS (iLaw xs L) 1 [99, 11, 12, 4, 0, 0, 0] [99, 11, 12, 4, 0, 0, 0] _ _ _ := ss_if (sc_and (sc_EqN0 (tgt := 829) (se_iload rfl dL_law_812) dL_law_814 rfl) (sc_lng (tgt := 829) (se_aload_n rfl rfl dL_law_817) (se_iconst dL_law_818 rfl) dL_law_819 (se_iload rfl dL_law_820) dL_law_822 dL_law_823 dL_law_824 rfl)) (ss_retZ (se_iconst dL_law_827 rfl) rfl dL_law_828) ss_nop
  have fin : ho_SS (iLaw xs L) 1 [99, 11, 12, 4, 0, 0] [99, 11, 12, 4, 0] 777 2416 (lr_lay xs L) := ss_go (tgt := 2416) (ss_blk (n := 5) (ss_seq s0 (ss_seq s1 s2)) rfl) dL_law_829 rfl
  refine ho_wcall (L := L) (xs := xs) kL_lay ha dL_law_772 wk_905 wk_906 wk_838 wk_907 ⟨by decide +kernel, by decide +kernel, by decide +kernel⟩ (Nat.le_of_ble_eq_true rfl) (Nat.le_of_ble_eq_true rfl) rfl hC (K := fun k σ => lr_lay xs L (v ++ [k]) σ K (fun _ _ => False) (fun _ _ => False)) (by rw [hX]; exact hf) hT hσ (fun x σ' hKx hx hσ' => ?_)
  refine lw_st (hC := hC1) (C := C) hx hT hσ' (Nat.le_of_ble_eq_true rfl) dL_law_775 (fun hT1 => ?_)
  exact fin _ hC1 (by rw [← hr]; rfl) _ _ K (by rw [ho_up1_X, ho_up1_Q, hX, hQ]; exact hKx) hT1 hσ' (fun v' σ2 h1 h2 h3 => kk v' σ2 h1 h2 h3)
def lr_setLook (xs : Nat → Int32) (L : Nat) : ho_Z := (zB 5 (zS (zD (eK mX7_setLook (aC (eV 2) (aC (eS xs L (eB ho_oadd (eV 4) (eC 1))) (aC (eS xs L (eB ho_oadd (eV 4) (eC 2))) aN))))) (zS (zC (cNe (eK mX7_thrown (aC (eV 2) aN)) (eV 5)) (zRZ (eC 0)) zN) (zC (cAnd (cEq (eV 5) (eC 0)) (cNe (eI (eV 3) (eC 0)) (eV 6))) (zRZ (eC 0)) zN))))
def la_setLook (xs : Nat → Int32) (L : Nat) : ho_A := (aC (eV 1) (aC (eS xs L (eB ho_oadd (eV 4) (eC 1))) (aC (eS xs L (eB ho_oadd (eV 4) (eC 2))) (aC (eV 3) aN))))
def lf_setLook (xs : Nat → Int32) (L : Nat) : List Int → ho_S → (List Int → ho_S → Prop) → Prop := fun v σ K => la_setLook xs L v σ (fun l σ => mL_setLook l σ (fun k σ => lr_setLook xs L (v ++ [k]) σ K (fun _ _ => False) (fun _ _ => False)) (fun _ _ => False)) (fun _ _ => False)
set_option maxRecDepth 20000 in
theorem lk_setLook {xs : Nat → Int32} {L : Nat} {C : ho_Cx} (hC : ho_ok C (iLaw xs L)) (hC1 : ho_ok (ho_up1 C) (iLaw xs L)) (hr : ho_ro C = 1) (hX : ho_X' C = fun _ _ => False) (hQ : ho_Q' C = fun _ _ => False) {v : List Int} {σ : ho_S} {K : List Int → ho_S → Prop} (hf : lf_setLook xs L v σ K) (hT : ho_ty [99, 11, 12, 4, 0] v) (hσ : ho_rng σ) (kk : ∀ v' σ', K v' σ' → ho_ty [99, 11, 12, 4, 0] v' → ho_rng σ' → ho_P (ho_up1 C) 2416 [99, 11, 12, 4, 0] v' [] σ') : ho_P C 832 [99, 11, 12, 4, 0] v [] σ := by
  have ha : ho_SA (iLaw xs L) [99, 11, 12, 4, 0] [11, 0, 0, 4] 0 832 846 (la_setLook xs L) := (sa_cons (se_aload_n rfl rfl dL_law_832) (sa_cons (se_scr rfl rfl dL_law_833 (se_iadd (se_iload rfl dL_law_834) (se_iconst dL_law_836 rfl) dL_law_837) dL_law_838) (sa_cons (se_scr rfl rfl dL_law_839 (se_iadd (se_iload rfl dL_law_840) (se_iconst dL_law_842 rfl) dL_law_843) dL_law_844) (sa_cons (se_aload_n rfl rfl dL_law_845) sa_nil))))
  have s0 : ho_SS (iLaw xs L) 1 [99, 11, 12, 4, 0, 0] [99, 11, 12, 4, 0, 0, 0] 851 _ _ := ss_decl (se_callV kX7_setLook (sa_cons (se_aload_n rfl rfl dL_law_851) (sa_cons (se_scr rfl rfl dL_law_852 (se_iadd (se_iload rfl dL_law_853) (se_iconst dL_law_855 rfl) dL_law_856) dL_law_857) (sa_cons (se_scr rfl rfl dL_law_858 (se_iadd (se_iload rfl dL_law_859) (se_iconst dL_law_861 rfl) dL_law_862) dL_law_863) sa_nil))) dL_law_864 wk_915 wk_916 wk_917 hcX7 wk_478 wk_918 ykX7_setLook (Nat.le_of_ble_eq_true rfl) (Nat.le_of_ble_eq_true rfl) (Nat.le_of_ble_eq_true rfl) trivial) rfl (Nat.le_of_ble_eq_true rfl) dL_law_867
  have s1 : ho_SS (iLaw xs L) 1 [99, 11, 12, 4, 0, 0, 0] [99, 11, 12, 4, 0, 0, 0] _ _ _ := ss_if (sc_NeN (tgt := 880) (se_callV kX7_thrown (sa_cons (se_aload_n rfl rfl dL_law_869) sa_nil) dL_law_870 wk_844 wk_845 wk_846 hcX7 wk_478 wk_847 ykX7_thrown (Nat.le_of_ble_eq_true rfl) (Nat.le_of_ble_eq_true rfl) (Nat.le_of_ble_eq_true rfl) trivial) (se_iload rfl dL_law_873) dL_law_875 rfl) (ss_retZ (se_iconst dL_law_878 rfl) rfl dL_law_879) ss_nop
  have s2 : ho_SS (iLaw xs L) 1 [99, 11, 12, 4, 0, 0, 0] [99, 11, 12, 4, 0, 0, 0] _ _ _ := ss_if (sc_and (sc_EqN0 (tgt := 897) (se_iload rfl dL_law_880) dL_law_882 rfl) (sc_lng (tgt := 897) (se_aload_n rfl rfl dL_law_885) (se_iconst dL_law_886 rfl) dL_law_887 (se_iload rfl dL_law_888) dL_law_890 dL_law_891 dL_law_892 rfl)) (ss_retZ (se_iconst dL_law_895 rfl) rfl dL_law_896) ss_nop
  have fin : ho_SS (iLaw xs L) 1 [99, 11, 12, 4, 0, 0] [99, 11, 12, 4, 0] 851 2416 (lr_setLook xs L) := ss_go (tgt := 2416) (ss_blk (n := 5) (ss_seq s0 (ss_seq s1 s2)) rfl) dL_law_897 rfl
  refine ho_wcall (L := L) (xs := xs) kL_setLook ha dL_law_846 wk_912 wk_913 wk_838 wk_914 ⟨by decide +kernel, by decide +kernel, by decide +kernel⟩ (Nat.le_of_ble_eq_true rfl) (Nat.le_of_ble_eq_true rfl) rfl hC (K := fun k σ => lr_setLook xs L (v ++ [k]) σ K (fun _ _ => False) (fun _ _ => False)) (by rw [hX]; exact hf) hT hσ (fun x σ' hKx hx hσ' => ?_)
  refine lw_st (hC := hC1) (C := C) hx hT hσ' (Nat.le_of_ble_eq_true rfl) dL_law_849 (fun hT1 => ?_)
  exact fin _ hC1 (by rw [← hr]; rfl) _ _ K (by rw [ho_up1_X, ho_up1_Q, hX, hQ]; exact hKx) hT1 hσ' (fun v' σ2 h1 h2 h3 => kk v' σ2 h1 h2 h3)
def lf_captions (xs : Nat → Int32) (L : Nat) : List Int → ho_S → (List Int → ho_S → Prop) → Prop := fun v σ K => (zC (cNe (eK mX6_captions (aC (eV 1) aN)) (eK mX7_captions (aC (eV 2) aN))) (zRZ (eC 0)) zN) v σ K (fun _ _ => False) (fun _ _ => False)
set_option maxRecDepth 20000 in
theorem lk_captions {xs : Nat → Int32} {L : Nat} {C : ho_Cx} (hC : ho_ok C (iLaw xs L)) (hC1 : ho_ok (ho_up1 C) (iLaw xs L)) (hr : ho_ro C = 1) (hX : ho_X' C = fun _ _ => False) (hQ : ho_Q' C = fun _ _ => False) {v : List Int} {σ : ho_S} {K : List Int → ho_S → Prop} (hf : lf_captions xs L v σ K) (hT : ho_ty [99, 11, 12, 4, 0] v) (hσ : ho_rng σ) (kk : ∀ v' σ', K v' σ' → ho_ty [99, 11, 12, 4, 0] v' → ho_rng σ' → ho_P (ho_up1 C) 2416 [99, 11, 12, 4, 0] v' [] σ') : ho_P C 900 [99, 11, 12, 4, 0] v [] σ := by
  have fin : ho_SS (iLaw xs L) 1 [99, 11, 12, 4, 0] [99, 11, 12, 4, 0] 900 2416 _ := ss_if (sc_NeN (tgt := 2416) (se_callV kX6_captions (sa_cons (se_aload_n rfl rfl dL_law_900) sa_nil) dL_law_901 wk_919 wk_920 wk_921 hcX6 wk_4 wk_922 ykX6_captions (Nat.le_of_ble_eq_true rfl) (Nat.le_of_ble_eq_true rfl) (Nat.le_of_ble_eq_true rfl) trivial) (se_callV kX7_captions (sa_cons (se_aload_n rfl rfl dL_law_904) sa_nil) dL_law_905 wk_923 wk_924 wk_925 hcX7 wk_478 wk_926 ykX7_captions (Nat.le_of_ble_eq_true rfl) (Nat.le_of_ble_eq_true rfl) (Nat.le_of_ble_eq_true rfl) trivial) dL_law_908 rfl) (ss_retZ (se_iconst dL_law_911 rfl) rfl dL_law_912) ss_nop
  exact fin C hC hr v σ K (by rw [hX, hQ]; exact hf) hT hσ (fun v' σ' h1 h2 h3 => ho_wid (kk v' σ' h1 h2 h3))
def lr_startOf (xs : Nat → Int32) (L : Nat) : ho_Z := (zB 5 (zS (zD (eK mX7_startOf (aC (eV 2) (aC (eS xs L (eB ho_oadd (eV 4) (eC 1))) aN)))) (zS (zC (cNe (eK mX7_thrown (aC (eV 2) aN)) (eV 5)) (zRZ (eC 0)) zN) (zC (cAnd (cEq (eV 5) (eC 0)) (cNe (eI (eV 3) (eC 0)) (eV 6))) (zRZ (eC 0)) zN))))
def la_startOf (xs : Nat → Int32) (L : Nat) : ho_A := (aC (eV 1) (aC (eS xs L (eB ho_oadd (eV 4) (eC 1))) (aC (eV 3) aN)))
def lf_startOf (xs : Nat → Int32) (L : Nat) : List Int → ho_S → (List Int → ho_S → Prop) → Prop := fun v σ K => la_startOf xs L v σ (fun l σ => mL_startOf l σ (fun k σ => lr_startOf xs L (v ++ [k]) σ K (fun _ _ => False) (fun _ _ => False)) (fun _ _ => False)) (fun _ _ => False)
set_option maxRecDepth 20000 in
theorem lk_startOf {xs : Nat → Int32} {L : Nat} {C : ho_Cx} (hC : ho_ok C (iLaw xs L)) (hC1 : ho_ok (ho_up1 C) (iLaw xs L)) (hr : ho_ro C = 1) (hX : ho_X' C = fun _ _ => False) (hQ : ho_Q' C = fun _ _ => False) {v : List Int} {σ : ho_S} {K : List Int → ho_S → Prop} (hf : lf_startOf xs L v σ K) (hT : ho_ty [99, 11, 12, 4, 0] v) (hσ : ho_rng σ) (kk : ∀ v' σ', K v' σ' → ho_ty [99, 11, 12, 4, 0] v' → ho_rng σ' → ho_P (ho_up1 C) 2416 [99, 11, 12, 4, 0] v' [] σ') : ho_P C 913 [99, 11, 12, 4, 0] v [] σ := by
  have ha : ho_SA (iLaw xs L) [99, 11, 12, 4, 0] [11, 0, 4] 0 913 921 (la_startOf xs L) := (sa_cons (se_aload_n rfl rfl dL_law_913) (sa_cons (se_scr rfl rfl dL_law_914 (se_iadd (se_iload rfl dL_law_915) (se_iconst dL_law_917 rfl) dL_law_918) dL_law_919) (sa_cons (se_aload_n rfl rfl dL_law_920) sa_nil)))
  have s0 : ho_SS (iLaw xs L) 1 [99, 11, 12, 4, 0, 0] [99, 11, 12, 4, 0, 0, 0] 926 _ _ := ss_decl (se_callV kX7_startOf (sa_cons (se_aload_n rfl rfl dL_law_926) (sa_cons (se_scr rfl rfl dL_law_927 (se_iadd (se_iload rfl dL_law_928) (se_iconst dL_law_930 rfl) dL_law_931) dL_law_932) sa_nil)) dL_law_933 wk_930 wk_931 wk_932 hcX7 wk_478 wk_933 ykX7_startOf (Nat.le_of_ble_eq_true rfl) (Nat.le_of_ble_eq_true rfl) (Nat.le_of_ble_eq_true rfl) trivial) rfl (Nat.le_of_ble_eq_true rfl) dL_law_936
  have s1 : ho_SS (iLaw xs L) 1 [99, 11, 12, 4, 0, 0, 0] [99, 11, 12, 4, 0, 0, 0] _ _ _ := ss_if (sc_NeN (tgt := 949) (se_callV kX7_thrown (sa_cons (se_aload_n rfl rfl dL_law_938) sa_nil) dL_law_939 wk_844 wk_845 wk_846 hcX7 wk_478 wk_847 ykX7_thrown (Nat.le_of_ble_eq_true rfl) (Nat.le_of_ble_eq_true rfl) (Nat.le_of_ble_eq_true rfl) trivial) (se_iload rfl dL_law_942) dL_law_944 rfl) (ss_retZ (se_iconst dL_law_947 rfl) rfl dL_law_948) ss_nop
  have s2 : ho_SS (iLaw xs L) 1 [99, 11, 12, 4, 0, 0, 0] [99, 11, 12, 4, 0, 0, 0] _ _ _ := ss_if (sc_and (sc_EqN0 (tgt := 966) (se_iload rfl dL_law_949) dL_law_951 rfl) (sc_lng (tgt := 966) (se_aload_n rfl rfl dL_law_954) (se_iconst dL_law_955 rfl) dL_law_956 (se_iload rfl dL_law_957) dL_law_959 dL_law_960 dL_law_961 rfl)) (ss_retZ (se_iconst dL_law_964 rfl) rfl dL_law_965) ss_nop
  have fin : ho_SS (iLaw xs L) 1 [99, 11, 12, 4, 0, 0] [99, 11, 12, 4, 0] 926 2416 (lr_startOf xs L) := ss_go (tgt := 2416) (ss_blk (n := 5) (ss_seq s0 (ss_seq s1 s2)) rfl) dL_law_966 rfl
  refine ho_wcall (L := L) (xs := xs) kL_startOf ha dL_law_921 wk_927 wk_928 wk_838 wk_929 ⟨by decide +kernel, by decide +kernel, by decide +kernel⟩ (Nat.le_of_ble_eq_true rfl) (Nat.le_of_ble_eq_true rfl) rfl hC (K := fun k σ => lr_startOf xs L (v ++ [k]) σ K (fun _ _ => False) (fun _ _ => False)) (by rw [hX]; exact hf) hT hσ (fun x σ' hKx hx hσ' => ?_)
  refine lw_st (hC := hC1) (C := C) hx hT hσ' (Nat.le_of_ble_eq_true rfl) dL_law_924 (fun hT1 => ?_)
  exact fin _ hC1 (by rw [← hr]; rfl) _ _ K (by rw [ho_up1_X, ho_up1_Q, hX, hQ]; exact hKx) hT1 hσ' (fun v' σ2 h1 h2 h3 => kk v' σ2 h1 h2 h3)
def lr_lengthOf (xs : Nat → Int32) (L : Nat) : ho_Z := (zB 5 (zS (zD (eK mX7_lengthOf (aC (eV 2) (aC (eS xs L (eB ho_oadd (eV 4) (eC 1))) aN)))) (zS (zC (cNe (eK mX7_thrown (aC (eV 2) aN)) (eV 5)) (zRZ (eC 0)) zN) (zC (cAnd (cEq (eV 5) (eC 0)) (cNe (eI (eV 3) (eC 0)) (eV 6))) (zRZ (eC 0)) zN))))
def la_lengthOf (xs : Nat → Int32) (L : Nat) : ho_A := (aC (eV 1) (aC (eS xs L (eB ho_oadd (eV 4) (eC 1))) (aC (eV 3) aN)))
def lf_lengthOf (xs : Nat → Int32) (L : Nat) : List Int → ho_S → (List Int → ho_S → Prop) → Prop := fun v σ K => la_lengthOf xs L v σ (fun l σ => mL_lengthOf l σ (fun k σ => lr_lengthOf xs L (v ++ [k]) σ K (fun _ _ => False) (fun _ _ => False)) (fun _ _ => False)) (fun _ _ => False)
set_option maxRecDepth 20000 in
theorem lk_lengthOf {xs : Nat → Int32} {L : Nat} {C : ho_Cx} (hC : ho_ok C (iLaw xs L)) (hC1 : ho_ok (ho_up1 C) (iLaw xs L)) (hr : ho_ro C = 1) (hX : ho_X' C = fun _ _ => False) (hQ : ho_Q' C = fun _ _ => False) {v : List Int} {σ : ho_S} {K : List Int → ho_S → Prop} (hf : lf_lengthOf xs L v σ K) (hT : ho_ty [99, 11, 12, 4, 0] v) (hσ : ho_rng σ) (kk : ∀ v' σ', K v' σ' → ho_ty [99, 11, 12, 4, 0] v' → ho_rng σ' → ho_P (ho_up1 C) 2416 [99, 11, 12, 4, 0] v' [] σ') : ho_P C 969 [99, 11, 12, 4, 0] v [] σ := by
  have ha : ho_SA (iLaw xs L) [99, 11, 12, 4, 0] [11, 0, 4] 0 969 977 (la_lengthOf xs L) := (sa_cons (se_aload_n rfl rfl dL_law_969) (sa_cons (se_scr rfl rfl dL_law_970 (se_iadd (se_iload rfl dL_law_971) (se_iconst dL_law_973 rfl) dL_law_974) dL_law_975) (sa_cons (se_aload_n rfl rfl dL_law_976) sa_nil)))
  have s0 : ho_SS (iLaw xs L) 1 [99, 11, 12, 4, 0, 0] [99, 11, 12, 4, 0, 0, 0] 982 _ _ := ss_decl (se_callV kX7_lengthOf (sa_cons (se_aload_n rfl rfl dL_law_982) (sa_cons (se_scr rfl rfl dL_law_983 (se_iadd (se_iload rfl dL_law_984) (se_iconst dL_law_986 rfl) dL_law_987) dL_law_988) sa_nil)) dL_law_989 wk_937 wk_938 wk_939 hcX7 wk_478 wk_940 ykX7_lengthOf (Nat.le_of_ble_eq_true rfl) (Nat.le_of_ble_eq_true rfl) (Nat.le_of_ble_eq_true rfl) trivial) rfl (Nat.le_of_ble_eq_true rfl) dL_law_992
  have s1 : ho_SS (iLaw xs L) 1 [99, 11, 12, 4, 0, 0, 0] [99, 11, 12, 4, 0, 0, 0] _ _ _ := ss_if (sc_NeN (tgt := 1005) (se_callV kX7_thrown (sa_cons (se_aload_n rfl rfl dL_law_994) sa_nil) dL_law_995 wk_844 wk_845 wk_846 hcX7 wk_478 wk_847 ykX7_thrown (Nat.le_of_ble_eq_true rfl) (Nat.le_of_ble_eq_true rfl) (Nat.le_of_ble_eq_true rfl) trivial) (se_iload rfl dL_law_998) dL_law_1000 rfl) (ss_retZ (se_iconst dL_law_1003 rfl) rfl dL_law_1004) ss_nop
  have s2 : ho_SS (iLaw xs L) 1 [99, 11, 12, 4, 0, 0, 0] [99, 11, 12, 4, 0, 0, 0] _ _ _ := ss_if (sc_and (sc_EqN0 (tgt := 1022) (se_iload rfl dL_law_1005) dL_law_1007 rfl) (sc_lng (tgt := 1022) (se_aload_n rfl rfl dL_law_1010) (se_iconst dL_law_1011 rfl) dL_law_1012 (se_iload rfl dL_law_1013) dL_law_1015 dL_law_1016 dL_law_1017 rfl)) (ss_retZ (se_iconst dL_law_1020 rfl) rfl dL_law_1021) ss_nop
  have fin : ho_SS (iLaw xs L) 1 [99, 11, 12, 4, 0, 0] [99, 11, 12, 4, 0] 982 2416 (lr_lengthOf xs L) := ss_go (tgt := 2416) (ss_blk (n := 5) (ss_seq s0 (ss_seq s1 s2)) rfl) dL_law_1022 rfl
  refine ho_wcall (L := L) (xs := xs) kL_lengthOf ha dL_law_977 wk_934 wk_935 wk_838 wk_936 ⟨by decide +kernel, by decide +kernel, by decide +kernel⟩ (Nat.le_of_ble_eq_true rfl) (Nat.le_of_ble_eq_true rfl) rfl hC (K := fun k σ => lr_lengthOf xs L (v ++ [k]) σ K (fun _ _ => False) (fun _ _ => False)) (by rw [hX]; exact hf) hT hσ (fun x σ' hKx hx hσ' => ?_)
  refine lw_st (hC := hC1) (C := C) hx hT hσ' (Nat.le_of_ble_eq_true rfl) dL_law_980 (fun hT1 => ?_)
  exact fin _ hC1 (by rw [← hr]; rfl) _ _ K (by rw [ho_up1_X, ho_up1_Q, hX, hQ]; exact hKx) hT1 hσ' (fun v' σ2 h1 h2 h3 => kk v' σ2 h1 h2 h3)
def lr_startByFrames (xs : Nat → Int32) (L : Nat) : ho_Z := (zB 5 (zS (zD (eK mX7_startByFrames (aC (eV 2) (aC (eS xs L (eB ho_oadd (eV 4) (eC 1))) aN)))) (zS (zC (cNe (eK mX7_thrown (aC (eV 2) aN)) (eV 5)) (zRZ (eC 0)) zN) (zC (cAnd (cEq (eV 5) (eC 0)) (cNe (eI (eV 3) (eC 0)) (eV 6))) (zRZ (eC 0)) zN))))
def la_startByFrames (xs : Nat → Int32) (L : Nat) : ho_A := (aC (eV 1) (aC (eS xs L (eB ho_oadd (eV 4) (eC 1))) (aC (eV 3) aN)))
def lf_startByFrames (xs : Nat → Int32) (L : Nat) : List Int → ho_S → (List Int → ho_S → Prop) → Prop := fun v σ K => la_startByFrames xs L v σ (fun l σ => mL_startByFrames l σ (fun k σ => lr_startByFrames xs L (v ++ [k]) σ K (fun _ _ => False) (fun _ _ => False)) (fun _ _ => False)) (fun _ _ => False)
set_option maxRecDepth 20000 in
theorem lk_startByFrames {xs : Nat → Int32} {L : Nat} {C : ho_Cx} (hC : ho_ok C (iLaw xs L)) (hC1 : ho_ok (ho_up1 C) (iLaw xs L)) (hr : ho_ro C = 1) (hX : ho_X' C = fun _ _ => False) (hQ : ho_Q' C = fun _ _ => False) {v : List Int} {σ : ho_S} {K : List Int → ho_S → Prop} (hf : lf_startByFrames xs L v σ K) (hT : ho_ty [99, 11, 12, 4, 0] v) (hσ : ho_rng σ) (kk : ∀ v' σ', K v' σ' → ho_ty [99, 11, 12, 4, 0] v' → ho_rng σ' → ho_P (ho_up1 C) 2416 [99, 11, 12, 4, 0] v' [] σ') : ho_P C 1025 [99, 11, 12, 4, 0] v [] σ := by
  have ha : ho_SA (iLaw xs L) [99, 11, 12, 4, 0] [11, 0, 4] 0 1025 1033 (la_startByFrames xs L) := (sa_cons (se_aload_n rfl rfl dL_law_1025) (sa_cons (se_scr rfl rfl dL_law_1026 (se_iadd (se_iload rfl dL_law_1027) (se_iconst dL_law_1029 rfl) dL_law_1030) dL_law_1031) (sa_cons (se_aload_n rfl rfl dL_law_1032) sa_nil)))
  have s0 : ho_SS (iLaw xs L) 1 [99, 11, 12, 4, 0, 0] [99, 11, 12, 4, 0, 0, 0] 1038 _ _ := ss_decl (se_callV kX7_startByFrames (sa_cons (se_aload_n rfl rfl dL_law_1038) (sa_cons (se_scr rfl rfl dL_law_1039 (se_iadd (se_iload rfl dL_law_1040) (se_iconst dL_law_1042 rfl) dL_law_1043) dL_law_1044) sa_nil)) dL_law_1045 wk_944 wk_945 wk_946 hcX7 wk_478 wk_947 ykX7_startByFrames (Nat.le_of_ble_eq_true rfl) (Nat.le_of_ble_eq_true rfl) (Nat.le_of_ble_eq_true rfl) trivial) rfl (Nat.le_of_ble_eq_true rfl) dL_law_1048
  have s1 : ho_SS (iLaw xs L) 1 [99, 11, 12, 4, 0, 0, 0] [99, 11, 12, 4, 0, 0, 0] _ _ _ := ss_if (sc_NeN (tgt := 1061) (se_callV kX7_thrown (sa_cons (se_aload_n rfl rfl dL_law_1050) sa_nil) dL_law_1051 wk_844 wk_845 wk_846 hcX7 wk_478 wk_847 ykX7_thrown (Nat.le_of_ble_eq_true rfl) (Nat.le_of_ble_eq_true rfl) (Nat.le_of_ble_eq_true rfl) trivial) (se_iload rfl dL_law_1054) dL_law_1056 rfl) (ss_retZ (se_iconst dL_law_1059 rfl) rfl dL_law_1060) ss_nop
  have s2 : ho_SS (iLaw xs L) 1 [99, 11, 12, 4, 0, 0, 0] [99, 11, 12, 4, 0, 0, 0] _ _ _ := ss_if (sc_and (sc_EqN0 (tgt := 1078) (se_iload rfl dL_law_1061) dL_law_1063 rfl) (sc_lng (tgt := 1078) (se_aload_n rfl rfl dL_law_1066) (se_iconst dL_law_1067 rfl) dL_law_1068 (se_iload rfl dL_law_1069) dL_law_1071 dL_law_1072 dL_law_1073 rfl)) (ss_retZ (se_iconst dL_law_1076 rfl) rfl dL_law_1077) ss_nop
  have fin : ho_SS (iLaw xs L) 1 [99, 11, 12, 4, 0, 0] [99, 11, 12, 4, 0] 1038 2416 (lr_startByFrames xs L) := ss_go (tgt := 2416) (ss_blk (n := 5) (ss_seq s0 (ss_seq s1 s2)) rfl) dL_law_1078 rfl
  refine ho_wcall (L := L) (xs := xs) kL_startByFrames ha dL_law_1033 wk_941 wk_942 wk_838 wk_943 ⟨by decide +kernel, by decide +kernel, by decide +kernel⟩ (Nat.le_of_ble_eq_true rfl) (Nat.le_of_ble_eq_true rfl) rfl hC (K := fun k σ => lr_startByFrames xs L (v ++ [k]) σ K (fun _ _ => False) (fun _ _ => False)) (by rw [hX]; exact hf) hT hσ (fun x σ' hKx hx hσ' => ?_)
  refine lw_st (hC := hC1) (C := C) hx hT hσ' (Nat.le_of_ble_eq_true rfl) dL_law_1036 (fun hT1 => ?_)
  exact fin _ hC1 (by rw [← hr]; rfl) _ _ K (by rw [ho_up1_X, ho_up1_Q, hX, hQ]; exact hKx) hT1 hσ' (fun v' σ2 h1 h2 h3 => kk v' σ2 h1 h2 h3)
def lr_inOrder (xs : Nat → Int32) (L : Nat) : ho_Z := (zB 5 (zS (zD (eK mX7_inOrder (aC (eV 2) (aC (eS xs L (eB ho_oadd (eV 4) (eC 1))) aN)))) (zS (zC (cNe (eK mX7_thrown (aC (eV 2) aN)) (eV 5)) (zRZ (eC 0)) zN) (zC (cAnd (cEq (eV 5) (eC 0)) (cNe (eI (eV 3) (eC 0)) (eV 6))) (zRZ (eC 0)) zN))))
def la_inOrder (xs : Nat → Int32) (L : Nat) : ho_A := (aC (eV 1) (aC (eS xs L (eB ho_oadd (eV 4) (eC 1))) (aC (eV 3) aN)))
def lf_inOrder (xs : Nat → Int32) (L : Nat) : List Int → ho_S → (List Int → ho_S → Prop) → Prop := fun v σ K => la_inOrder xs L v σ (fun l σ => mL_inOrder l σ (fun k σ => lr_inOrder xs L (v ++ [k]) σ K (fun _ _ => False) (fun _ _ => False)) (fun _ _ => False)) (fun _ _ => False)
set_option maxRecDepth 20000 in
theorem lk_inOrder {xs : Nat → Int32} {L : Nat} {C : ho_Cx} (hC : ho_ok C (iLaw xs L)) (hC1 : ho_ok (ho_up1 C) (iLaw xs L)) (hr : ho_ro C = 1) (hX : ho_X' C = fun _ _ => False) (hQ : ho_Q' C = fun _ _ => False) {v : List Int} {σ : ho_S} {K : List Int → ho_S → Prop} (hf : lf_inOrder xs L v σ K) (hT : ho_ty [99, 11, 12, 4, 0] v) (hσ : ho_rng σ) (kk : ∀ v' σ', K v' σ' → ho_ty [99, 11, 12, 4, 0] v' → ho_rng σ' → ho_P (ho_up1 C) 2416 [99, 11, 12, 4, 0] v' [] σ') : ho_P C 1081 [99, 11, 12, 4, 0] v [] σ := by
  have ha : ho_SA (iLaw xs L) [99, 11, 12, 4, 0] [11, 0, 4] 0 1081 1089 (la_inOrder xs L) := (sa_cons (se_aload_n rfl rfl dL_law_1081) (sa_cons (se_scr rfl rfl dL_law_1082 (se_iadd (se_iload rfl dL_law_1083) (se_iconst dL_law_1085 rfl) dL_law_1086) dL_law_1087) (sa_cons (se_aload_n rfl rfl dL_law_1088) sa_nil)))
  have s0 : ho_SS (iLaw xs L) 1 [99, 11, 12, 4, 0, 0] [99, 11, 12, 4, 0, 0, 0] 1094 _ _ := ss_decl (se_callV kX7_inOrder (sa_cons (se_aload_n rfl rfl dL_law_1094) (sa_cons (se_scr rfl rfl dL_law_1095 (se_iadd (se_iload rfl dL_law_1096) (se_iconst dL_law_1098 rfl) dL_law_1099) dL_law_1100) sa_nil)) dL_law_1101 wk_951 wk_952 wk_953 hcX7 wk_478 wk_954 ykX7_inOrder (Nat.le_of_ble_eq_true rfl) (Nat.le_of_ble_eq_true rfl) (Nat.le_of_ble_eq_true rfl) trivial) rfl (Nat.le_of_ble_eq_true rfl) dL_law_1104
  have s1 : ho_SS (iLaw xs L) 1 [99, 11, 12, 4, 0, 0, 0] [99, 11, 12, 4, 0, 0, 0] _ _ _ := ss_if (sc_NeN (tgt := 1117) (se_callV kX7_thrown (sa_cons (se_aload_n rfl rfl dL_law_1106) sa_nil) dL_law_1107 wk_844 wk_845 wk_846 hcX7 wk_478 wk_847 ykX7_thrown (Nat.le_of_ble_eq_true rfl) (Nat.le_of_ble_eq_true rfl) (Nat.le_of_ble_eq_true rfl) trivial) (se_iload rfl dL_law_1110) dL_law_1112 rfl) (ss_retZ (se_iconst dL_law_1115 rfl) rfl dL_law_1116) ss_nop
  have s2 : ho_SS (iLaw xs L) 1 [99, 11, 12, 4, 0, 0, 0] [99, 11, 12, 4, 0, 0, 0] _ _ _ := ss_if (sc_and (sc_EqN0 (tgt := 1134) (se_iload rfl dL_law_1117) dL_law_1119 rfl) (sc_lng (tgt := 1134) (se_aload_n rfl rfl dL_law_1122) (se_iconst dL_law_1123 rfl) dL_law_1124 (se_iload rfl dL_law_1125) dL_law_1127 dL_law_1128 dL_law_1129 rfl)) (ss_retZ (se_iconst dL_law_1132 rfl) rfl dL_law_1133) ss_nop
  have fin : ho_SS (iLaw xs L) 1 [99, 11, 12, 4, 0, 0] [99, 11, 12, 4, 0] 1094 2416 (lr_inOrder xs L) := ss_go (tgt := 2416) (ss_blk (n := 5) (ss_seq s0 (ss_seq s1 s2)) rfl) dL_law_1134 rfl
  refine ho_wcall (L := L) (xs := xs) kL_inOrder ha dL_law_1089 wk_948 wk_949 wk_838 wk_950 ⟨by decide +kernel, by decide +kernel, by decide +kernel⟩ (Nat.le_of_ble_eq_true rfl) (Nat.le_of_ble_eq_true rfl) rfl hC (K := fun k σ => lr_inOrder xs L (v ++ [k]) σ K (fun _ _ => False) (fun _ _ => False)) (by rw [hX]; exact hf) hT hσ (fun x σ' hKx hx hσ' => ?_)
  refine lw_st (hC := hC1) (C := C) hx hT hσ' (Nat.le_of_ble_eq_true rfl) dL_law_1092 (fun hT1 => ?_)
  exact fin _ hC1 (by rw [← hr]; rfl) _ _ K (by rw [ho_up1_X, ho_up1_Q, hX, hQ]; exact hKx) hT1 hσ' (fun v' σ2 h1 h2 h3 => kk v' σ2 h1 h2 h3)
def lr_type (xs : Nat → Int32) (L : Nat) : ho_Z := (zB 5 (zS (zD (eK mX7_type (aC (eV 2) (aC (eS xs L (eB ho_oadd (eV 4) (eC 1))) (aC (eS xs L (eB ho_oadd (eV 4) (eC 2))) (aC (eS xs L (eB ho_oadd (eV 4) (eC 3))) aN)))))) (zS (zC (cNe (eK mX7_thrown (aC (eV 2) aN)) (eV 5)) (zRZ (eC 0)) zN) (zC (cAnd (cEq (eV 5) (eC 0)) (cNe (eI (eV 3) (eC 0)) (eV 6))) (zRZ (eC 0)) zN))))
def la_type (xs : Nat → Int32) (L : Nat) : ho_A := (aC (eV 1) (aC (eS xs L (eB ho_oadd (eV 4) (eC 1))) (aC (eS xs L (eB ho_oadd (eV 4) (eC 2))) (aC (eS xs L (eB ho_oadd (eV 4) (eC 3))) (aC (eV 3) aN)))))
def lf_type (xs : Nat → Int32) (L : Nat) : List Int → ho_S → (List Int → ho_S → Prop) → Prop := fun v σ K => la_type xs L v σ (fun l σ => mL_type l σ (fun k σ => lr_type xs L (v ++ [k]) σ K (fun _ _ => False) (fun _ _ => False)) (fun _ _ => False)) (fun _ _ => False)
set_option maxRecDepth 20000 in
theorem lk_type {xs : Nat → Int32} {L : Nat} {C : ho_Cx} (hC : ho_ok C (iLaw xs L)) (hC1 : ho_ok (ho_up1 C) (iLaw xs L)) (hr : ho_ro C = 1) (hX : ho_X' C = fun _ _ => False) (hQ : ho_Q' C = fun _ _ => False) {v : List Int} {σ : ho_S} {K : List Int → ho_S → Prop} (hf : lf_type xs L v σ K) (hT : ho_ty [99, 11, 12, 4, 0] v) (hσ : ho_rng σ) (kk : ∀ v' σ', K v' σ' → ho_ty [99, 11, 12, 4, 0] v' → ho_rng σ' → ho_P (ho_up1 C) 2416 [99, 11, 12, 4, 0] v' [] σ') : ho_P C 1137 [99, 11, 12, 4, 0] v [] σ := by
  have ha : ho_SA (iLaw xs L) [99, 11, 12, 4, 0] [11, 0, 0, 0, 4] 0 1137 1157 (la_type xs L) := (sa_cons (se_aload_n rfl rfl dL_law_1137) (sa_cons (se_scr rfl rfl dL_law_1138 (se_iadd (se_iload rfl dL_law_1139) (se_iconst dL_law_1141 rfl) dL_law_1142) dL_law_1143) (sa_cons (se_scr rfl rfl dL_law_1144 (se_iadd (se_iload rfl dL_law_1145) (se_iconst dL_law_1147 rfl) dL_law_1148) dL_law_1149) (sa_cons (se_scr rfl rfl dL_law_1150 (se_iadd (se_iload rfl dL_law_1151) (se_iconst dL_law_1153 rfl) dL_law_1154) dL_law_1155) (sa_cons (se_aload_n rfl rfl dL_law_1156) sa_nil)))))
  have s0 : ho_SS (iLaw xs L) 1 [99, 11, 12, 4, 0, 0] [99, 11, 12, 4, 0, 0, 0] 1162 _ _ := ss_decl (se_callV kX7_type (sa_cons (se_aload_n rfl rfl dL_law_1162) (sa_cons (se_scr rfl rfl dL_law_1163 (se_iadd (se_iload rfl dL_law_1164) (se_iconst dL_law_1166 rfl) dL_law_1167) dL_law_1168) (sa_cons (se_scr rfl rfl dL_law_1169 (se_iadd (se_iload rfl dL_law_1170) (se_iconst dL_law_1172 rfl) dL_law_1173) dL_law_1174) (sa_cons (se_scr rfl rfl dL_law_1175 (se_iadd (se_iload rfl dL_law_1176) (se_iconst dL_law_1178 rfl) dL_law_1179) dL_law_1180) sa_nil)))) dL_law_1181 wk_958 wk_959 wk_960 hcX7 wk_478 wk_961 ykX7_type (Nat.le_of_ble_eq_true rfl) (Nat.le_of_ble_eq_true rfl) (Nat.le_of_ble_eq_true rfl) trivial) rfl (Nat.le_of_ble_eq_true rfl) dL_law_1184
  have s1 : ho_SS (iLaw xs L) 1 [99, 11, 12, 4, 0, 0, 0] [99, 11, 12, 4, 0, 0, 0] _ _ _ := ss_if (sc_NeN (tgt := 1197) (se_callV kX7_thrown (sa_cons (se_aload_n rfl rfl dL_law_1186) sa_nil) dL_law_1187 wk_844 wk_845 wk_846 hcX7 wk_478 wk_847 ykX7_thrown (Nat.le_of_ble_eq_true rfl) (Nat.le_of_ble_eq_true rfl) (Nat.le_of_ble_eq_true rfl) trivial) (se_iload rfl dL_law_1190) dL_law_1192 rfl) (ss_retZ (se_iconst dL_law_1195 rfl) rfl dL_law_1196) ss_nop
  have s2 : ho_SS (iLaw xs L) 1 [99, 11, 12, 4, 0, 0, 0] [99, 11, 12, 4, 0, 0, 0] _ _ _ := ss_if (sc_and (sc_EqN0 (tgt := 1214) (se_iload rfl dL_law_1197) dL_law_1199 rfl) (sc_lng (tgt := 1214) (se_aload_n rfl rfl dL_law_1202) (se_iconst dL_law_1203 rfl) dL_law_1204 (se_iload rfl dL_law_1205) dL_law_1207 dL_law_1208 dL_law_1209 rfl)) (ss_retZ (se_iconst dL_law_1212 rfl) rfl dL_law_1213) ss_nop
  have fin : ho_SS (iLaw xs L) 1 [99, 11, 12, 4, 0, 0] [99, 11, 12, 4, 0] 1162 2416 (lr_type xs L) := ss_go (tgt := 2416) (ss_blk (n := 5) (ss_seq s0 (ss_seq s1 s2)) rfl) dL_law_1214 rfl
  refine ho_wcall (L := L) (xs := xs) kL_type ha dL_law_1157 wk_955 wk_956 wk_838 wk_957 ⟨by decide +kernel, by decide +kernel, by decide +kernel⟩ (Nat.le_of_ble_eq_true rfl) (Nat.le_of_ble_eq_true rfl) rfl hC (K := fun k σ => lr_type xs L (v ++ [k]) σ K (fun _ _ => False) (fun _ _ => False)) (by rw [hX]; exact hf) hT hσ (fun x σ' hKx hx hσ' => ?_)
  refine lw_st (hC := hC1) (C := C) hx hT hσ' (Nat.le_of_ble_eq_true rfl) dL_law_1160 (fun hT1 => ?_)
  exact fin _ hC1 (by rw [← hr]; rfl) _ _ K (by rw [ho_up1_X, ho_up1_Q, hX, hQ]; exact hKx) hT1 hσ' (fun v' σ2 h1 h2 h3 => kk v' σ2 h1 h2 h3)
def lr_erase (xs : Nat → Int32) (L : Nat) : ho_Z := (zB 5 (zS (zD (eK mX7_erase (aC (eV 2) (aC (eS xs L (eB ho_oadd (eV 4) (eC 1))) (aC (eS xs L (eB ho_oadd (eV 4) (eC 2))) aN))))) (zS (zC (cNe (eK mX7_thrown (aC (eV 2) aN)) (eV 5)) (zRZ (eC 0)) zN) (zC (cAnd (cEq (eV 5) (eC 0)) (cNe (eI (eV 3) (eC 0)) (eV 6))) (zRZ (eC 0)) zN))))
def la_erase (xs : Nat → Int32) (L : Nat) : ho_A := (aC (eV 1) (aC (eS xs L (eB ho_oadd (eV 4) (eC 1))) (aC (eS xs L (eB ho_oadd (eV 4) (eC 2))) (aC (eV 3) aN))))
def lf_erase (xs : Nat → Int32) (L : Nat) : List Int → ho_S → (List Int → ho_S → Prop) → Prop := fun v σ K => la_erase xs L v σ (fun l σ => mL_erase l σ (fun k σ => lr_erase xs L (v ++ [k]) σ K (fun _ _ => False) (fun _ _ => False)) (fun _ _ => False)) (fun _ _ => False)
set_option maxRecDepth 20000 in
theorem lk_erase {xs : Nat → Int32} {L : Nat} {C : ho_Cx} (hC : ho_ok C (iLaw xs L)) (hC1 : ho_ok (ho_up1 C) (iLaw xs L)) (hr : ho_ro C = 1) (hX : ho_X' C = fun _ _ => False) (hQ : ho_Q' C = fun _ _ => False) {v : List Int} {σ : ho_S} {K : List Int → ho_S → Prop} (hf : lf_erase xs L v σ K) (hT : ho_ty [99, 11, 12, 4, 0] v) (hσ : ho_rng σ) (kk : ∀ v' σ', K v' σ' → ho_ty [99, 11, 12, 4, 0] v' → ho_rng σ' → ho_P (ho_up1 C) 2416 [99, 11, 12, 4, 0] v' [] σ') : ho_P C 1217 [99, 11, 12, 4, 0] v [] σ := by
  have ha : ho_SA (iLaw xs L) [99, 11, 12, 4, 0] [11, 0, 0, 4] 0 1217 1231 (la_erase xs L) := (sa_cons (se_aload_n rfl rfl dL_law_1217) (sa_cons (se_scr rfl rfl dL_law_1218 (se_iadd (se_iload rfl dL_law_1219) (se_iconst dL_law_1221 rfl) dL_law_1222) dL_law_1223) (sa_cons (se_scr rfl rfl dL_law_1224 (se_iadd (se_iload rfl dL_law_1225) (se_iconst dL_law_1227 rfl) dL_law_1228) dL_law_1229) (sa_cons (se_aload_n rfl rfl dL_law_1230) sa_nil))))
  have s0 : ho_SS (iLaw xs L) 1 [99, 11, 12, 4, 0, 0] [99, 11, 12, 4, 0, 0, 0] 1236 _ _ := ss_decl (se_callV kX7_erase (sa_cons (se_aload_n rfl rfl dL_law_1236) (sa_cons (se_scr rfl rfl dL_law_1237 (se_iadd (se_iload rfl dL_law_1238) (se_iconst dL_law_1240 rfl) dL_law_1241) dL_law_1242) (sa_cons (se_scr rfl rfl dL_law_1243 (se_iadd (se_iload rfl dL_law_1244) (se_iconst dL_law_1246 rfl) dL_law_1247) dL_law_1248) sa_nil))) dL_law_1249 wk_965 wk_966 wk_967 hcX7 wk_478 wk_968 ykX7_erase (Nat.le_of_ble_eq_true rfl) (Nat.le_of_ble_eq_true rfl) (Nat.le_of_ble_eq_true rfl) trivial) rfl (Nat.le_of_ble_eq_true rfl) dL_law_1252
  have s1 : ho_SS (iLaw xs L) 1 [99, 11, 12, 4, 0, 0, 0] [99, 11, 12, 4, 0, 0, 0] _ _ _ := ss_if (sc_NeN (tgt := 1265) (se_callV kX7_thrown (sa_cons (se_aload_n rfl rfl dL_law_1254) sa_nil) dL_law_1255 wk_844 wk_845 wk_846 hcX7 wk_478 wk_847 ykX7_thrown (Nat.le_of_ble_eq_true rfl) (Nat.le_of_ble_eq_true rfl) (Nat.le_of_ble_eq_true rfl) trivial) (se_iload rfl dL_law_1258) dL_law_1260 rfl) (ss_retZ (se_iconst dL_law_1263 rfl) rfl dL_law_1264) ss_nop
  have s2 : ho_SS (iLaw xs L) 1 [99, 11, 12, 4, 0, 0, 0] [99, 11, 12, 4, 0, 0, 0] _ _ _ := ss_if (sc_and (sc_EqN0 (tgt := 1282) (se_iload rfl dL_law_1265) dL_law_1267 rfl) (sc_lng (tgt := 1282) (se_aload_n rfl rfl dL_law_1270) (se_iconst dL_law_1271 rfl) dL_law_1272 (se_iload rfl dL_law_1273) dL_law_1275 dL_law_1276 dL_law_1277 rfl)) (ss_retZ (se_iconst dL_law_1280 rfl) rfl dL_law_1281) ss_nop
  have fin : ho_SS (iLaw xs L) 1 [99, 11, 12, 4, 0, 0] [99, 11, 12, 4, 0] 1236 2416 (lr_erase xs L) := ss_go (tgt := 2416) (ss_blk (n := 5) (ss_seq s0 (ss_seq s1 s2)) rfl) dL_law_1282 rfl
  refine ho_wcall (L := L) (xs := xs) kL_erase ha dL_law_1231 wk_962 wk_963 wk_838 wk_964 ⟨by decide +kernel, by decide +kernel, by decide +kernel⟩ (Nat.le_of_ble_eq_true rfl) (Nat.le_of_ble_eq_true rfl) rfl hC (K := fun k σ => lr_erase xs L (v ++ [k]) σ K (fun _ _ => False) (fun _ _ => False)) (by rw [hX]; exact hf) hT hσ (fun x σ' hKx hx hσ' => ?_)
  refine lw_st (hC := hC1) (C := C) hx hT hσ' (Nat.le_of_ble_eq_true rfl) dL_law_1234 (fun hT1 => ?_)
  exact fin _ hC1 (by rw [← hr]; rfl) _ _ K (by rw [ho_up1_X, ho_up1_Q, hX, hQ]; exact hKx) hT1 hσ' (fun v' σ2 h1 h2 h3 => kk v' σ2 h1 h2 h3)
def lr_signs (xs : Nat → Int32) (L : Nat) : ho_Z := (zB 5 (zS (zD (eK mX7_signs (aC (eV 2) (aC (eS xs L (eB ho_oadd (eV 4) (eC 1))) (aC (eS xs L (eB ho_oadd (eV 4) (eC 2))) aN))))) (zS (zC (cNe (eK mX7_thrown (aC (eV 2) aN)) (eV 5)) (zRZ (eC 0)) zN) (zC (cAnd (cEq (eV 5) (eC 0)) (cNe (eI (eV 3) (eC 0)) (eV 6))) (zRZ (eC 0)) zN))))
def la_signs (xs : Nat → Int32) (L : Nat) : ho_A := (aC (eV 1) (aC (eS xs L (eB ho_oadd (eV 4) (eC 1))) (aC (eS xs L (eB ho_oadd (eV 4) (eC 2))) (aC (eV 3) aN))))
def lf_signs (xs : Nat → Int32) (L : Nat) : List Int → ho_S → (List Int → ho_S → Prop) → Prop := fun v σ K => la_signs xs L v σ (fun l σ => mL_signs l σ (fun k σ => lr_signs xs L (v ++ [k]) σ K (fun _ _ => False) (fun _ _ => False)) (fun _ _ => False)) (fun _ _ => False)
set_option maxRecDepth 20000 in
theorem lk_signs {xs : Nat → Int32} {L : Nat} {C : ho_Cx} (hC : ho_ok C (iLaw xs L)) (hC1 : ho_ok (ho_up1 C) (iLaw xs L)) (hr : ho_ro C = 1) (hX : ho_X' C = fun _ _ => False) (hQ : ho_Q' C = fun _ _ => False) {v : List Int} {σ : ho_S} {K : List Int → ho_S → Prop} (hf : lf_signs xs L v σ K) (hT : ho_ty [99, 11, 12, 4, 0] v) (hσ : ho_rng σ) (kk : ∀ v' σ', K v' σ' → ho_ty [99, 11, 12, 4, 0] v' → ho_rng σ' → ho_P (ho_up1 C) 2416 [99, 11, 12, 4, 0] v' [] σ') : ho_P C 1285 [99, 11, 12, 4, 0] v [] σ := by
  have ha : ho_SA (iLaw xs L) [99, 11, 12, 4, 0] [11, 0, 0, 4] 0 1285 1299 (la_signs xs L) := (sa_cons (se_aload_n rfl rfl dL_law_1285) (sa_cons (se_scr rfl rfl dL_law_1286 (se_iadd (se_iload rfl dL_law_1287) (se_iconst dL_law_1289 rfl) dL_law_1290) dL_law_1291) (sa_cons (se_scr rfl rfl dL_law_1292 (se_iadd (se_iload rfl dL_law_1293) (se_iconst dL_law_1295 rfl) dL_law_1296) dL_law_1297) (sa_cons (se_aload_n rfl rfl dL_law_1298) sa_nil))))
  have s0 : ho_SS (iLaw xs L) 1 [99, 11, 12, 4, 0, 0] [99, 11, 12, 4, 0, 0, 0] 1304 _ _ := ss_decl (se_callV kX7_signs (sa_cons (se_aload_n rfl rfl dL_law_1304) (sa_cons (se_scr rfl rfl dL_law_1305 (se_iadd (se_iload rfl dL_law_1306) (se_iconst dL_law_1308 rfl) dL_law_1309) dL_law_1310) (sa_cons (se_scr rfl rfl dL_law_1311 (se_iadd (se_iload rfl dL_law_1312) (se_iconst dL_law_1314 rfl) dL_law_1315) dL_law_1316) sa_nil))) dL_law_1317 wk_972 wk_973 wk_974 hcX7 wk_478 wk_975 ykX7_signs (Nat.le_of_ble_eq_true rfl) (Nat.le_of_ble_eq_true rfl) (Nat.le_of_ble_eq_true rfl) trivial) rfl (Nat.le_of_ble_eq_true rfl) dL_law_1320
  have s1 : ho_SS (iLaw xs L) 1 [99, 11, 12, 4, 0, 0, 0] [99, 11, 12, 4, 0, 0, 0] _ _ _ := ss_if (sc_NeN (tgt := 1333) (se_callV kX7_thrown (sa_cons (se_aload_n rfl rfl dL_law_1322) sa_nil) dL_law_1323 wk_844 wk_845 wk_846 hcX7 wk_478 wk_847 ykX7_thrown (Nat.le_of_ble_eq_true rfl) (Nat.le_of_ble_eq_true rfl) (Nat.le_of_ble_eq_true rfl) trivial) (se_iload rfl dL_law_1326) dL_law_1328 rfl) (ss_retZ (se_iconst dL_law_1331 rfl) rfl dL_law_1332) ss_nop
  have s2 : ho_SS (iLaw xs L) 1 [99, 11, 12, 4, 0, 0, 0] [99, 11, 12, 4, 0, 0, 0] _ _ _ := ss_if (sc_and (sc_EqN0 (tgt := 1350) (se_iload rfl dL_law_1333) dL_law_1335 rfl) (sc_lng (tgt := 1350) (se_aload_n rfl rfl dL_law_1338) (se_iconst dL_law_1339 rfl) dL_law_1340 (se_iload rfl dL_law_1341) dL_law_1343 dL_law_1344 dL_law_1345 rfl)) (ss_retZ (se_iconst dL_law_1348 rfl) rfl dL_law_1349) ss_nop
  have fin : ho_SS (iLaw xs L) 1 [99, 11, 12, 4, 0, 0] [99, 11, 12, 4, 0] 1304 2416 (lr_signs xs L) := ss_go (tgt := 2416) (ss_blk (n := 5) (ss_seq s0 (ss_seq s1 s2)) rfl) dL_law_1350 rfl
  refine ho_wcall (L := L) (xs := xs) kL_signs ha dL_law_1299 wk_969 wk_970 wk_838 wk_971 ⟨by decide +kernel, by decide +kernel, by decide +kernel⟩ (Nat.le_of_ble_eq_true rfl) (Nat.le_of_ble_eq_true rfl) rfl hC (K := fun k σ => lr_signs xs L (v ++ [k]) σ K (fun _ _ => False) (fun _ _ => False)) (by rw [hX]; exact hf) hT hσ (fun x σ' hKx hx hσ' => ?_)
  refine lw_st (hC := hC1) (C := C) hx hT hσ' (Nat.le_of_ble_eq_true rfl) dL_law_1302 (fun hT1 => ?_)
  exact fin _ hC1 (by rw [← hr]; rfl) _ _ K (by rw [ho_up1_X, ho_up1_Q, hX, hQ]; exact hKx) hT1 hσ' (fun v' σ2 h1 h2 h3 => kk v' σ2 h1 h2 h3)
def lr_signAt (xs : Nat → Int32) (L : Nat) : ho_Z := (zB 5 (zS (zD (eK mX7_signAt (aC (eV 2) (aC (eS xs L (eB ho_oadd (eV 4) (eC 1))) (aC (eS xs L (eB ho_oadd (eV 4) (eC 2))) (aC (eS xs L (eB ho_oadd (eV 4) (eC 3))) aN)))))) (zS (zC (cNe (eK mX7_thrown (aC (eV 2) aN)) (eV 5)) (zRZ (eC 0)) zN) (zC (cAnd (cEq (eV 5) (eC 0)) (cNe (eI (eV 3) (eC 0)) (eV 6))) (zRZ (eC 0)) zN))))
def la_signAt (xs : Nat → Int32) (L : Nat) : ho_A := (aC (eV 1) (aC (eS xs L (eB ho_oadd (eV 4) (eC 1))) (aC (eS xs L (eB ho_oadd (eV 4) (eC 2))) (aC (eS xs L (eB ho_oadd (eV 4) (eC 3))) (aC (eV 3) aN)))))
def lf_signAt (xs : Nat → Int32) (L : Nat) : List Int → ho_S → (List Int → ho_S → Prop) → Prop := fun v σ K => la_signAt xs L v σ (fun l σ => mL_signAt l σ (fun k σ => lr_signAt xs L (v ++ [k]) σ K (fun _ _ => False) (fun _ _ => False)) (fun _ _ => False)) (fun _ _ => False)
set_option maxRecDepth 20000 in
theorem lk_signAt {xs : Nat → Int32} {L : Nat} {C : ho_Cx} (hC : ho_ok C (iLaw xs L)) (hC1 : ho_ok (ho_up1 C) (iLaw xs L)) (hr : ho_ro C = 1) (hX : ho_X' C = fun _ _ => False) (hQ : ho_Q' C = fun _ _ => False) {v : List Int} {σ : ho_S} {K : List Int → ho_S → Prop} (hf : lf_signAt xs L v σ K) (hT : ho_ty [99, 11, 12, 4, 0] v) (hσ : ho_rng σ) (kk : ∀ v' σ', K v' σ' → ho_ty [99, 11, 12, 4, 0] v' → ho_rng σ' → ho_P (ho_up1 C) 2416 [99, 11, 12, 4, 0] v' [] σ') : ho_P C 1353 [99, 11, 12, 4, 0] v [] σ := by
  have ha : ho_SA (iLaw xs L) [99, 11, 12, 4, 0] [11, 0, 0, 0, 4] 0 1353 1373 (la_signAt xs L) := (sa_cons (se_aload_n rfl rfl dL_law_1353) (sa_cons (se_scr rfl rfl dL_law_1354 (se_iadd (se_iload rfl dL_law_1355) (se_iconst dL_law_1357 rfl) dL_law_1358) dL_law_1359) (sa_cons (se_scr rfl rfl dL_law_1360 (se_iadd (se_iload rfl dL_law_1361) (se_iconst dL_law_1363 rfl) dL_law_1364) dL_law_1365) (sa_cons (se_scr rfl rfl dL_law_1366 (se_iadd (se_iload rfl dL_law_1367) (se_iconst dL_law_1369 rfl) dL_law_1370) dL_law_1371) (sa_cons (se_aload_n rfl rfl dL_law_1372) sa_nil)))))
  have s0 : ho_SS (iLaw xs L) 1 [99, 11, 12, 4, 0, 0] [99, 11, 12, 4, 0, 0, 0] 1378 _ _ := ss_decl (se_callV kX7_signAt (sa_cons (se_aload_n rfl rfl dL_law_1378) (sa_cons (se_scr rfl rfl dL_law_1379 (se_iadd (se_iload rfl dL_law_1380) (se_iconst dL_law_1382 rfl) dL_law_1383) dL_law_1384) (sa_cons (se_scr rfl rfl dL_law_1385 (se_iadd (se_iload rfl dL_law_1386) (se_iconst dL_law_1388 rfl) dL_law_1389) dL_law_1390) (sa_cons (se_scr rfl rfl dL_law_1391 (se_iadd (se_iload rfl dL_law_1392) (se_iconst dL_law_1394 rfl) dL_law_1395) dL_law_1396) sa_nil)))) dL_law_1397 wk_979 wk_980 wk_981 hcX7 wk_478 wk_982 ykX7_signAt (Nat.le_of_ble_eq_true rfl) (Nat.le_of_ble_eq_true rfl) (Nat.le_of_ble_eq_true rfl) trivial) rfl (Nat.le_of_ble_eq_true rfl) dL_law_1400
  have s1 : ho_SS (iLaw xs L) 1 [99, 11, 12, 4, 0, 0, 0] [99, 11, 12, 4, 0, 0, 0] _ _ _ := ss_if (sc_NeN (tgt := 1413) (se_callV kX7_thrown (sa_cons (se_aload_n rfl rfl dL_law_1402) sa_nil) dL_law_1403 wk_844 wk_845 wk_846 hcX7 wk_478 wk_847 ykX7_thrown (Nat.le_of_ble_eq_true rfl) (Nat.le_of_ble_eq_true rfl) (Nat.le_of_ble_eq_true rfl) trivial) (se_iload rfl dL_law_1406) dL_law_1408 rfl) (ss_retZ (se_iconst dL_law_1411 rfl) rfl dL_law_1412) ss_nop
  have s2 : ho_SS (iLaw xs L) 1 [99, 11, 12, 4, 0, 0, 0] [99, 11, 12, 4, 0, 0, 0] _ _ _ := ss_if (sc_and (sc_EqN0 (tgt := 1430) (se_iload rfl dL_law_1413) dL_law_1415 rfl) (sc_lng (tgt := 1430) (se_aload_n rfl rfl dL_law_1418) (se_iconst dL_law_1419 rfl) dL_law_1420 (se_iload rfl dL_law_1421) dL_law_1423 dL_law_1424 dL_law_1425 rfl)) (ss_retZ (se_iconst dL_law_1428 rfl) rfl dL_law_1429) ss_nop
  have fin : ho_SS (iLaw xs L) 1 [99, 11, 12, 4, 0, 0] [99, 11, 12, 4, 0] 1378 2416 (lr_signAt xs L) := ss_go (tgt := 2416) (ss_blk (n := 5) (ss_seq s0 (ss_seq s1 s2)) rfl) dL_law_1430 rfl
  refine ho_wcall (L := L) (xs := xs) kL_signAt ha dL_law_1373 wk_976 wk_977 wk_838 wk_978 ⟨by decide +kernel, by decide +kernel, by decide +kernel⟩ (Nat.le_of_ble_eq_true rfl) (Nat.le_of_ble_eq_true rfl) rfl hC (K := fun k σ => lr_signAt xs L (v ++ [k]) σ K (fun _ _ => False) (fun _ _ => False)) (by rw [hX]; exact hf) hT hσ (fun x σ' hKx hx hσ' => ?_)
  refine lw_st (hC := hC1) (C := C) hx hT hσ' (Nat.le_of_ble_eq_true rfl) dL_law_1376 (fun hT1 => ?_)
  exact fin _ hC1 (by rw [← hr]; rfl) _ _ K (by rw [ho_up1_X, ho_up1_Q, hX, hQ]; exact hKx) hT1 hσ' (fun v' σ2 h1 h2 h3 => kk v' σ2 h1 h2 h3)
def lr_width (xs : Nat → Int32) (L : Nat) : ho_Z := (zB 5 (zS (zD (eK mX7_width (aC (eV 2) (aC (eS xs L (eB ho_oadd (eV 4) (eC 1))) (aC (eS xs L (eB ho_oadd (eV 4) (eC 2))) aN))))) (zS (zC (cNe (eK mX7_thrown (aC (eV 2) aN)) (eV 5)) (zRZ (eC 0)) zN) (zC (cAnd (cEq (eV 5) (eC 0)) (cNe (eI (eV 3) (eC 0)) (eV 6))) (zRZ (eC 0)) zN))))
def la_width (xs : Nat → Int32) (L : Nat) : ho_A := (aC (eV 1) (aC (eS xs L (eB ho_oadd (eV 4) (eC 1))) (aC (eS xs L (eB ho_oadd (eV 4) (eC 2))) (aC (eV 3) aN))))
def lf_width (xs : Nat → Int32) (L : Nat) : List Int → ho_S → (List Int → ho_S → Prop) → Prop := fun v σ K => la_width xs L v σ (fun l σ => mL_width l σ (fun k σ => lr_width xs L (v ++ [k]) σ K (fun _ _ => False) (fun _ _ => False)) (fun _ _ => False)) (fun _ _ => False)
set_option maxRecDepth 20000 in
theorem lk_width {xs : Nat → Int32} {L : Nat} {C : ho_Cx} (hC : ho_ok C (iLaw xs L)) (hC1 : ho_ok (ho_up1 C) (iLaw xs L)) (hr : ho_ro C = 1) (hX : ho_X' C = fun _ _ => False) (hQ : ho_Q' C = fun _ _ => False) {v : List Int} {σ : ho_S} {K : List Int → ho_S → Prop} (hf : lf_width xs L v σ K) (hT : ho_ty [99, 11, 12, 4, 0] v) (hσ : ho_rng σ) (kk : ∀ v' σ', K v' σ' → ho_ty [99, 11, 12, 4, 0] v' → ho_rng σ' → ho_P (ho_up1 C) 2416 [99, 11, 12, 4, 0] v' [] σ') : ho_P C 1433 [99, 11, 12, 4, 0] v [] σ := by
  have ha : ho_SA (iLaw xs L) [99, 11, 12, 4, 0] [11, 0, 0, 4] 0 1433 1447 (la_width xs L) := (sa_cons (se_aload_n rfl rfl dL_law_1433) (sa_cons (se_scr rfl rfl dL_law_1434 (se_iadd (se_iload rfl dL_law_1435) (se_iconst dL_law_1437 rfl) dL_law_1438) dL_law_1439) (sa_cons (se_scr rfl rfl dL_law_1440 (se_iadd (se_iload rfl dL_law_1441) (se_iconst dL_law_1443 rfl) dL_law_1444) dL_law_1445) (sa_cons (se_aload_n rfl rfl dL_law_1446) sa_nil))))
  have s0 : ho_SS (iLaw xs L) 1 [99, 11, 12, 4, 0, 0] [99, 11, 12, 4, 0, 0, 0] 1452 _ _ := ss_decl (se_callV kX7_width (sa_cons (se_aload_n rfl rfl dL_law_1452) (sa_cons (se_scr rfl rfl dL_law_1453 (se_iadd (se_iload rfl dL_law_1454) (se_iconst dL_law_1456 rfl) dL_law_1457) dL_law_1458) (sa_cons (se_scr rfl rfl dL_law_1459 (se_iadd (se_iload rfl dL_law_1460) (se_iconst dL_law_1462 rfl) dL_law_1463) dL_law_1464) sa_nil))) dL_law_1465 wk_986 wk_987 wk_988 hcX7 wk_478 wk_989 ykX7_width (Nat.le_of_ble_eq_true rfl) (Nat.le_of_ble_eq_true rfl) (Nat.le_of_ble_eq_true rfl) trivial) rfl (Nat.le_of_ble_eq_true rfl) dL_law_1468
  have s1 : ho_SS (iLaw xs L) 1 [99, 11, 12, 4, 0, 0, 0] [99, 11, 12, 4, 0, 0, 0] _ _ _ := ss_if (sc_NeN (tgt := 1481) (se_callV kX7_thrown (sa_cons (se_aload_n rfl rfl dL_law_1470) sa_nil) dL_law_1471 wk_844 wk_845 wk_846 hcX7 wk_478 wk_847 ykX7_thrown (Nat.le_of_ble_eq_true rfl) (Nat.le_of_ble_eq_true rfl) (Nat.le_of_ble_eq_true rfl) trivial) (se_iload rfl dL_law_1474) dL_law_1476 rfl) (ss_retZ (se_iconst dL_law_1479 rfl) rfl dL_law_1480) ss_nop
  have s2 : ho_SS (iLaw xs L) 1 [99, 11, 12, 4, 0, 0, 0] [99, 11, 12, 4, 0, 0, 0] _ _ _ := ss_if (sc_and (sc_EqN0 (tgt := 1498) (se_iload rfl dL_law_1481) dL_law_1483 rfl) (sc_lng (tgt := 1498) (se_aload_n rfl rfl dL_law_1486) (se_iconst dL_law_1487 rfl) dL_law_1488 (se_iload rfl dL_law_1489) dL_law_1491 dL_law_1492 dL_law_1493 rfl)) (ss_retZ (se_iconst dL_law_1496 rfl) rfl dL_law_1497) ss_nop
  have fin : ho_SS (iLaw xs L) 1 [99, 11, 12, 4, 0, 0] [99, 11, 12, 4, 0] 1452 2416 (lr_width xs L) := ss_go (tgt := 2416) (ss_blk (n := 5) (ss_seq s0 (ss_seq s1 s2)) rfl) dL_law_1498 rfl
  refine ho_wcall (L := L) (xs := xs) kL_width ha dL_law_1447 wk_983 wk_984 wk_838 wk_985 ⟨by decide +kernel, by decide +kernel, by decide +kernel⟩ (Nat.le_of_ble_eq_true rfl) (Nat.le_of_ble_eq_true rfl) rfl hC (K := fun k σ => lr_width xs L (v ++ [k]) σ K (fun _ _ => False) (fun _ _ => False)) (by rw [hX]; exact hf) hT hσ (fun x σ' hKx hx hσ' => ?_)
  refine lw_st (hC := hC1) (C := C) hx hT hσ' (Nat.le_of_ble_eq_true rfl) dL_law_1450 (fun hT1 => ?_)
  exact fin _ hC1 (by rw [← hr]; rfl) _ _ K (by rw [ho_up1_X, ho_up1_Q, hX, hQ]; exact hKx) hT1 hσ' (fun v' σ2 h1 h2 h3 => kk v' σ2 h1 h2 h3)
def lr_rows (xs : Nat → Int32) (L : Nat) : ho_Z := (zB 5 (zS (zD (eK mX7_rows (aC (eV 2) (aC (eS xs L (eB ho_oadd (eV 4) (eC 1))) (aC (eS xs L (eB ho_oadd (eV 4) (eC 2))) aN))))) (zS (zC (cNe (eK mX7_thrown (aC (eV 2) aN)) (eV 5)) (zRZ (eC 0)) zN) (zC (cAnd (cEq (eV 5) (eC 0)) (cNe (eI (eV 3) (eC 0)) (eV 6))) (zRZ (eC 0)) zN))))
def la_rows (xs : Nat → Int32) (L : Nat) : ho_A := (aC (eV 1) (aC (eS xs L (eB ho_oadd (eV 4) (eC 1))) (aC (eS xs L (eB ho_oadd (eV 4) (eC 2))) (aC (eV 3) aN))))
def lf_rows (xs : Nat → Int32) (L : Nat) : List Int → ho_S → (List Int → ho_S → Prop) → Prop := fun v σ K => la_rows xs L v σ (fun l σ => mL_rows l σ (fun k σ => lr_rows xs L (v ++ [k]) σ K (fun _ _ => False) (fun _ _ => False)) (fun _ _ => False)) (fun _ _ => False)
set_option maxRecDepth 20000 in
theorem lk_rows {xs : Nat → Int32} {L : Nat} {C : ho_Cx} (hC : ho_ok C (iLaw xs L)) (hC1 : ho_ok (ho_up1 C) (iLaw xs L)) (hr : ho_ro C = 1) (hX : ho_X' C = fun _ _ => False) (hQ : ho_Q' C = fun _ _ => False) {v : List Int} {σ : ho_S} {K : List Int → ho_S → Prop} (hf : lf_rows xs L v σ K) (hT : ho_ty [99, 11, 12, 4, 0] v) (hσ : ho_rng σ) (kk : ∀ v' σ', K v' σ' → ho_ty [99, 11, 12, 4, 0] v' → ho_rng σ' → ho_P (ho_up1 C) 2416 [99, 11, 12, 4, 0] v' [] σ') : ho_P C 1501 [99, 11, 12, 4, 0] v [] σ := by
  have ha : ho_SA (iLaw xs L) [99, 11, 12, 4, 0] [11, 0, 0, 4] 0 1501 1515 (la_rows xs L) := (sa_cons (se_aload_n rfl rfl dL_law_1501) (sa_cons (se_scr rfl rfl dL_law_1502 (se_iadd (se_iload rfl dL_law_1503) (se_iconst dL_law_1505 rfl) dL_law_1506) dL_law_1507) (sa_cons (se_scr rfl rfl dL_law_1508 (se_iadd (se_iload rfl dL_law_1509) (se_iconst dL_law_1511 rfl) dL_law_1512) dL_law_1513) (sa_cons (se_aload_n rfl rfl dL_law_1514) sa_nil))))
  have s0 : ho_SS (iLaw xs L) 1 [99, 11, 12, 4, 0, 0] [99, 11, 12, 4, 0, 0, 0] 1520 _ _ := ss_decl (se_callV kX7_rows (sa_cons (se_aload_n rfl rfl dL_law_1520) (sa_cons (se_scr rfl rfl dL_law_1521 (se_iadd (se_iload rfl dL_law_1522) (se_iconst dL_law_1524 rfl) dL_law_1525) dL_law_1526) (sa_cons (se_scr rfl rfl dL_law_1527 (se_iadd (se_iload rfl dL_law_1528) (se_iconst dL_law_1530 rfl) dL_law_1531) dL_law_1532) sa_nil))) dL_law_1533 wk_993 wk_994 wk_995 hcX7 wk_478 wk_996 ykX7_rows (Nat.le_of_ble_eq_true rfl) (Nat.le_of_ble_eq_true rfl) (Nat.le_of_ble_eq_true rfl) trivial) rfl (Nat.le_of_ble_eq_true rfl) dL_law_1536
  have s1 : ho_SS (iLaw xs L) 1 [99, 11, 12, 4, 0, 0, 0] [99, 11, 12, 4, 0, 0, 0] _ _ _ := ss_if (sc_NeN (tgt := 1549) (se_callV kX7_thrown (sa_cons (se_aload_n rfl rfl dL_law_1538) sa_nil) dL_law_1539 wk_844 wk_845 wk_846 hcX7 wk_478 wk_847 ykX7_thrown (Nat.le_of_ble_eq_true rfl) (Nat.le_of_ble_eq_true rfl) (Nat.le_of_ble_eq_true rfl) trivial) (se_iload rfl dL_law_1542) dL_law_1544 rfl) (ss_retZ (se_iconst dL_law_1547 rfl) rfl dL_law_1548) ss_nop
  have s2 : ho_SS (iLaw xs L) 1 [99, 11, 12, 4, 0, 0, 0] [99, 11, 12, 4, 0, 0, 0] _ _ _ := ss_if (sc_and (sc_EqN0 (tgt := 1566) (se_iload rfl dL_law_1549) dL_law_1551 rfl) (sc_lng (tgt := 1566) (se_aload_n rfl rfl dL_law_1554) (se_iconst dL_law_1555 rfl) dL_law_1556 (se_iload rfl dL_law_1557) dL_law_1559 dL_law_1560 dL_law_1561 rfl)) (ss_retZ (se_iconst dL_law_1564 rfl) rfl dL_law_1565) ss_nop
  have fin : ho_SS (iLaw xs L) 1 [99, 11, 12, 4, 0, 0] [99, 11, 12, 4, 0] 1520 2416 (lr_rows xs L) := ss_go (tgt := 2416) (ss_blk (n := 5) (ss_seq s0 (ss_seq s1 s2)) rfl) dL_law_1566 rfl
  refine ho_wcall (L := L) (xs := xs) kL_rows ha dL_law_1515 wk_990 wk_991 wk_838 wk_992 ⟨by decide +kernel, by decide +kernel, by decide +kernel⟩ (Nat.le_of_ble_eq_true rfl) (Nat.le_of_ble_eq_true rfl) rfl hC (K := fun k σ => lr_rows xs L (v ++ [k]) σ K (fun _ _ => False) (fun _ _ => False)) (by rw [hX]; exact hf) hT hσ (fun x σ' hKx hx hσ' => ?_)
  refine lw_st (hC := hC1) (C := C) hx hT hσ' (Nat.le_of_ble_eq_true rfl) dL_law_1518 (fun hT1 => ?_)
  exact fin _ hC1 (by rw [← hr]; rfl) _ _ K (by rw [ho_up1_X, ho_up1_Q, hX, hQ]; exact hKx) hT1 hσ' (fun v' σ2 h1 h2 h3 => kk v' σ2 h1 h2 h3)
def lr_row (xs : Nat → Int32) (L : Nat) : ho_Z := (zB 5 (zS (zD (eK mX7_row (aC (eV 2) (aC (eS xs L (eB ho_oadd (eV 4) (eC 1))) (aC (eS xs L (eB ho_oadd (eV 4) (eC 2))) (aC (eS xs L (eB ho_oadd (eV 4) (eC 3))) aN)))))) (zS (zC (cNe (eK mX7_thrown (aC (eV 2) aN)) (eV 5)) (zRZ (eC 0)) zN) (zC (cAnd (cEq (eV 5) (eC 0)) (cNe (eI (eV 3) (eC 0)) (eV 6))) (zRZ (eC 0)) zN))))
def la_row (xs : Nat → Int32) (L : Nat) : ho_A := (aC (eV 1) (aC (eS xs L (eB ho_oadd (eV 4) (eC 1))) (aC (eS xs L (eB ho_oadd (eV 4) (eC 2))) (aC (eS xs L (eB ho_oadd (eV 4) (eC 3))) (aC (eV 3) aN)))))
def lf_row (xs : Nat → Int32) (L : Nat) : List Int → ho_S → (List Int → ho_S → Prop) → Prop := fun v σ K => la_row xs L v σ (fun l σ => mL_row l σ (fun k σ => lr_row xs L (v ++ [k]) σ K (fun _ _ => False) (fun _ _ => False)) (fun _ _ => False)) (fun _ _ => False)
set_option maxRecDepth 20000 in
theorem lk_row {xs : Nat → Int32} {L : Nat} {C : ho_Cx} (hC : ho_ok C (iLaw xs L)) (hC1 : ho_ok (ho_up1 C) (iLaw xs L)) (hr : ho_ro C = 1) (hX : ho_X' C = fun _ _ => False) (hQ : ho_Q' C = fun _ _ => False) {v : List Int} {σ : ho_S} {K : List Int → ho_S → Prop} (hf : lf_row xs L v σ K) (hT : ho_ty [99, 11, 12, 4, 0] v) (hσ : ho_rng σ) (kk : ∀ v' σ', K v' σ' → ho_ty [99, 11, 12, 4, 0] v' → ho_rng σ' → ho_P (ho_up1 C) 2416 [99, 11, 12, 4, 0] v' [] σ') : ho_P C 1569 [99, 11, 12, 4, 0] v [] σ := by
  have ha : ho_SA (iLaw xs L) [99, 11, 12, 4, 0] [11, 0, 0, 0, 4] 0 1569 1589 (la_row xs L) := (sa_cons (se_aload_n rfl rfl dL_law_1569) (sa_cons (se_scr rfl rfl dL_law_1570 (se_iadd (se_iload rfl dL_law_1571) (se_iconst dL_law_1573 rfl) dL_law_1574) dL_law_1575) (sa_cons (se_scr rfl rfl dL_law_1576 (se_iadd (se_iload rfl dL_law_1577) (se_iconst dL_law_1579 rfl) dL_law_1580) dL_law_1581) (sa_cons (se_scr rfl rfl dL_law_1582 (se_iadd (se_iload rfl dL_law_1583) (se_iconst dL_law_1585 rfl) dL_law_1586) dL_law_1587) (sa_cons (se_aload_n rfl rfl dL_law_1588) sa_nil)))))
  have s0 : ho_SS (iLaw xs L) 1 [99, 11, 12, 4, 0, 0] [99, 11, 12, 4, 0, 0, 0] 1594 _ _ := ss_decl (se_callV kX7_row (sa_cons (se_aload_n rfl rfl dL_law_1594) (sa_cons (se_scr rfl rfl dL_law_1595 (se_iadd (se_iload rfl dL_law_1596) (se_iconst dL_law_1598 rfl) dL_law_1599) dL_law_1600) (sa_cons (se_scr rfl rfl dL_law_1601 (se_iadd (se_iload rfl dL_law_1602) (se_iconst dL_law_1604 rfl) dL_law_1605) dL_law_1606) (sa_cons (se_scr rfl rfl dL_law_1607 (se_iadd (se_iload rfl dL_law_1608) (se_iconst dL_law_1610 rfl) dL_law_1611) dL_law_1612) sa_nil)))) dL_law_1613 wk_1000 wk_1001 wk_1002 hcX7 wk_478 wk_1003 ykX7_row (Nat.le_of_ble_eq_true rfl) (Nat.le_of_ble_eq_true rfl) (Nat.le_of_ble_eq_true rfl) trivial) rfl (Nat.le_of_ble_eq_true rfl) dL_law_1616
  have s1 : ho_SS (iLaw xs L) 1 [99, 11, 12, 4, 0, 0, 0] [99, 11, 12, 4, 0, 0, 0] _ _ _ := ss_if (sc_NeN (tgt := 1629) (se_callV kX7_thrown (sa_cons (se_aload_n rfl rfl dL_law_1618) sa_nil) dL_law_1619 wk_844 wk_845 wk_846 hcX7 wk_478 wk_847 ykX7_thrown (Nat.le_of_ble_eq_true rfl) (Nat.le_of_ble_eq_true rfl) (Nat.le_of_ble_eq_true rfl) trivial) (se_iload rfl dL_law_1622) dL_law_1624 rfl) (ss_retZ (se_iconst dL_law_1627 rfl) rfl dL_law_1628) ss_nop
  have s2 : ho_SS (iLaw xs L) 1 [99, 11, 12, 4, 0, 0, 0] [99, 11, 12, 4, 0, 0, 0] _ _ _ := ss_if (sc_and (sc_EqN0 (tgt := 1646) (se_iload rfl dL_law_1629) dL_law_1631 rfl) (sc_lng (tgt := 1646) (se_aload_n rfl rfl dL_law_1634) (se_iconst dL_law_1635 rfl) dL_law_1636 (se_iload rfl dL_law_1637) dL_law_1639 dL_law_1640 dL_law_1641 rfl)) (ss_retZ (se_iconst dL_law_1644 rfl) rfl dL_law_1645) ss_nop
  have fin : ho_SS (iLaw xs L) 1 [99, 11, 12, 4, 0, 0] [99, 11, 12, 4, 0] 1594 2416 (lr_row xs L) := ss_go (tgt := 2416) (ss_blk (n := 5) (ss_seq s0 (ss_seq s1 s2)) rfl) dL_law_1646 rfl
  refine ho_wcall (L := L) (xs := xs) kL_row ha dL_law_1589 wk_997 wk_998 wk_838 wk_999 ⟨by decide +kernel, by decide +kernel, by decide +kernel⟩ (Nat.le_of_ble_eq_true rfl) (Nat.le_of_ble_eq_true rfl) rfl hC (K := fun k σ => lr_row xs L (v ++ [k]) σ K (fun _ _ => False) (fun _ _ => False)) (by rw [hX]; exact hf) hT hσ (fun x σ' hKx hx hσ' => ?_)
  refine lw_st (hC := hC1) (C := C) hx hT hσ' (Nat.le_of_ble_eq_true rfl) dL_law_1592 (fun hT1 => ?_)
  exact fin _ hC1 (by rw [← hr]; rfl) _ _ K (by rw [ho_up1_X, ho_up1_Q, hX, hQ]; exact hKx) hT1 hσ' (fun v' σ2 h1 h2 h3 => kk v' σ2 h1 h2 h3)
def lr_setLimits (xs : Nat → Int32) (L : Nat) : ho_Z := (zB 5 (zS (zD (eK mX7_setLimits (aC (eV 2) (aC (eS xs L (eB ho_oadd (eV 4) (eC 1))) (aC (eS xs L (eB ho_oadd (eV 4) (eC 2))) aN))))) (zS (zC (cNe (eK mX7_thrown (aC (eV 2) aN)) (eV 5)) (zRZ (eC 0)) zN) (zC (cAnd (cEq (eV 5) (eC 0)) (cNe (eI (eV 3) (eC 0)) (eV 6))) (zRZ (eC 0)) zN))))
def la_setLimits (xs : Nat → Int32) (L : Nat) : ho_A := (aC (eV 1) (aC (eS xs L (eB ho_oadd (eV 4) (eC 1))) (aC (eS xs L (eB ho_oadd (eV 4) (eC 2))) (aC (eV 3) aN))))
def lf_setLimits (xs : Nat → Int32) (L : Nat) : List Int → ho_S → (List Int → ho_S → Prop) → Prop := fun v σ K => la_setLimits xs L v σ (fun l σ => mL_setLimits l σ (fun k σ => lr_setLimits xs L (v ++ [k]) σ K (fun _ _ => False) (fun _ _ => False)) (fun _ _ => False)) (fun _ _ => False)
set_option maxRecDepth 20000 in
theorem lk_setLimits {xs : Nat → Int32} {L : Nat} {C : ho_Cx} (hC : ho_ok C (iLaw xs L)) (hC1 : ho_ok (ho_up1 C) (iLaw xs L)) (hr : ho_ro C = 1) (hX : ho_X' C = fun _ _ => False) (hQ : ho_Q' C = fun _ _ => False) {v : List Int} {σ : ho_S} {K : List Int → ho_S → Prop} (hf : lf_setLimits xs L v σ K) (hT : ho_ty [99, 11, 12, 4, 0] v) (hσ : ho_rng σ) (kk : ∀ v' σ', K v' σ' → ho_ty [99, 11, 12, 4, 0] v' → ho_rng σ' → ho_P (ho_up1 C) 2416 [99, 11, 12, 4, 0] v' [] σ') : ho_P C 1649 [99, 11, 12, 4, 0] v [] σ := by
  have ha : ho_SA (iLaw xs L) [99, 11, 12, 4, 0] [11, 0, 0, 4] 0 1649 1663 (la_setLimits xs L) := (sa_cons (se_aload_n rfl rfl dL_law_1649) (sa_cons (se_scr rfl rfl dL_law_1650 (se_iadd (se_iload rfl dL_law_1651) (se_iconst dL_law_1653 rfl) dL_law_1654) dL_law_1655) (sa_cons (se_scr rfl rfl dL_law_1656 (se_iadd (se_iload rfl dL_law_1657) (se_iconst dL_law_1659 rfl) dL_law_1660) dL_law_1661) (sa_cons (se_aload_n rfl rfl dL_law_1662) sa_nil))))
  have s0 : ho_SS (iLaw xs L) 1 [99, 11, 12, 4, 0, 0] [99, 11, 12, 4, 0, 0, 0] 1668 _ _ := ss_decl (se_callV kX7_setLimits (sa_cons (se_aload_n rfl rfl dL_law_1668) (sa_cons (se_scr rfl rfl dL_law_1669 (se_iadd (se_iload rfl dL_law_1670) (se_iconst dL_law_1672 rfl) dL_law_1673) dL_law_1674) (sa_cons (se_scr rfl rfl dL_law_1675 (se_iadd (se_iload rfl dL_law_1676) (se_iconst dL_law_1678 rfl) dL_law_1679) dL_law_1680) sa_nil))) dL_law_1681 wk_1007 wk_1008 wk_1009 hcX7 wk_478 wk_1010 ykX7_setLimits (Nat.le_of_ble_eq_true rfl) (Nat.le_of_ble_eq_true rfl) (Nat.le_of_ble_eq_true rfl) trivial) rfl (Nat.le_of_ble_eq_true rfl) dL_law_1684
  have s1 : ho_SS (iLaw xs L) 1 [99, 11, 12, 4, 0, 0, 0] [99, 11, 12, 4, 0, 0, 0] _ _ _ := ss_if (sc_NeN (tgt := 1697) (se_callV kX7_thrown (sa_cons (se_aload_n rfl rfl dL_law_1686) sa_nil) dL_law_1687 wk_844 wk_845 wk_846 hcX7 wk_478 wk_847 ykX7_thrown (Nat.le_of_ble_eq_true rfl) (Nat.le_of_ble_eq_true rfl) (Nat.le_of_ble_eq_true rfl) trivial) (se_iload rfl dL_law_1690) dL_law_1692 rfl) (ss_retZ (se_iconst dL_law_1695 rfl) rfl dL_law_1696) ss_nop
  have s2 : ho_SS (iLaw xs L) 1 [99, 11, 12, 4, 0, 0, 0] [99, 11, 12, 4, 0, 0, 0] _ _ _ := ss_if (sc_and (sc_EqN0 (tgt := 1714) (se_iload rfl dL_law_1697) dL_law_1699 rfl) (sc_lng (tgt := 1714) (se_aload_n rfl rfl dL_law_1702) (se_iconst dL_law_1703 rfl) dL_law_1704 (se_iload rfl dL_law_1705) dL_law_1707 dL_law_1708 dL_law_1709 rfl)) (ss_retZ (se_iconst dL_law_1712 rfl) rfl dL_law_1713) ss_nop
  have fin : ho_SS (iLaw xs L) 1 [99, 11, 12, 4, 0, 0] [99, 11, 12, 4, 0] 1668 2416 (lr_setLimits xs L) := ss_go (tgt := 2416) (ss_blk (n := 5) (ss_seq s0 (ss_seq s1 s2)) rfl) dL_law_1714 rfl
  refine ho_wcall (L := L) (xs := xs) kL_setLimits ha dL_law_1663 wk_1004 wk_1005 wk_838 wk_1006 ⟨by decide +kernel, by decide +kernel, by decide +kernel⟩ (Nat.le_of_ble_eq_true rfl) (Nat.le_of_ble_eq_true rfl) rfl hC (K := fun k σ => lr_setLimits xs L (v ++ [k]) σ K (fun _ _ => False) (fun _ _ => False)) (by rw [hX]; exact hf) hT hσ (fun x σ' hKx hx hσ' => ?_)
  refine lw_st (hC := hC1) (C := C) hx hT hσ' (Nat.le_of_ble_eq_true rfl) dL_law_1666 (fun hT1 => ?_)
  exact fin _ hC1 (by rw [← hr]; rfl) _ _ K (by rw [ho_up1_X, ho_up1_Q, hX, hQ]; exact hKx) hT1 hσ' (fun v' σ2 h1 h2 h3 => kk v' σ2 h1 h2 h3)
def lr_confirm (xs : Nat → Int32) (L : Nat) : ho_Z := (zB 5 (zS (zD (eK mX7_confirm (aC (eV 2) (aC (eS xs L (eB ho_oadd (eV 4) (eC 1))) (aC (eS xs L (eB ho_oadd (eV 4) (eC 2))) aN))))) (zS (zC (cNe (eK mX7_thrown (aC (eV 2) aN)) (eV 5)) (zRZ (eC 0)) zN) (zC (cAnd (cEq (eV 5) (eC 0)) (cNe (eI (eV 3) (eC 0)) (eV 6))) (zRZ (eC 0)) zN))))
def la_confirm (xs : Nat → Int32) (L : Nat) : ho_A := (aC (eV 1) (aC (eS xs L (eB ho_oadd (eV 4) (eC 1))) (aC (eS xs L (eB ho_oadd (eV 4) (eC 2))) (aC (eV 3) aN))))
def lf_confirm (xs : Nat → Int32) (L : Nat) : List Int → ho_S → (List Int → ho_S → Prop) → Prop := fun v σ K => la_confirm xs L v σ (fun l σ => mL_confirm l σ (fun k σ => lr_confirm xs L (v ++ [k]) σ K (fun _ _ => False) (fun _ _ => False)) (fun _ _ => False)) (fun _ _ => False)
set_option maxRecDepth 20000 in
theorem lk_confirm {xs : Nat → Int32} {L : Nat} {C : ho_Cx} (hC : ho_ok C (iLaw xs L)) (hC1 : ho_ok (ho_up1 C) (iLaw xs L)) (hr : ho_ro C = 1) (hX : ho_X' C = fun _ _ => False) (hQ : ho_Q' C = fun _ _ => False) {v : List Int} {σ : ho_S} {K : List Int → ho_S → Prop} (hf : lf_confirm xs L v σ K) (hT : ho_ty [99, 11, 12, 4, 0] v) (hσ : ho_rng σ) (kk : ∀ v' σ', K v' σ' → ho_ty [99, 11, 12, 4, 0] v' → ho_rng σ' → ho_P (ho_up1 C) 2416 [99, 11, 12, 4, 0] v' [] σ') : ho_P C 1717 [99, 11, 12, 4, 0] v [] σ := by
  have ha : ho_SA (iLaw xs L) [99, 11, 12, 4, 0] [11, 0, 0, 4] 0 1717 1731 (la_confirm xs L) := (sa_cons (se_aload_n rfl rfl dL_law_1717) (sa_cons (se_scr rfl rfl dL_law_1718 (se_iadd (se_iload rfl dL_law_1719) (se_iconst dL_law_1721 rfl) dL_law_1722) dL_law_1723) (sa_cons (se_scr rfl rfl dL_law_1724 (se_iadd (se_iload rfl dL_law_1725) (se_iconst dL_law_1727 rfl) dL_law_1728) dL_law_1729) (sa_cons (se_aload_n rfl rfl dL_law_1730) sa_nil))))
  have s0 : ho_SS (iLaw xs L) 1 [99, 11, 12, 4, 0, 0] [99, 11, 12, 4, 0, 0, 0] 1736 _ _ := ss_decl (se_callV kX7_confirm (sa_cons (se_aload_n rfl rfl dL_law_1736) (sa_cons (se_scr rfl rfl dL_law_1737 (se_iadd (se_iload rfl dL_law_1738) (se_iconst dL_law_1740 rfl) dL_law_1741) dL_law_1742) (sa_cons (se_scr rfl rfl dL_law_1743 (se_iadd (se_iload rfl dL_law_1744) (se_iconst dL_law_1746 rfl) dL_law_1747) dL_law_1748) sa_nil))) dL_law_1749 wk_1014 wk_1015 wk_1016 hcX7 wk_478 wk_1017 ykX7_confirm (Nat.le_of_ble_eq_true rfl) (Nat.le_of_ble_eq_true rfl) (Nat.le_of_ble_eq_true rfl) trivial) rfl (Nat.le_of_ble_eq_true rfl) dL_law_1752
  have s1 : ho_SS (iLaw xs L) 1 [99, 11, 12, 4, 0, 0, 0] [99, 11, 12, 4, 0, 0, 0] _ _ _ := ss_if (sc_NeN (tgt := 1765) (se_callV kX7_thrown (sa_cons (se_aload_n rfl rfl dL_law_1754) sa_nil) dL_law_1755 wk_844 wk_845 wk_846 hcX7 wk_478 wk_847 ykX7_thrown (Nat.le_of_ble_eq_true rfl) (Nat.le_of_ble_eq_true rfl) (Nat.le_of_ble_eq_true rfl) trivial) (se_iload rfl dL_law_1758) dL_law_1760 rfl) (ss_retZ (se_iconst dL_law_1763 rfl) rfl dL_law_1764) ss_nop
  have s2 : ho_SS (iLaw xs L) 1 [99, 11, 12, 4, 0, 0, 0] [99, 11, 12, 4, 0, 0, 0] _ _ _ := ss_if (sc_and (sc_EqN0 (tgt := 1782) (se_iload rfl dL_law_1765) dL_law_1767 rfl) (sc_lng (tgt := 1782) (se_aload_n rfl rfl dL_law_1770) (se_iconst dL_law_1771 rfl) dL_law_1772 (se_iload rfl dL_law_1773) dL_law_1775 dL_law_1776 dL_law_1777 rfl)) (ss_retZ (se_iconst dL_law_1780 rfl) rfl dL_law_1781) ss_nop
  have fin : ho_SS (iLaw xs L) 1 [99, 11, 12, 4, 0, 0] [99, 11, 12, 4, 0] 1736 2416 (lr_confirm xs L) := ss_go (tgt := 2416) (ss_blk (n := 5) (ss_seq s0 (ss_seq s1 s2)) rfl) dL_law_1782 rfl
  refine ho_wcall (L := L) (xs := xs) kL_confirm ha dL_law_1731 wk_1011 wk_1012 wk_838 wk_1013 ⟨by decide +kernel, by decide +kernel, by decide +kernel⟩ (Nat.le_of_ble_eq_true rfl) (Nat.le_of_ble_eq_true rfl) rfl hC (K := fun k σ => lr_confirm xs L (v ++ [k]) σ K (fun _ _ => False) (fun _ _ => False)) (by rw [hX]; exact hf) hT hσ (fun x σ' hKx hx hσ' => ?_)
  refine lw_st (hC := hC1) (C := C) hx hT hσ' (Nat.le_of_ble_eq_true rfl) dL_law_1734 (fun hT1 => ?_)
  exact fin _ hC1 (by rw [← hr]; rfl) _ _ K (by rw [ho_up1_X, ho_up1_Q, hX, hQ]; exact hKx) hT1 hσ' (fun v' σ2 h1 h2 h3 => kk v' σ2 h1 h2 h3)
def lr_fill (xs : Nat → Int32) (L : Nat) : ho_Z := (zB 5 (zS (zD (eK mX7_fill (aC (eV 2) (aC (eS xs L (eB ho_oadd (eV 4) (eC 1))) aN)))) (zS (zC (cNe (eK mX7_thrown (aC (eV 2) aN)) (eV 5)) (zRZ (eC 0)) zN) (zC (cAnd (cEq (eV 5) (eC 0)) (cNe (eI (eV 3) (eC 0)) (eV 6))) (zRZ (eC 0)) zN))))
def la_fill (xs : Nat → Int32) (L : Nat) : ho_A := (aC (eV 1) (aC (eS xs L (eB ho_oadd (eV 4) (eC 1))) (aC (eV 3) aN)))
def lf_fill (xs : Nat → Int32) (L : Nat) : List Int → ho_S → (List Int → ho_S → Prop) → Prop := fun v σ K => la_fill xs L v σ (fun l σ => mL_fill l σ (fun k σ => lr_fill xs L (v ++ [k]) σ K (fun _ _ => False) (fun _ _ => False)) (fun _ _ => False)) (fun _ _ => False)
set_option maxRecDepth 20000 in
theorem lk_fill {xs : Nat → Int32} {L : Nat} {C : ho_Cx} (hC : ho_ok C (iLaw xs L)) (hC1 : ho_ok (ho_up1 C) (iLaw xs L)) (hr : ho_ro C = 1) (hX : ho_X' C = fun _ _ => False) (hQ : ho_Q' C = fun _ _ => False) {v : List Int} {σ : ho_S} {K : List Int → ho_S → Prop} (hf : lf_fill xs L v σ K) (hT : ho_ty [99, 11, 12, 4, 0] v) (hσ : ho_rng σ) (kk : ∀ v' σ', K v' σ' → ho_ty [99, 11, 12, 4, 0] v' → ho_rng σ' → ho_P (ho_up1 C) 2416 [99, 11, 12, 4, 0] v' [] σ') : ho_P C 1785 [99, 11, 12, 4, 0] v [] σ := by
  have ha : ho_SA (iLaw xs L) [99, 11, 12, 4, 0] [11, 0, 4] 0 1785 1793 (la_fill xs L) := (sa_cons (se_aload_n rfl rfl dL_law_1785) (sa_cons (se_scr rfl rfl dL_law_1786 (se_iadd (se_iload rfl dL_law_1787) (se_iconst dL_law_1789 rfl) dL_law_1790) dL_law_1791) (sa_cons (se_aload_n rfl rfl dL_law_1792) sa_nil)))
  have s0 : ho_SS (iLaw xs L) 1 [99, 11, 12, 4, 0, 0] [99, 11, 12, 4, 0, 0, 0] 1798 _ _ := ss_decl (se_callV kX7_fill (sa_cons (se_aload_n rfl rfl dL_law_1798) (sa_cons (se_scr rfl rfl dL_law_1799 (se_iadd (se_iload rfl dL_law_1800) (se_iconst dL_law_1802 rfl) dL_law_1803) dL_law_1804) sa_nil)) dL_law_1805 wk_1021 wk_1022 wk_1023 hcX7 wk_478 wk_1024 ykX7_fill (Nat.le_of_ble_eq_true rfl) (Nat.le_of_ble_eq_true rfl) (Nat.le_of_ble_eq_true rfl) trivial) rfl (Nat.le_of_ble_eq_true rfl) dL_law_1808
  have s1 : ho_SS (iLaw xs L) 1 [99, 11, 12, 4, 0, 0, 0] [99, 11, 12, 4, 0, 0, 0] _ _ _ := ss_if (sc_NeN (tgt := 1821) (se_callV kX7_thrown (sa_cons (se_aload_n rfl rfl dL_law_1810) sa_nil) dL_law_1811 wk_844 wk_845 wk_846 hcX7 wk_478 wk_847 ykX7_thrown (Nat.le_of_ble_eq_true rfl) (Nat.le_of_ble_eq_true rfl) (Nat.le_of_ble_eq_true rfl) trivial) (se_iload rfl dL_law_1814) dL_law_1816 rfl) (ss_retZ (se_iconst dL_law_1819 rfl) rfl dL_law_1820) ss_nop
  have s2 : ho_SS (iLaw xs L) 1 [99, 11, 12, 4, 0, 0, 0] [99, 11, 12, 4, 0, 0, 0] _ _ _ := ss_if (sc_and (sc_EqN0 (tgt := 1838) (se_iload rfl dL_law_1821) dL_law_1823 rfl) (sc_lng (tgt := 1838) (se_aload_n rfl rfl dL_law_1826) (se_iconst dL_law_1827 rfl) dL_law_1828 (se_iload rfl dL_law_1829) dL_law_1831 dL_law_1832 dL_law_1833 rfl)) (ss_retZ (se_iconst dL_law_1836 rfl) rfl dL_law_1837) ss_nop
  have fin : ho_SS (iLaw xs L) 1 [99, 11, 12, 4, 0, 0] [99, 11, 12, 4, 0] 1798 2416 (lr_fill xs L) := ss_go (tgt := 2416) (ss_blk (n := 5) (ss_seq s0 (ss_seq s1 s2)) rfl) dL_law_1838 rfl
  refine ho_wcall (L := L) (xs := xs) kL_fill ha dL_law_1793 wk_1018 wk_1019 wk_838 wk_1020 ⟨by decide +kernel, by decide +kernel, by decide +kernel⟩ (Nat.le_of_ble_eq_true rfl) (Nat.le_of_ble_eq_true rfl) rfl hC (K := fun k σ => lr_fill xs L (v ++ [k]) σ K (fun _ _ => False) (fun _ _ => False)) (by rw [hX]; exact hf) hT hσ (fun x σ' hKx hx hσ' => ?_)
  refine lw_st (hC := hC1) (C := C) hx hT hσ' (Nat.le_of_ble_eq_true rfl) dL_law_1796 (fun hT1 => ?_)
  exact fin _ hC1 (by rw [← hr]; rfl) _ _ K (by rw [ho_up1_X, ho_up1_Q, hX, hQ]; exact hKx) hT1 hσ' (fun v' σ2 h1 h2 h3 => kk v' σ2 h1 h2 h3)
def lr_isStale (xs : Nat → Int32) (L : Nat) : ho_Z := (zB 5 (zS (zD (eK mX7_isStale (aC (eV 2) (aC (eS xs L (eB ho_oadd (eV 4) (eC 1))) (aC (eS xs L (eB ho_oadd (eV 4) (eC 2))) aN))))) (zS (zC (cNe (eK mX7_thrown (aC (eV 2) aN)) (eV 5)) (zRZ (eC 0)) zN) (zC (cAnd (cEq (eV 5) (eC 0)) (cNe (eI (eV 3) (eC 0)) (eU ho_b01 (eV 6)))) (zRZ (eC 0)) zN))))
def la_isStale (xs : Nat → Int32) (L : Nat) : ho_A := (aC (eV 1) (aC (eS xs L (eB ho_oadd (eV 4) (eC 1))) (aC (eS xs L (eB ho_oadd (eV 4) (eC 2))) (aC (eV 3) aN))))
def lf_isStale (xs : Nat → Int32) (L : Nat) : List Int → ho_S → (List Int → ho_S → Prop) → Prop := fun v σ K => la_isStale xs L v σ (fun l σ => mL_isStale l σ (fun k σ => lr_isStale xs L (v ++ [k]) σ K (fun _ _ => False) (fun _ _ => False)) (fun _ _ => False)) (fun _ _ => False)
set_option maxRecDepth 20000 in
theorem lk_isStale {xs : Nat → Int32} {L : Nat} {C : ho_Cx} (hC : ho_ok C (iLaw xs L)) (hC1 : ho_ok (ho_up1 C) (iLaw xs L)) (hr : ho_ro C = 1) (hX : ho_X' C = fun _ _ => False) (hQ : ho_Q' C = fun _ _ => False) {v : List Int} {σ : ho_S} {K : List Int → ho_S → Prop} (hf : lf_isStale xs L v σ K) (hT : ho_ty [99, 11, 12, 4, 0] v) (hσ : ho_rng σ) (kk : ∀ v' σ', K v' σ' → ho_ty [99, 11, 12, 4, 0] v' → ho_rng σ' → ho_P (ho_up1 C) 2416 [99, 11, 12, 4, 0] v' [] σ') : ho_P C 1841 [99, 11, 12, 4, 0] v [] σ := by
  have ha : ho_SA (iLaw xs L) [99, 11, 12, 4, 0] [11, 0, 0, 4] 0 1841 1855 (la_isStale xs L) := (sa_cons (se_aload_n rfl rfl dL_law_1841) (sa_cons (se_scr rfl rfl dL_law_1842 (se_iadd (se_iload rfl dL_law_1843) (se_iconst dL_law_1845 rfl) dL_law_1846) dL_law_1847) (sa_cons (se_scr rfl rfl dL_law_1848 (se_iadd (se_iload rfl dL_law_1849) (se_iconst dL_law_1851 rfl) dL_law_1852) dL_law_1853) (sa_cons (se_aload_n rfl rfl dL_law_1854) sa_nil))))
  have s0 : ho_SS (iLaw xs L) 1 [99, 11, 12, 4, 0, 0] [99, 11, 12, 4, 0, 0, 0] 1860 _ _ := ss_decl (se_callV kX7_isStale (sa_cons (se_aload_n rfl rfl dL_law_1860) (sa_cons (se_scr rfl rfl dL_law_1861 (se_iadd (se_iload rfl dL_law_1862) (se_iconst dL_law_1864 rfl) dL_law_1865) dL_law_1866) (sa_cons (se_scr rfl rfl dL_law_1867 (se_iadd (se_iload rfl dL_law_1868) (se_iconst dL_law_1870 rfl) dL_law_1871) dL_law_1872) sa_nil))) dL_law_1873 wk_1028 wk_1029 wk_1030 hcX7 wk_478 wk_1031 ykX7_isStale (Nat.le_of_ble_eq_true rfl) (Nat.le_of_ble_eq_true rfl) (Nat.le_of_ble_eq_true rfl) trivial) rfl (Nat.le_of_ble_eq_true rfl) dL_law_1876
  have s1 : ho_SS (iLaw xs L) 1 [99, 11, 12, 4, 0, 0, 0] [99, 11, 12, 4, 0, 0, 0] _ _ _ := ss_if (sc_NeN (tgt := 1889) (se_callV kX7_thrown (sa_cons (se_aload_n rfl rfl dL_law_1878) sa_nil) dL_law_1879 wk_844 wk_845 wk_846 hcX7 wk_478 wk_847 ykX7_thrown (Nat.le_of_ble_eq_true rfl) (Nat.le_of_ble_eq_true rfl) (Nat.le_of_ble_eq_true rfl) trivial) (se_iload rfl dL_law_1882) dL_law_1884 rfl) (ss_retZ (se_iconst dL_law_1887 rfl) rfl dL_law_1888) ss_nop
  have s2 : ho_SS (iLaw xs L) 1 [99, 11, 12, 4, 0, 0, 0] [99, 11, 12, 4, 0, 0, 0] _ _ _ := ss_if (sc_and (sc_EqN0 (tgt := 1913) (se_iload rfl dL_law_1889) dL_law_1891 rfl) (sc_lngz (tgt := 1913) (t1 := 1906) (t2 := 1907) (se_aload_n rfl rfl dL_law_1894) (se_iconst dL_law_1895 rfl) dL_law_1896 (se_iload rfl dL_law_1897) dL_law_1899 rfl dL_law_1902 dL_law_1903 rfl dL_law_1906 rfl dL_law_1907 dL_law_1908 rfl)) (ss_retZ (se_iconst dL_law_1911 rfl) rfl dL_law_1912) ss_nop
  have fin : ho_SS (iLaw xs L) 1 [99, 11, 12, 4, 0, 0] [99, 11, 12, 4, 0] 1860 2416 (lr_isStale xs L) := ss_go (tgt := 2416) (ss_blk (n := 5) (ss_seq s0 (ss_seq s1 s2)) rfl) dL_law_1913 rfl
  refine ho_wcall (L := L) (xs := xs) kL_isStale ha dL_law_1855 wk_1025 wk_1026 wk_838 wk_1027 ⟨by decide +kernel, by decide +kernel, by decide +kernel⟩ (Nat.le_of_ble_eq_true rfl) (Nat.le_of_ble_eq_true rfl) rfl hC (K := fun k σ => lr_isStale xs L (v ++ [k]) σ K (fun _ _ => False) (fun _ _ => False)) (by rw [hX]; exact hf) hT hσ (fun x σ' hKx hx hσ' => ?_)
  refine lw_st (hC := hC1) (C := C) hx hT hσ' (Nat.le_of_ble_eq_true rfl) dL_law_1858 (fun hT1 => ?_)
  exact fin _ hC1 (by rw [← hr]; rfl) _ _ K (by rw [ho_up1_X, ho_up1_Q, hX, hQ]; exact hKx) hT1 hσ' (fun v' σ2 h1 h2 h3 => kk v' σ2 h1 h2 h3)
def lr_memory (xs : Nat → Int32) (L : Nat) : ho_Z := (zB 5 (zS (zD (eK mX7_memory (aC (eV 2) (aC (eS xs L (eB ho_oadd (eV 4) (eC 1))) aN)))) (zS (zC (cNe (eK mX7_thrown (aC (eV 2) aN)) (eV 5)) (zRZ (eC 0)) zN) (zC (cAnd (cEq (eV 5) (eC 0)) (cNe (eI (eV 3) (eC 0)) (eV 6))) (zRZ (eC 0)) zN))))
def la_memory (xs : Nat → Int32) (L : Nat) : ho_A := (aC (eV 1) (aC (eS xs L (eB ho_oadd (eV 4) (eC 1))) (aC (eV 3) aN)))
def lf_memory (xs : Nat → Int32) (L : Nat) : List Int → ho_S → (List Int → ho_S → Prop) → Prop := fun v σ K => la_memory xs L v σ (fun l σ => mL_memory l σ (fun k σ => lr_memory xs L (v ++ [k]) σ K (fun _ _ => False) (fun _ _ => False)) (fun _ _ => False)) (fun _ _ => False)
set_option maxRecDepth 20000 in
theorem lk_memory {xs : Nat → Int32} {L : Nat} {C : ho_Cx} (hC : ho_ok C (iLaw xs L)) (hC1 : ho_ok (ho_up1 C) (iLaw xs L)) (hr : ho_ro C = 1) (hX : ho_X' C = fun _ _ => False) (hQ : ho_Q' C = fun _ _ => False) {v : List Int} {σ : ho_S} {K : List Int → ho_S → Prop} (hf : lf_memory xs L v σ K) (hT : ho_ty [99, 11, 12, 4, 0] v) (hσ : ho_rng σ) (kk : ∀ v' σ', K v' σ' → ho_ty [99, 11, 12, 4, 0] v' → ho_rng σ' → ho_P (ho_up1 C) 2416 [99, 11, 12, 4, 0] v' [] σ') : ho_P C 1916 [99, 11, 12, 4, 0] v [] σ := by
  have ha : ho_SA (iLaw xs L) [99, 11, 12, 4, 0] [11, 0, 4] 0 1916 1924 (la_memory xs L) := (sa_cons (se_aload_n rfl rfl dL_law_1916) (sa_cons (se_scr rfl rfl dL_law_1917 (se_iadd (se_iload rfl dL_law_1918) (se_iconst dL_law_1920 rfl) dL_law_1921) dL_law_1922) (sa_cons (se_aload_n rfl rfl dL_law_1923) sa_nil)))
  have s0 : ho_SS (iLaw xs L) 1 [99, 11, 12, 4, 0, 0] [99, 11, 12, 4, 0, 0, 0] 1929 _ _ := ss_decl (se_callV kX7_memory (sa_cons (se_aload_n rfl rfl dL_law_1929) (sa_cons (se_scr rfl rfl dL_law_1930 (se_iadd (se_iload rfl dL_law_1931) (se_iconst dL_law_1933 rfl) dL_law_1934) dL_law_1935) sa_nil)) dL_law_1936 wk_1035 wk_1036 wk_1037 hcX7 wk_478 wk_1038 ykX7_memory (Nat.le_of_ble_eq_true rfl) (Nat.le_of_ble_eq_true rfl) (Nat.le_of_ble_eq_true rfl) trivial) rfl (Nat.le_of_ble_eq_true rfl) dL_law_1939
  have s1 : ho_SS (iLaw xs L) 1 [99, 11, 12, 4, 0, 0, 0] [99, 11, 12, 4, 0, 0, 0] _ _ _ := ss_if (sc_NeN (tgt := 1952) (se_callV kX7_thrown (sa_cons (se_aload_n rfl rfl dL_law_1941) sa_nil) dL_law_1942 wk_844 wk_845 wk_846 hcX7 wk_478 wk_847 ykX7_thrown (Nat.le_of_ble_eq_true rfl) (Nat.le_of_ble_eq_true rfl) (Nat.le_of_ble_eq_true rfl) trivial) (se_iload rfl dL_law_1945) dL_law_1947 rfl) (ss_retZ (se_iconst dL_law_1950 rfl) rfl dL_law_1951) ss_nop
  have s2 : ho_SS (iLaw xs L) 1 [99, 11, 12, 4, 0, 0, 0] [99, 11, 12, 4, 0, 0, 0] _ _ _ := ss_if (sc_and (sc_EqN0 (tgt := 1969) (se_iload rfl dL_law_1952) dL_law_1954 rfl) (sc_lng (tgt := 1969) (se_aload_n rfl rfl dL_law_1957) (se_iconst dL_law_1958 rfl) dL_law_1959 (se_iload rfl dL_law_1960) dL_law_1962 dL_law_1963 dL_law_1964 rfl)) (ss_retZ (se_iconst dL_law_1967 rfl) rfl dL_law_1968) ss_nop
  have fin : ho_SS (iLaw xs L) 1 [99, 11, 12, 4, 0, 0] [99, 11, 12, 4, 0] 1929 2416 (lr_memory xs L) := ss_go (tgt := 2416) (ss_blk (n := 5) (ss_seq s0 (ss_seq s1 s2)) rfl) dL_law_1969 rfl
  refine ho_wcall (L := L) (xs := xs) kL_memory ha dL_law_1924 wk_1032 wk_1033 wk_838 wk_1034 ⟨by decide +kernel, by decide +kernel, by decide +kernel⟩ (Nat.le_of_ble_eq_true rfl) (Nat.le_of_ble_eq_true rfl) rfl hC (K := fun k σ => lr_memory xs L (v ++ [k]) σ K (fun _ _ => False) (fun _ _ => False)) (by rw [hX]; exact hf) hT hσ (fun x σ' hKx hx hσ' => ?_)
  refine lw_st (hC := hC1) (C := C) hx hT hσ' (Nat.le_of_ble_eq_true rfl) dL_law_1927 (fun hT1 => ?_)
  exact fin _ hC1 (by rw [← hr]; rfl) _ _ K (by rw [ho_up1_X, ho_up1_Q, hX, hQ]; exact hKx) hT1 hσ' (fun v' σ2 h1 h2 h3 => kk v' σ2 h1 h2 h3)
def lr_broken (xs : Nat → Int32) (L : Nat) : ho_Z := (zB 5 (zS (zD (eK mX7_broken (aC (eV 2) (aC (eS xs L (eB ho_oadd (eV 4) (eC 1))) (aC (eS xs L (eB ho_oadd (eV 4) (eC 2))) aN))))) (zS (zC (cNe (eK mX7_thrown (aC (eV 2) aN)) (eV 5)) (zRZ (eC 0)) zN) (zC (cAnd (cEq (eV 5) (eC 0)) (cNe (eI (eV 3) (eC 0)) (eV 6))) (zRZ (eC 0)) zN))))
def la_broken (xs : Nat → Int32) (L : Nat) : ho_A := (aC (eV 1) (aC (eS xs L (eB ho_oadd (eV 4) (eC 1))) (aC (eS xs L (eB ho_oadd (eV 4) (eC 2))) (aC (eV 3) aN))))
def lf_broken (xs : Nat → Int32) (L : Nat) : List Int → ho_S → (List Int → ho_S → Prop) → Prop := fun v σ K => la_broken xs L v σ (fun l σ => mL_broken l σ (fun k σ => lr_broken xs L (v ++ [k]) σ K (fun _ _ => False) (fun _ _ => False)) (fun _ _ => False)) (fun _ _ => False)
set_option maxRecDepth 20000 in
theorem lk_broken {xs : Nat → Int32} {L : Nat} {C : ho_Cx} (hC : ho_ok C (iLaw xs L)) (hC1 : ho_ok (ho_up1 C) (iLaw xs L)) (hr : ho_ro C = 1) (hX : ho_X' C = fun _ _ => False) (hQ : ho_Q' C = fun _ _ => False) {v : List Int} {σ : ho_S} {K : List Int → ho_S → Prop} (hf : lf_broken xs L v σ K) (hT : ho_ty [99, 11, 12, 4, 0] v) (hσ : ho_rng σ) (kk : ∀ v' σ', K v' σ' → ho_ty [99, 11, 12, 4, 0] v' → ho_rng σ' → ho_P (ho_up1 C) 2416 [99, 11, 12, 4, 0] v' [] σ') : ho_P C 1972 [99, 11, 12, 4, 0] v [] σ := by
  have ha : ho_SA (iLaw xs L) [99, 11, 12, 4, 0] [11, 0, 0, 4] 0 1972 1986 (la_broken xs L) := (sa_cons (se_aload_n rfl rfl dL_law_1972) (sa_cons (se_scr rfl rfl dL_law_1973 (se_iadd (se_iload rfl dL_law_1974) (se_iconst dL_law_1976 rfl) dL_law_1977) dL_law_1978) (sa_cons (se_scr rfl rfl dL_law_1979 (se_iadd (se_iload rfl dL_law_1980) (se_iconst dL_law_1982 rfl) dL_law_1983) dL_law_1984) (sa_cons (se_aload_n rfl rfl dL_law_1985) sa_nil))))
  have s0 : ho_SS (iLaw xs L) 1 [99, 11, 12, 4, 0, 0] [99, 11, 12, 4, 0, 0, 0] 1991 _ _ := ss_decl (se_callV kX7_broken (sa_cons (se_aload_n rfl rfl dL_law_1991) (sa_cons (se_scr rfl rfl dL_law_1992 (se_iadd (se_iload rfl dL_law_1993) (se_iconst dL_law_1995 rfl) dL_law_1996) dL_law_1997) (sa_cons (se_scr rfl rfl dL_law_1998 (se_iadd (se_iload rfl dL_law_1999) (se_iconst dL_law_2001 rfl) dL_law_2002) dL_law_2003) sa_nil))) dL_law_2004 wk_1042 wk_1043 wk_1044 hcX7 wk_478 wk_1045 ykX7_broken (Nat.le_of_ble_eq_true rfl) (Nat.le_of_ble_eq_true rfl) (Nat.le_of_ble_eq_true rfl) trivial) rfl (Nat.le_of_ble_eq_true rfl) dL_law_2007
  have s1 : ho_SS (iLaw xs L) 1 [99, 11, 12, 4, 0, 0, 0] [99, 11, 12, 4, 0, 0, 0] _ _ _ := ss_if (sc_NeN (tgt := 2020) (se_callV kX7_thrown (sa_cons (se_aload_n rfl rfl dL_law_2009) sa_nil) dL_law_2010 wk_844 wk_845 wk_846 hcX7 wk_478 wk_847 ykX7_thrown (Nat.le_of_ble_eq_true rfl) (Nat.le_of_ble_eq_true rfl) (Nat.le_of_ble_eq_true rfl) trivial) (se_iload rfl dL_law_2013) dL_law_2015 rfl) (ss_retZ (se_iconst dL_law_2018 rfl) rfl dL_law_2019) ss_nop
  have s2 : ho_SS (iLaw xs L) 1 [99, 11, 12, 4, 0, 0, 0] [99, 11, 12, 4, 0, 0, 0] _ _ _ := ss_if (sc_and (sc_EqN0 (tgt := 2037) (se_iload rfl dL_law_2020) dL_law_2022 rfl) (sc_lng (tgt := 2037) (se_aload_n rfl rfl dL_law_2025) (se_iconst dL_law_2026 rfl) dL_law_2027 (se_iload rfl dL_law_2028) dL_law_2030 dL_law_2031 dL_law_2032 rfl)) (ss_retZ (se_iconst dL_law_2035 rfl) rfl dL_law_2036) ss_nop
  have fin : ho_SS (iLaw xs L) 1 [99, 11, 12, 4, 0, 0] [99, 11, 12, 4, 0] 1991 2416 (lr_broken xs L) := ss_go (tgt := 2416) (ss_blk (n := 5) (ss_seq s0 (ss_seq s1 s2)) rfl) dL_law_2037 rfl
  refine ho_wcall (L := L) (xs := xs) kL_broken ha dL_law_1986 wk_1039 wk_1040 wk_838 wk_1041 ⟨by decide +kernel, by decide +kernel, by decide +kernel⟩ (Nat.le_of_ble_eq_true rfl) (Nat.le_of_ble_eq_true rfl) rfl hC (K := fun k σ => lr_broken xs L (v ++ [k]) σ K (fun _ _ => False) (fun _ _ => False)) (by rw [hX]; exact hf) hT hσ (fun x σ' hKx hx hσ' => ?_)
  refine lw_st (hC := hC1) (C := C) hx hT hσ' (Nat.le_of_ble_eq_true rfl) dL_law_1989 (fun hT1 => ?_)
  exact fin _ hC1 (by rw [← hr]; rfl) _ _ K (by rw [ho_up1_X, ho_up1_Q, hX, hQ]; exact hKx) hT1 hσ' (fun v' σ2 h1 h2 h3 => kk v' σ2 h1 h2 h3)
def lr_letGo (xs : Nat → Int32) (L : Nat) : ho_Z := (zB 5 (zS (zD (eK mX7_letGo (aC (eV 2) (aC (eS xs L (eB ho_oadd (eV 4) (eC 1))) (aC (eS xs L (eB ho_oadd (eV 4) (eC 2))) (aC (eS xs L (eB ho_oadd (eV 4) (eC 3))) (aC (eS xs L (eB ho_oadd (eV 4) (eC 4))) aN))))))) (zS (zC (cNe (eK mX7_thrown (aC (eV 2) aN)) (eV 5)) (zRZ (eC 0)) zN) (zC (cAnd (cEq (eV 5) (eC 0)) (cNe (eI (eV 3) (eC 0)) (eV 6))) (zRZ (eC 0)) zN))))
def la_letGo (xs : Nat → Int32) (L : Nat) : ho_A := (aC (eV 1) (aC (eS xs L (eB ho_oadd (eV 4) (eC 1))) (aC (eS xs L (eB ho_oadd (eV 4) (eC 2))) (aC (eS xs L (eB ho_oadd (eV 4) (eC 3))) (aC (eS xs L (eB ho_oadd (eV 4) (eC 4))) (aC (eV 3) aN))))))
def lf_letGo (xs : Nat → Int32) (L : Nat) : List Int → ho_S → (List Int → ho_S → Prop) → Prop := fun v σ K => la_letGo xs L v σ (fun l σ => mL_letGo l σ (fun k σ => lr_letGo xs L (v ++ [k]) σ K (fun _ _ => False) (fun _ _ => False)) (fun _ _ => False)) (fun _ _ => False)
set_option maxRecDepth 20000 in
theorem lk_letGo {xs : Nat → Int32} {L : Nat} {C : ho_Cx} (hC : ho_ok C (iLaw xs L)) (hC1 : ho_ok (ho_up1 C) (iLaw xs L)) (hr : ho_ro C = 1) (hX : ho_X' C = fun _ _ => False) (hQ : ho_Q' C = fun _ _ => False) {v : List Int} {σ : ho_S} {K : List Int → ho_S → Prop} (hf : lf_letGo xs L v σ K) (hT : ho_ty [99, 11, 12, 4, 0] v) (hσ : ho_rng σ) (kk : ∀ v' σ', K v' σ' → ho_ty [99, 11, 12, 4, 0] v' → ho_rng σ' → ho_P (ho_up1 C) 2416 [99, 11, 12, 4, 0] v' [] σ') : ho_P C 2040 [99, 11, 12, 4, 0] v [] σ := by
  have ha : ho_SA (iLaw xs L) [99, 11, 12, 4, 0] [11, 0, 0, 0, 0, 4] 0 2040 2066 (la_letGo xs L) := (sa_cons (se_aload_n rfl rfl dL_law_2040) (sa_cons (se_scr rfl rfl dL_law_2041 (se_iadd (se_iload rfl dL_law_2042) (se_iconst dL_law_2044 rfl) dL_law_2045) dL_law_2046) (sa_cons (se_scr rfl rfl dL_law_2047 (se_iadd (se_iload rfl dL_law_2048) (se_iconst dL_law_2050 rfl) dL_law_2051) dL_law_2052) (sa_cons (se_scr rfl rfl dL_law_2053 (se_iadd (se_iload rfl dL_law_2054) (se_iconst dL_law_2056 rfl) dL_law_2057) dL_law_2058) (sa_cons (se_scr rfl rfl dL_law_2059 (se_iadd (se_iload rfl dL_law_2060) (se_iconst dL_law_2062 rfl) dL_law_2063) dL_law_2064) (sa_cons (se_aload_n rfl rfl dL_law_2065) sa_nil))))))
  have s0 : ho_SS (iLaw xs L) 1 [99, 11, 12, 4, 0, 0] [99, 11, 12, 4, 0, 0, 0] 2071 _ _ := ss_decl (se_callV kX7_letGo (sa_cons (se_aload_n rfl rfl dL_law_2071) (sa_cons (se_scr rfl rfl dL_law_2072 (se_iadd (se_iload rfl dL_law_2073) (se_iconst dL_law_2075 rfl) dL_law_2076) dL_law_2077) (sa_cons (se_scr rfl rfl dL_law_2078 (se_iadd (se_iload rfl dL_law_2079) (se_iconst dL_law_2081 rfl) dL_law_2082) dL_law_2083) (sa_cons (se_scr rfl rfl dL_law_2084 (se_iadd (se_iload rfl dL_law_2085) (se_iconst dL_law_2087 rfl) dL_law_2088) dL_law_2089) (sa_cons (se_scr rfl rfl dL_law_2090 (se_iadd (se_iload rfl dL_law_2091) (se_iconst dL_law_2093 rfl) dL_law_2094) dL_law_2095) sa_nil))))) dL_law_2096 wk_1049 wk_1050 wk_1051 hcX7 wk_478 wk_1052 ykX7_letGo (Nat.le_of_ble_eq_true rfl) (Nat.le_of_ble_eq_true rfl) (Nat.le_of_ble_eq_true rfl) trivial) rfl (Nat.le_of_ble_eq_true rfl) dL_law_2099
  have s1 : ho_SS (iLaw xs L) 1 [99, 11, 12, 4, 0, 0, 0] [99, 11, 12, 4, 0, 0, 0] _ _ _ := ss_if (sc_NeN (tgt := 2112) (se_callV kX7_thrown (sa_cons (se_aload_n rfl rfl dL_law_2101) sa_nil) dL_law_2102 wk_844 wk_845 wk_846 hcX7 wk_478 wk_847 ykX7_thrown (Nat.le_of_ble_eq_true rfl) (Nat.le_of_ble_eq_true rfl) (Nat.le_of_ble_eq_true rfl) trivial) (se_iload rfl dL_law_2105) dL_law_2107 rfl) (ss_retZ (se_iconst dL_law_2110 rfl) rfl dL_law_2111) ss_nop
  have s2 : ho_SS (iLaw xs L) 1 [99, 11, 12, 4, 0, 0, 0] [99, 11, 12, 4, 0, 0, 0] _ _ _ := ss_if (sc_and (sc_EqN0 (tgt := 2129) (se_iload rfl dL_law_2112) dL_law_2114 rfl) (sc_lng (tgt := 2129) (se_aload_n rfl rfl dL_law_2117) (se_iconst dL_law_2118 rfl) dL_law_2119 (se_iload rfl dL_law_2120) dL_law_2122 dL_law_2123 dL_law_2124 rfl)) (ss_retZ (se_iconst dL_law_2127 rfl) rfl dL_law_2128) ss_nop
  have fin : ho_SS (iLaw xs L) 1 [99, 11, 12, 4, 0, 0] [99, 11, 12, 4, 0] 2071 2416 (lr_letGo xs L) := ss_go (tgt := 2416) (ss_blk (n := 5) (ss_seq s0 (ss_seq s1 s2)) rfl) dL_law_2129 rfl
  refine ho_wcall (L := L) (xs := xs) kL_letGo ha dL_law_2066 wk_1046 wk_1047 wk_838 wk_1048 ⟨by decide +kernel, by decide +kernel, by decide +kernel⟩ (Nat.le_of_ble_eq_true rfl) (Nat.le_of_ble_eq_true rfl) rfl hC (K := fun k σ => lr_letGo xs L (v ++ [k]) σ K (fun _ _ => False) (fun _ _ => False)) (by rw [hX]; exact hf) hT hσ (fun x σ' hKx hx hσ' => ?_)
  refine lw_st (hC := hC1) (C := C) hx hT hσ' (Nat.le_of_ble_eq_true rfl) dL_law_2069 (fun hT1 => ?_)
  exact fin _ hC1 (by rw [← hr]; rfl) _ _ K (by rw [ho_up1_X, ho_up1_Q, hX, hQ]; exact hKx) hT1 hσ' (fun v' σ2 h1 h2 h3 => kk v' σ2 h1 h2 h3)
def lr_nameOf (xs : Nat → Int32) (L : Nat) : ho_Z := (zB 5 (zS (zD (eK mX7_nameOf (aC (eV 2) (aC (eS xs L (eB ho_oadd (eV 4) (eC 1))) (aC (eS xs L (eB ho_oadd (eV 4) (eC 2))) (aC (eS xs L (eB ho_oadd (eV 4) (eC 3))) aN)))))) (zS (zC (cNe (eK mX7_thrown (aC (eV 2) aN)) (eV 5)) (zRZ (eC 0)) zN) (zC (cAnd (cEq (eV 5) (eC 0)) (cNe (eI (eV 3) (eC 0)) (eV 6))) (zRZ (eC 0)) zN))))
def la_nameOf (xs : Nat → Int32) (L : Nat) : ho_A := (aC (eV 1) (aC (eS xs L (eB ho_oadd (eV 4) (eC 1))) (aC (eS xs L (eB ho_oadd (eV 4) (eC 2))) (aC (eS xs L (eB ho_oadd (eV 4) (eC 3))) (aC (eV 3) aN)))))
def lf_nameOf (xs : Nat → Int32) (L : Nat) : List Int → ho_S → (List Int → ho_S → Prop) → Prop := fun v σ K => la_nameOf xs L v σ (fun l σ => mL_nameOf l σ (fun k σ => lr_nameOf xs L (v ++ [k]) σ K (fun _ _ => False) (fun _ _ => False)) (fun _ _ => False)) (fun _ _ => False)
set_option maxRecDepth 20000 in
theorem lk_nameOf {xs : Nat → Int32} {L : Nat} {C : ho_Cx} (hC : ho_ok C (iLaw xs L)) (hC1 : ho_ok (ho_up1 C) (iLaw xs L)) (hr : ho_ro C = 1) (hX : ho_X' C = fun _ _ => False) (hQ : ho_Q' C = fun _ _ => False) {v : List Int} {σ : ho_S} {K : List Int → ho_S → Prop} (hf : lf_nameOf xs L v σ K) (hT : ho_ty [99, 11, 12, 4, 0] v) (hσ : ho_rng σ) (kk : ∀ v' σ', K v' σ' → ho_ty [99, 11, 12, 4, 0] v' → ho_rng σ' → ho_P (ho_up1 C) 2416 [99, 11, 12, 4, 0] v' [] σ') : ho_P C 2132 [99, 11, 12, 4, 0] v [] σ := by
  have ha : ho_SA (iLaw xs L) [99, 11, 12, 4, 0] [11, 0, 0, 0, 4] 0 2132 2152 (la_nameOf xs L) := (sa_cons (se_aload_n rfl rfl dL_law_2132) (sa_cons (se_scr rfl rfl dL_law_2133 (se_iadd (se_iload rfl dL_law_2134) (se_iconst dL_law_2136 rfl) dL_law_2137) dL_law_2138) (sa_cons (se_scr rfl rfl dL_law_2139 (se_iadd (se_iload rfl dL_law_2140) (se_iconst dL_law_2142 rfl) dL_law_2143) dL_law_2144) (sa_cons (se_scr rfl rfl dL_law_2145 (se_iadd (se_iload rfl dL_law_2146) (se_iconst dL_law_2148 rfl) dL_law_2149) dL_law_2150) (sa_cons (se_aload_n rfl rfl dL_law_2151) sa_nil)))))
  have s0 : ho_SS (iLaw xs L) 1 [99, 11, 12, 4, 0, 0] [99, 11, 12, 4, 0, 0, 0] 2157 _ _ := ss_decl (se_callV kX7_nameOf (sa_cons (se_aload_n rfl rfl dL_law_2157) (sa_cons (se_scr rfl rfl dL_law_2158 (se_iadd (se_iload rfl dL_law_2159) (se_iconst dL_law_2161 rfl) dL_law_2162) dL_law_2163) (sa_cons (se_scr rfl rfl dL_law_2164 (se_iadd (se_iload rfl dL_law_2165) (se_iconst dL_law_2167 rfl) dL_law_2168) dL_law_2169) (sa_cons (se_scr rfl rfl dL_law_2170 (se_iadd (se_iload rfl dL_law_2171) (se_iconst dL_law_2173 rfl) dL_law_2174) dL_law_2175) sa_nil)))) dL_law_2176 wk_1056 wk_1057 wk_1058 hcX7 wk_478 wk_1059 ykX7_nameOf (Nat.le_of_ble_eq_true rfl) (Nat.le_of_ble_eq_true rfl) (Nat.le_of_ble_eq_true rfl) trivial) rfl (Nat.le_of_ble_eq_true rfl) dL_law_2179
  have s1 : ho_SS (iLaw xs L) 1 [99, 11, 12, 4, 0, 0, 0] [99, 11, 12, 4, 0, 0, 0] _ _ _ := ss_if (sc_NeN (tgt := 2192) (se_callV kX7_thrown (sa_cons (se_aload_n rfl rfl dL_law_2181) sa_nil) dL_law_2182 wk_844 wk_845 wk_846 hcX7 wk_478 wk_847 ykX7_thrown (Nat.le_of_ble_eq_true rfl) (Nat.le_of_ble_eq_true rfl) (Nat.le_of_ble_eq_true rfl) trivial) (se_iload rfl dL_law_2185) dL_law_2187 rfl) (ss_retZ (se_iconst dL_law_2190 rfl) rfl dL_law_2191) ss_nop
  have s2 : ho_SS (iLaw xs L) 1 [99, 11, 12, 4, 0, 0, 0] [99, 11, 12, 4, 0, 0, 0] _ _ _ := ss_if (sc_and (sc_EqN0 (tgt := 2209) (se_iload rfl dL_law_2192) dL_law_2194 rfl) (sc_lng (tgt := 2209) (se_aload_n rfl rfl dL_law_2197) (se_iconst dL_law_2198 rfl) dL_law_2199 (se_iload rfl dL_law_2200) dL_law_2202 dL_law_2203 dL_law_2204 rfl)) (ss_retZ (se_iconst dL_law_2207 rfl) rfl dL_law_2208) ss_nop
  have fin : ho_SS (iLaw xs L) 1 [99, 11, 12, 4, 0, 0] [99, 11, 12, 4, 0] 2157 2416 (lr_nameOf xs L) := ss_go (tgt := 2416) (ss_blk (n := 5) (ss_seq s0 (ss_seq s1 s2)) rfl) dL_law_2209 rfl
  refine ho_wcall (L := L) (xs := xs) kL_nameOf ha dL_law_2152 wk_1053 wk_1054 wk_838 wk_1055 ⟨by decide +kernel, by decide +kernel, by decide +kernel⟩ (Nat.le_of_ble_eq_true rfl) (Nat.le_of_ble_eq_true rfl) rfl hC (K := fun k σ => lr_nameOf xs L (v ++ [k]) σ K (fun _ _ => False) (fun _ _ => False)) (by rw [hX]; exact hf) hT hσ (fun x σ' hKx hx hσ' => ?_)
  refine lw_st (hC := hC1) (C := C) hx hT hσ' (Nat.le_of_ble_eq_true rfl) dL_law_2155 (fun hT1 => ?_)
  exact fin _ hC1 (by rw [← hr]; rfl) _ _ K (by rw [ho_up1_X, ho_up1_Q, hX, hQ]; exact hKx) hT1 hσ' (fun v' σ2 h1 h2 h3 => kk v' σ2 h1 h2 h3)
def lr_faults (xs : Nat → Int32) (L : Nat) : ho_Z := (zB 5 (zS (zD (eK mX7_faults (aC (eV 2) (aC (eS xs L (eB ho_oadd (eV 4) (eC 1))) aN)))) (zS (zC (cNe (eK mX7_thrown (aC (eV 2) aN)) (eV 5)) (zRZ (eC 0)) zN) (zC (cAnd (cEq (eV 5) (eC 0)) (cNe (eI (eV 3) (eC 0)) (eV 6))) (zRZ (eC 0)) zN))))
def la_faults (xs : Nat → Int32) (L : Nat) : ho_A := (aC (eV 1) (aC (eS xs L (eB ho_oadd (eV 4) (eC 1))) (aC (eV 3) aN)))
def lf_faults (xs : Nat → Int32) (L : Nat) : List Int → ho_S → (List Int → ho_S → Prop) → Prop := fun v σ K => la_faults xs L v σ (fun l σ => mL_faults l σ (fun k σ => lr_faults xs L (v ++ [k]) σ K (fun _ _ => False) (fun _ _ => False)) (fun _ _ => False)) (fun _ _ => False)
set_option maxRecDepth 20000 in
theorem lk_faults {xs : Nat → Int32} {L : Nat} {C : ho_Cx} (hC : ho_ok C (iLaw xs L)) (hC1 : ho_ok (ho_up1 C) (iLaw xs L)) (hr : ho_ro C = 1) (hX : ho_X' C = fun _ _ => False) (hQ : ho_Q' C = fun _ _ => False) {v : List Int} {σ : ho_S} {K : List Int → ho_S → Prop} (hf : lf_faults xs L v σ K) (hT : ho_ty [99, 11, 12, 4, 0] v) (hσ : ho_rng σ) (kk : ∀ v' σ', K v' σ' → ho_ty [99, 11, 12, 4, 0] v' → ho_rng σ' → ho_P (ho_up1 C) 2416 [99, 11, 12, 4, 0] v' [] σ') : ho_P C 2212 [99, 11, 12, 4, 0] v [] σ := by
  have ha : ho_SA (iLaw xs L) [99, 11, 12, 4, 0] [11, 0, 4] 0 2212 2220 (la_faults xs L) := (sa_cons (se_aload_n rfl rfl dL_law_2212) (sa_cons (se_scr rfl rfl dL_law_2213 (se_iadd (se_iload rfl dL_law_2214) (se_iconst dL_law_2216 rfl) dL_law_2217) dL_law_2218) (sa_cons (se_aload_n rfl rfl dL_law_2219) sa_nil)))
  have s0 : ho_SS (iLaw xs L) 1 [99, 11, 12, 4, 0, 0] [99, 11, 12, 4, 0, 0, 0] 2225 _ _ := ss_decl (se_callV kX7_faults (sa_cons (se_aload_n rfl rfl dL_law_2225) (sa_cons (se_scr rfl rfl dL_law_2226 (se_iadd (se_iload rfl dL_law_2227) (se_iconst dL_law_2229 rfl) dL_law_2230) dL_law_2231) sa_nil)) dL_law_2232 wk_1063 wk_1064 wk_1065 hcX7 wk_478 wk_1066 ykX7_faults (Nat.le_of_ble_eq_true rfl) (Nat.le_of_ble_eq_true rfl) (Nat.le_of_ble_eq_true rfl) trivial) rfl (Nat.le_of_ble_eq_true rfl) dL_law_2235
  have s1 : ho_SS (iLaw xs L) 1 [99, 11, 12, 4, 0, 0, 0] [99, 11, 12, 4, 0, 0, 0] _ _ _ := ss_if (sc_NeN (tgt := 2248) (se_callV kX7_thrown (sa_cons (se_aload_n rfl rfl dL_law_2237) sa_nil) dL_law_2238 wk_844 wk_845 wk_846 hcX7 wk_478 wk_847 ykX7_thrown (Nat.le_of_ble_eq_true rfl) (Nat.le_of_ble_eq_true rfl) (Nat.le_of_ble_eq_true rfl) trivial) (se_iload rfl dL_law_2241) dL_law_2243 rfl) (ss_retZ (se_iconst dL_law_2246 rfl) rfl dL_law_2247) ss_nop
  have s2 : ho_SS (iLaw xs L) 1 [99, 11, 12, 4, 0, 0, 0] [99, 11, 12, 4, 0, 0, 0] _ _ _ := ss_if (sc_and (sc_EqN0 (tgt := 2265) (se_iload rfl dL_law_2248) dL_law_2250 rfl) (sc_lng (tgt := 2265) (se_aload_n rfl rfl dL_law_2253) (se_iconst dL_law_2254 rfl) dL_law_2255 (se_iload rfl dL_law_2256) dL_law_2258 dL_law_2259 dL_law_2260 rfl)) (ss_retZ (se_iconst dL_law_2263 rfl) rfl dL_law_2264) ss_nop
  have fin : ho_SS (iLaw xs L) 1 [99, 11, 12, 4, 0, 0] [99, 11, 12, 4, 0] 2225 2416 (lr_faults xs L) := ss_go (tgt := 2416) (ss_blk (n := 5) (ss_seq s0 (ss_seq s1 s2)) rfl) dL_law_2265 rfl
  refine ho_wcall (L := L) (xs := xs) kL_faults ha dL_law_2220 wk_1060 wk_1061 wk_838 wk_1062 ⟨by decide +kernel, by decide +kernel, by decide +kernel⟩ (Nat.le_of_ble_eq_true rfl) (Nat.le_of_ble_eq_true rfl) rfl hC (K := fun k σ => lr_faults xs L (v ++ [k]) σ K (fun _ _ => False) (fun _ _ => False)) (by rw [hX]; exact hf) hT hσ (fun x σ' hKx hx hσ' => ?_)
  refine lw_st (hC := hC1) (C := C) hx hT hσ' (Nat.le_of_ble_eq_true rfl) dL_law_2223 (fun hT1 => ?_)
  exact fin _ hC1 (by rw [← hr]; rfl) _ _ K (by rw [ho_up1_X, ho_up1_Q, hX, hQ]; exact hKx) hT1 hσ' (fun v' σ2 h1 h2 h3 => kk v' σ2 h1 h2 h3)
def lr_written (xs : Nat → Int32) (L : Nat) : ho_Z := (zB 5 (zS (zD (eK mX7_written (aC (eV 2) (aC (eS xs L (eB ho_oadd (eV 4) (eC 1))) (aC (eS xs L (eB ho_oadd (eV 4) (eC 2))) aN))))) (zS (zC (cNe (eK mX7_thrown (aC (eV 2) aN)) (eV 5)) (zRZ (eC 0)) zN) (zC (cAnd (cEq (eV 5) (eC 0)) (cNe (eI (eV 3) (eC 0)) (eV 6))) (zRZ (eC 0)) zN))))
def la_written (xs : Nat → Int32) (L : Nat) : ho_A := (aC (eV 1) (aC (eS xs L (eB ho_oadd (eV 4) (eC 1))) (aC (eS xs L (eB ho_oadd (eV 4) (eC 2))) (aC (eV 3) aN))))
def lf_written (xs : Nat → Int32) (L : Nat) : List Int → ho_S → (List Int → ho_S → Prop) → Prop := fun v σ K => la_written xs L v σ (fun l σ => mL_written l σ (fun k σ => lr_written xs L (v ++ [k]) σ K (fun _ _ => False) (fun _ _ => False)) (fun _ _ => False)) (fun _ _ => False)
set_option maxRecDepth 20000 in
theorem lk_written {xs : Nat → Int32} {L : Nat} {C : ho_Cx} (hC : ho_ok C (iLaw xs L)) (hC1 : ho_ok (ho_up1 C) (iLaw xs L)) (hr : ho_ro C = 1) (hX : ho_X' C = fun _ _ => False) (hQ : ho_Q' C = fun _ _ => False) {v : List Int} {σ : ho_S} {K : List Int → ho_S → Prop} (hf : lf_written xs L v σ K) (hT : ho_ty [99, 11, 12, 4, 0] v) (hσ : ho_rng σ) (kk : ∀ v' σ', K v' σ' → ho_ty [99, 11, 12, 4, 0] v' → ho_rng σ' → ho_P (ho_up1 C) 2416 [99, 11, 12, 4, 0] v' [] σ') : ho_P C 2268 [99, 11, 12, 4, 0] v [] σ := by
  have ha : ho_SA (iLaw xs L) [99, 11, 12, 4, 0] [11, 0, 0, 4] 0 2268 2282 (la_written xs L) := (sa_cons (se_aload_n rfl rfl dL_law_2268) (sa_cons (se_scr rfl rfl dL_law_2269 (se_iadd (se_iload rfl dL_law_2270) (se_iconst dL_law_2272 rfl) dL_law_2273) dL_law_2274) (sa_cons (se_scr rfl rfl dL_law_2275 (se_iadd (se_iload rfl dL_law_2276) (se_iconst dL_law_2278 rfl) dL_law_2279) dL_law_2280) (sa_cons (se_aload_n rfl rfl dL_law_2281) sa_nil))))
  have s0 : ho_SS (iLaw xs L) 1 [99, 11, 12, 4, 0, 0] [99, 11, 12, 4, 0, 0, 0] 2287 _ _ := ss_decl (se_callV kX7_written (sa_cons (se_aload_n rfl rfl dL_law_2287) (sa_cons (se_scr rfl rfl dL_law_2288 (se_iadd (se_iload rfl dL_law_2289) (se_iconst dL_law_2291 rfl) dL_law_2292) dL_law_2293) (sa_cons (se_scr rfl rfl dL_law_2294 (se_iadd (se_iload rfl dL_law_2295) (se_iconst dL_law_2297 rfl) dL_law_2298) dL_law_2299) sa_nil))) dL_law_2300 wk_1070 wk_1071 wk_1072 hcX7 wk_478 wk_1073 ykX7_written (Nat.le_of_ble_eq_true rfl) (Nat.le_of_ble_eq_true rfl) (Nat.le_of_ble_eq_true rfl) trivial) rfl (Nat.le_of_ble_eq_true rfl) dL_law_2303
  have s1 : ho_SS (iLaw xs L) 1 [99, 11, 12, 4, 0, 0, 0] [99, 11, 12, 4, 0, 0, 0] _ _ _ := ss_if (sc_NeN (tgt := 2316) (se_callV kX7_thrown (sa_cons (se_aload_n rfl rfl dL_law_2305) sa_nil) dL_law_2306 wk_844 wk_845 wk_846 hcX7 wk_478 wk_847 ykX7_thrown (Nat.le_of_ble_eq_true rfl) (Nat.le_of_ble_eq_true rfl) (Nat.le_of_ble_eq_true rfl) trivial) (se_iload rfl dL_law_2309) dL_law_2311 rfl) (ss_retZ (se_iconst dL_law_2314 rfl) rfl dL_law_2315) ss_nop
  have s2 : ho_SS (iLaw xs L) 1 [99, 11, 12, 4, 0, 0, 0] [99, 11, 12, 4, 0, 0, 0] _ _ _ := ss_if (sc_and (sc_EqN0 (tgt := 2333) (se_iload rfl dL_law_2316) dL_law_2318 rfl) (sc_lng (tgt := 2333) (se_aload_n rfl rfl dL_law_2321) (se_iconst dL_law_2322 rfl) dL_law_2323 (se_iload rfl dL_law_2324) dL_law_2326 dL_law_2327 dL_law_2328 rfl)) (ss_retZ (se_iconst dL_law_2331 rfl) rfl dL_law_2332) ss_nop
  have fin : ho_SS (iLaw xs L) 1 [99, 11, 12, 4, 0, 0] [99, 11, 12, 4, 0] 2287 2416 (lr_written xs L) := ss_go (tgt := 2416) (ss_blk (n := 5) (ss_seq s0 (ss_seq s1 s2)) rfl) dL_law_2333 rfl
  refine ho_wcall (L := L) (xs := xs) kL_written ha dL_law_2282 wk_1067 wk_1068 wk_838 wk_1069 ⟨by decide +kernel, by decide +kernel, by decide +kernel⟩ (Nat.le_of_ble_eq_true rfl) (Nat.le_of_ble_eq_true rfl) rfl hC (K := fun k σ => lr_written xs L (v ++ [k]) σ K (fun _ _ => False) (fun _ _ => False)) (by rw [hX]; exact hf) hT hσ (fun x σ' hKx hx hσ' => ?_)
  refine lw_st (hC := hC1) (C := C) hx hT hσ' (Nat.le_of_ble_eq_true rfl) dL_law_2285 (fun hT1 => ?_)
  exact fin _ hC1 (by rw [← hr]; rfl) _ _ K (by rw [ho_up1_X, ho_up1_Q, hX, hQ]; exact hKx) hT1 hσ' (fun v' σ2 h1 h2 h3 => kk v' σ2 h1 h2 h3)
def lr_writtenChar (xs : Nat → Int32) (L : Nat) : ho_Z := (zB 5 (zS (zD (eK mX7_writtenChar (aC (eV 2) (aC (eS xs L (eB ho_oadd (eV 4) (eC 1))) (aC (eS xs L (eB ho_oadd (eV 4) (eC 2))) (aC (eS xs L (eB ho_oadd (eV 4) (eC 3))) aN)))))) (zS (zC (cNe (eK mX7_thrown (aC (eV 2) aN)) (eV 5)) (zRZ (eC 0)) zN) (zC (cAnd (cEq (eV 5) (eC 0)) (cNe (eI (eV 3) (eC 0)) (eV 6))) (zRZ (eC 0)) zN))))
def la_writtenChar (xs : Nat → Int32) (L : Nat) : ho_A := (aC (eV 1) (aC (eS xs L (eB ho_oadd (eV 4) (eC 1))) (aC (eS xs L (eB ho_oadd (eV 4) (eC 2))) (aC (eS xs L (eB ho_oadd (eV 4) (eC 3))) (aC (eV 3) aN)))))
def lf_writtenChar (xs : Nat → Int32) (L : Nat) : List Int → ho_S → (List Int → ho_S → Prop) → Prop := fun v σ K => la_writtenChar xs L v σ (fun l σ => mL_writtenChar l σ (fun k σ => lr_writtenChar xs L (v ++ [k]) σ K (fun _ _ => False) (fun _ _ => False)) (fun _ _ => False)) (fun _ _ => False)
set_option maxRecDepth 20000 in
theorem lk_writtenChar {xs : Nat → Int32} {L : Nat} {C : ho_Cx} (hC : ho_ok C (iLaw xs L)) (hC1 : ho_ok (ho_up1 C) (iLaw xs L)) (hr : ho_ro C = 1) (hX : ho_X' C = fun _ _ => False) (hQ : ho_Q' C = fun _ _ => False) {v : List Int} {σ : ho_S} {K : List Int → ho_S → Prop} (hf : lf_writtenChar xs L v σ K) (hT : ho_ty [99, 11, 12, 4, 0] v) (hσ : ho_rng σ) (kk : ∀ v' σ', K v' σ' → ho_ty [99, 11, 12, 4, 0] v' → ho_rng σ' → ho_P (ho_up1 C) 2416 [99, 11, 12, 4, 0] v' [] σ') : ho_P C 2336 [99, 11, 12, 4, 0] v [] σ := by
  have ha : ho_SA (iLaw xs L) [99, 11, 12, 4, 0] [11, 0, 0, 0, 4] 0 2336 2356 (la_writtenChar xs L) := (sa_cons (se_aload_n rfl rfl dL_law_2336) (sa_cons (se_scr rfl rfl dL_law_2337 (se_iadd (se_iload rfl dL_law_2338) (se_iconst dL_law_2340 rfl) dL_law_2341) dL_law_2342) (sa_cons (se_scr rfl rfl dL_law_2343 (se_iadd (se_iload rfl dL_law_2344) (se_iconst dL_law_2346 rfl) dL_law_2347) dL_law_2348) (sa_cons (se_scr rfl rfl dL_law_2349 (se_iadd (se_iload rfl dL_law_2350) (se_iconst dL_law_2352 rfl) dL_law_2353) dL_law_2354) (sa_cons (se_aload_n rfl rfl dL_law_2355) sa_nil)))))
  have s0 : ho_SS (iLaw xs L) 1 [99, 11, 12, 4, 0, 0] [99, 11, 12, 4, 0, 0, 0] 2361 _ _ := ss_decl (se_callV kX7_writtenChar (sa_cons (se_aload_n rfl rfl dL_law_2361) (sa_cons (se_scr rfl rfl dL_law_2362 (se_iadd (se_iload rfl dL_law_2363) (se_iconst dL_law_2365 rfl) dL_law_2366) dL_law_2367) (sa_cons (se_scr rfl rfl dL_law_2368 (se_iadd (se_iload rfl dL_law_2369) (se_iconst dL_law_2371 rfl) dL_law_2372) dL_law_2373) (sa_cons (se_scr rfl rfl dL_law_2374 (se_iadd (se_iload rfl dL_law_2375) (se_iconst dL_law_2377 rfl) dL_law_2378) dL_law_2379) sa_nil)))) dL_law_2380 wk_1077 wk_1078 wk_1079 hcX7 wk_478 wk_1080 ykX7_writtenChar (Nat.le_of_ble_eq_true rfl) (Nat.le_of_ble_eq_true rfl) (Nat.le_of_ble_eq_true rfl) trivial) rfl (Nat.le_of_ble_eq_true rfl) dL_law_2383
  have s1 : ho_SS (iLaw xs L) 1 [99, 11, 12, 4, 0, 0, 0] [99, 11, 12, 4, 0, 0, 0] _ _ _ := ss_if (sc_NeN (tgt := 2396) (se_callV kX7_thrown (sa_cons (se_aload_n rfl rfl dL_law_2385) sa_nil) dL_law_2386 wk_844 wk_845 wk_846 hcX7 wk_478 wk_847 ykX7_thrown (Nat.le_of_ble_eq_true rfl) (Nat.le_of_ble_eq_true rfl) (Nat.le_of_ble_eq_true rfl) trivial) (se_iload rfl dL_law_2389) dL_law_2391 rfl) (ss_retZ (se_iconst dL_law_2394 rfl) rfl dL_law_2395) ss_nop
  have s2 : ho_SS (iLaw xs L) 1 [99, 11, 12, 4, 0, 0, 0] [99, 11, 12, 4, 0, 0, 0] _ _ _ := ss_if (sc_and (sc_EqN0 (tgt := 2413) (se_iload rfl dL_law_2396) dL_law_2398 rfl) (sc_lng (tgt := 2413) (se_aload_n rfl rfl dL_law_2401) (se_iconst dL_law_2402 rfl) dL_law_2403 (se_iload rfl dL_law_2404) dL_law_2406 dL_law_2407 dL_law_2408 rfl)) (ss_retZ (se_iconst dL_law_2411 rfl) rfl dL_law_2412) ss_nop
  have fin : ho_SS (iLaw xs L) 1 [99, 11, 12, 4, 0, 0] [99, 11, 12, 4, 0] 2361 2416 (lr_writtenChar xs L) := ss_go (tgt := 2416) (ss_blk (n := 5) (ss_seq s0 (ss_seq s1 s2)) rfl) dL_law_2413 rfl
  refine ho_wcall (L := L) (xs := xs) kL_writtenChar ha dL_law_2356 wk_1074 wk_1075 wk_838 wk_1076 ⟨by decide +kernel, by decide +kernel, by decide +kernel⟩ (Nat.le_of_ble_eq_true rfl) (Nat.le_of_ble_eq_true rfl) rfl hC (K := fun k σ => lr_writtenChar xs L (v ++ [k]) σ K (fun _ _ => False) (fun _ _ => False)) (by rw [hX]; exact hf) hT hσ (fun x σ' hKx hx hσ' => ?_)
  refine lw_st (hC := hC1) (C := C) hx hT hσ' (Nat.le_of_ble_eq_true rfl) dL_law_2359 (fun hT1 => ?_)
  exact fin _ hC1 (by rw [← hr]; rfl) _ _ K (by rw [ho_up1_X, ho_up1_Q, hX, hQ]; exact hKx) hT1 hσ' (fun v' σ2 h1 h2 h3 => kk v' σ2 h1 h2 h3)
def lsw (xs : Nat → Int32) (L : Nat) (v : List Int) (σ : ho_S) (K : List Int → ho_S → Prop) : Prop :=
  (eB ho_oand (eS xs L (eV 4)) (eC 63)) v σ (fun k σ => (k = 0 → lf_addShot xs L v σ K) ∧ (k = 1 → lf_cut xs L v σ K) ∧ (k = 2 → lf_move xs L v σ K) ∧ (k = 3 → lf_putBack xs L v σ K) ∧ (k = 4 → lf_frames xs L v σ K) ∧ (k = 5 → lf_frameAt xs L v σ K) ∧ (k = 6 → lf_placeOf xs L v σ K) ∧ (k = 7 → lf_isBoundary xs L v σ K) ∧ (k = 8 → lf_add xs L v σ K) ∧ (k = 9 → lf_lay xs L v σ K) ∧ (k = 10 → lf_setLook xs L v σ K) ∧ (k = 11 → lf_captions xs L v σ K) ∧ (k = 12 → lf_startOf xs L v σ K) ∧ (k = 13 → lf_lengthOf xs L v σ K) ∧ (k = 14 → lf_startByFrames xs L v σ K) ∧ (k = 15 → lf_inOrder xs L v σ K) ∧ (k = 16 → lf_type xs L v σ K) ∧ (k = 17 → lf_erase xs L v σ K) ∧ (k = 18 → lf_signs xs L v σ K) ∧ (k = 19 → lf_signAt xs L v σ K) ∧ (k = 20 → lf_width xs L v σ K) ∧ (k = 21 → lf_rows xs L v σ K) ∧ (k = 22 → lf_row xs L v σ K) ∧ (k = 23 → lf_setLimits xs L v σ K) ∧ (k = 24 → lf_confirm xs L v σ K) ∧ (k = 25 → lf_fill xs L v σ K) ∧ (k = 26 → lf_isStale xs L v σ K) ∧ (k = 27 → lf_memory xs L v σ K) ∧ (k = 28 → lf_broken xs L v σ K) ∧ (k = 29 → lf_letGo xs L v σ K) ∧ (k = 30 → lf_nameOf xs L v σ K) ∧ (k = 31 → lf_faults xs L v σ K) ∧ (k = 32 → lf_written xs L v σ K) ∧ (k = 33 → lf_writtenChar xs L v σ K) ∧ (k < 0 ∨ 33 < k → K v σ)) (fun _ _ => False)
set_option maxRecDepth 20000 in
set_option maxHeartbeats 4000000 in
theorem lk_sw {xs : Nat → Int32} {L : Nat} {C : ho_Cx} (hC : ho_ok C (iLaw xs L)) (hC1 : ho_ok (ho_up1 C) (iLaw xs L)) (hr : ho_ro C = 1) (hX : ho_X' C = fun _ _ => False) (hQ : ho_Q' C = fun _ _ => False) {v : List Int} {σ : ho_S} {K : List Int → ho_S → Prop} (hf : lsw xs L v σ K) (hT : ho_ty [99, 11, 12, 4, 0] v) (hσ : ho_rng σ) (kk : ∀ v' σ', K v' σ' → ho_ty [99, 11, 12, 4, 0] v' → ho_rng σ' → ho_P (ho_up1 C) 2416 [99, 11, 12, 4, 0] v' [] σ') : ho_P C 32 [99, 11, 12, 4, 0] v [] σ := by
  have fin : ho_SE (iLaw xs L) [99, 11, 12, 4, 0] 0 0 32 39 (eB ho_oand (eS xs L (eV 4)) (eC 63)) := se_iand (se_scr rfl rfl dL_law_32 (se_iload rfl dL_law_33) dL_law_35) (se_bipush dL_law_36 (by decide +kernel) rfl) dL_law_38
  refine fin C hC v σ [] _ (by rw [hX]; exact hf) (Nat.zero_le _) hT hσ (fun x σ hK hx hσ => ?_)
  have hx : ho_in x := hx
  obtain ⟨h0, h1, h2, h3, h4, h5, h6, h7, h8, h9, h10, h11, h12, h13, h14, h15, h16, h17, h18, h19, h20, h21, h22, h23, h24, h25, h26, h27, h28, h29, h30, h31, h32, h33, hdf⟩ := hK
  have hC9 := hC
  obtain ⟨p, l, e, R, s, m, args, below, meth, c, dC, dI, cA, ad, A, Q, X, ρ9, Qf, nc, ns⟩ := C
  obtain ⟨he, hb, hm, ho, hts, hK, hA, hZ, hfr9, hlo9, hRc, hRs, hlk, hst0, hexc, hret, hqr, hzz⟩ := id hC
  intro hT hσ H locs ls hl hP hD hS
  refine W.eq (g2 := F0 m 39 ls [.int (Int32.ofInt x)]) rfl ?_
  by_cases hlo : x < 0 ∨ 33 < x
  · refine lv_tableOut he hb dL_law_39 (x := Int32.ofInt x) (tgt := 2416) (by rw [ho_ti, ho_w_eq hx]; exact hlo) (by decide) ?_
    exact ho_wid (kk v σ (hdf hlo) hT hσ) hT hσ H locs ls hl hP hD hS
  obtain ⟨n, hn, rfl⟩ : ∃ n : Nat, n < 34 ∧ x = n := ⟨x.toNat, by omega, by omega⟩
  rcases (show n = 0 ∨ n = 1 ∨ n = 2 ∨ n = 3 ∨ n = 4 ∨ n = 5 ∨ n = 6 ∨ n = 7 ∨ n = 8 ∨ n = 9 ∨ n = 10 ∨ n = 11 ∨ n = 12 ∨ n = 13 ∨ n = 14 ∨ n = 15 ∨ n = 16 ∨ n = 17 ∨ n = 18 ∨ n = 19 ∨ n = 20 ∨ n = 21 ∨ n = 22 ∨ n = 23 ∨ n = 24 ∨ n = 25 ∨ n = 26 ∨ n = 27 ∨ n = 28 ∨ n = 29 ∨ n = 30 ∨ n = 31 ∨ n = 32 ∨ n = 33 by omega) with rfl | rfl | rfl | rfl | rfl | rfl | rfl | rfl | rfl | rfl | rfl | rfl | rfl | rfl | rfl | rfl | rfl | rfl | rfl | rfl | rfl | rfl | rfl | rfl | rfl | rfl | rfl | rfl | rfl | rfl | rfl | rfl | rfl | rfl
  · exact lv_tableIn he hb dL_law_39 (x := Int32.ofInt 0) (off := 149) (tgt := 188) (by decide) (by decide) (by decide) (by decide) (lk_addShot hC hC1 hr hX hQ (v := v) (σ := σ) (K := K) (h0 rfl) hT hσ kk hT hσ H locs ls hl hP hD hS)
  · exact lv_tableIn he hb dL_law_39 (x := Int32.ofInt 1) (off := 205) (tgt := 244) (by decide) (by decide) (by decide) (by decide) (lk_cut hC hC1 hr hX hQ (v := v) (σ := σ) (K := K) (h1 rfl) hT hσ kk hT hσ H locs ls hl hP hD hS)
  · exact lv_tableIn he hb dL_law_39 (x := Int32.ofInt 2) (off := 273) (tgt := 312) (by decide) (by decide) (by decide) (by decide) (lk_move hC hC1 hr hX hQ (v := v) (σ := σ) (K := K) (h2 rfl) hT hσ kk hT hσ H locs ls hl hP hD hS)
  · exact lv_tableIn he hb dL_law_39 (x := Int32.ofInt 3) (off := 353) (tgt := 392) (by decide) (by decide) (by decide) (by decide) (lk_putBack hC hC1 hr hX hQ (v := v) (σ := σ) (K := K) (h3 rfl) hT hσ kk hT hσ H locs ls hl hP hD hS)
  · exact lv_tableIn he hb dL_law_39 (x := Int32.ofInt 4) (off := 445) (tgt := 484) (by decide) (by decide) (by decide) (by decide) (lk_frames hC hC1 hr hX hQ (v := v) (σ := σ) (K := K) (h4 rfl) hT hσ kk hT hσ H locs ls hl hP hD hS)
  · exact lv_tableIn he hb dL_law_39 (x := Int32.ofInt 5) (off := 458) (tgt := 497) (by decide) (by decide) (by decide) (by decide) (lk_frameAt hC hC1 hr hX hQ (v := v) (σ := σ) (K := K) (h5 rfl) hT hσ kk hT hσ H locs ls hl hP hD hS)
  · exact lv_tableIn he hb dL_law_39 (x := Int32.ofInt 6) (off := 514) (tgt := 553) (by decide) (by decide) (by decide) (by decide) (lk_placeOf hC hC1 hr hX hQ (v := v) (σ := σ) (K := K) (h6 rfl) hT hσ kk hT hσ H locs ls hl hP hD hS)
  · exact lv_tableIn he hb dL_law_39 (x := Int32.ofInt 7) (off := 582) (tgt := 621) (by decide) (by decide) (by decide) (by decide) (lk_isBoundary hC hC1 hr hX hQ (v := v) (σ := σ) (K := K) (h7 rfl) hT hσ kk hT hσ H locs ls hl hP hD hS)
  · exact lv_tableIn he hb dL_law_39 (x := Int32.ofInt 8) (off := 645) (tgt := 684) (by decide) (by decide) (by decide) (by decide) (lk_add hC hC1 hr hX hQ (v := v) (σ := σ) (K := K) (h8 rfl) hT hσ kk hT hσ H locs ls hl hP hD hS)
  · exact lv_tableIn he hb dL_law_39 (x := Int32.ofInt 9) (off := 713) (tgt := 752) (by decide) (by decide) (by decide) (by decide) (lk_lay hC hC1 hr hX hQ (v := v) (σ := σ) (K := K) (h9 rfl) hT hσ kk hT hσ H locs ls hl hP hD hS)
  · exact lv_tableIn he hb dL_law_39 (x := Int32.ofInt 10) (off := 793) (tgt := 832) (by decide) (by decide) (by decide) (by decide) (lk_setLook hC hC1 hr hX hQ (v := v) (σ := σ) (K := K) (h10 rfl) hT hσ kk hT hσ H locs ls hl hP hD hS)
  · exact lv_tableIn he hb dL_law_39 (x := Int32.ofInt 11) (off := 861) (tgt := 900) (by decide) (by decide) (by decide) (by decide) (lk_captions hC hC1 hr hX hQ (v := v) (σ := σ) (K := K) (h11 rfl) hT hσ kk hT hσ H locs ls hl hP hD hS)
  · exact lv_tableIn he hb dL_law_39 (x := Int32.ofInt 12) (off := 874) (tgt := 913) (by decide) (by decide) (by decide) (by decide) (lk_startOf hC hC1 hr hX hQ (v := v) (σ := σ) (K := K) (h12 rfl) hT hσ kk hT hσ H locs ls hl hP hD hS)
  · exact lv_tableIn he hb dL_law_39 (x := Int32.ofInt 13) (off := 930) (tgt := 969) (by decide) (by decide) (by decide) (by decide) (lk_lengthOf hC hC1 hr hX hQ (v := v) (σ := σ) (K := K) (h13 rfl) hT hσ kk hT hσ H locs ls hl hP hD hS)
  · exact lv_tableIn he hb dL_law_39 (x := Int32.ofInt 14) (off := 986) (tgt := 1025) (by decide) (by decide) (by decide) (by decide) (lk_startByFrames hC hC1 hr hX hQ (v := v) (σ := σ) (K := K) (h14 rfl) hT hσ kk hT hσ H locs ls hl hP hD hS)
  · exact lv_tableIn he hb dL_law_39 (x := Int32.ofInt 15) (off := 1042) (tgt := 1081) (by decide) (by decide) (by decide) (by decide) (lk_inOrder hC hC1 hr hX hQ (v := v) (σ := σ) (K := K) (h15 rfl) hT hσ kk hT hσ H locs ls hl hP hD hS)
  · exact lv_tableIn he hb dL_law_39 (x := Int32.ofInt 16) (off := 1098) (tgt := 1137) (by decide) (by decide) (by decide) (by decide) (lk_type hC hC1 hr hX hQ (v := v) (σ := σ) (K := K) (h16 rfl) hT hσ kk hT hσ H locs ls hl hP hD hS)
  · exact lv_tableIn he hb dL_law_39 (x := Int32.ofInt 17) (off := 1178) (tgt := 1217) (by decide) (by decide) (by decide) (by decide) (lk_erase hC hC1 hr hX hQ (v := v) (σ := σ) (K := K) (h17 rfl) hT hσ kk hT hσ H locs ls hl hP hD hS)
  · exact lv_tableIn he hb dL_law_39 (x := Int32.ofInt 18) (off := 1246) (tgt := 1285) (by decide) (by decide) (by decide) (by decide) (lk_signs hC hC1 hr hX hQ (v := v) (σ := σ) (K := K) (h18 rfl) hT hσ kk hT hσ H locs ls hl hP hD hS)
  · exact lv_tableIn he hb dL_law_39 (x := Int32.ofInt 19) (off := 1314) (tgt := 1353) (by decide) (by decide) (by decide) (by decide) (lk_signAt hC hC1 hr hX hQ (v := v) (σ := σ) (K := K) (h19 rfl) hT hσ kk hT hσ H locs ls hl hP hD hS)
  · exact lv_tableIn he hb dL_law_39 (x := Int32.ofInt 20) (off := 1394) (tgt := 1433) (by decide) (by decide) (by decide) (by decide) (lk_width hC hC1 hr hX hQ (v := v) (σ := σ) (K := K) (h20 rfl) hT hσ kk hT hσ H locs ls hl hP hD hS)
  · exact lv_tableIn he hb dL_law_39 (x := Int32.ofInt 21) (off := 1462) (tgt := 1501) (by decide) (by decide) (by decide) (by decide) (lk_rows hC hC1 hr hX hQ (v := v) (σ := σ) (K := K) (h21 rfl) hT hσ kk hT hσ H locs ls hl hP hD hS)
  · exact lv_tableIn he hb dL_law_39 (x := Int32.ofInt 22) (off := 1530) (tgt := 1569) (by decide) (by decide) (by decide) (by decide) (lk_row hC hC1 hr hX hQ (v := v) (σ := σ) (K := K) (h22 rfl) hT hσ kk hT hσ H locs ls hl hP hD hS)
  · exact lv_tableIn he hb dL_law_39 (x := Int32.ofInt 23) (off := 1610) (tgt := 1649) (by decide) (by decide) (by decide) (by decide) (lk_setLimits hC hC1 hr hX hQ (v := v) (σ := σ) (K := K) (h23 rfl) hT hσ kk hT hσ H locs ls hl hP hD hS)
  · exact lv_tableIn he hb dL_law_39 (x := Int32.ofInt 24) (off := 1678) (tgt := 1717) (by decide) (by decide) (by decide) (by decide) (lk_confirm hC hC1 hr hX hQ (v := v) (σ := σ) (K := K) (h24 rfl) hT hσ kk hT hσ H locs ls hl hP hD hS)
  · exact lv_tableIn he hb dL_law_39 (x := Int32.ofInt 25) (off := 1746) (tgt := 1785) (by decide) (by decide) (by decide) (by decide) (lk_fill hC hC1 hr hX hQ (v := v) (σ := σ) (K := K) (h25 rfl) hT hσ kk hT hσ H locs ls hl hP hD hS)
  · exact lv_tableIn he hb dL_law_39 (x := Int32.ofInt 26) (off := 1802) (tgt := 1841) (by decide) (by decide) (by decide) (by decide) (lk_isStale hC hC1 hr hX hQ (v := v) (σ := σ) (K := K) (h26 rfl) hT hσ kk hT hσ H locs ls hl hP hD hS)
  · exact lv_tableIn he hb dL_law_39 (x := Int32.ofInt 27) (off := 1877) (tgt := 1916) (by decide) (by decide) (by decide) (by decide) (lk_memory hC hC1 hr hX hQ (v := v) (σ := σ) (K := K) (h27 rfl) hT hσ kk hT hσ H locs ls hl hP hD hS)
  · exact lv_tableIn he hb dL_law_39 (x := Int32.ofInt 28) (off := 1933) (tgt := 1972) (by decide) (by decide) (by decide) (by decide) (lk_broken hC hC1 hr hX hQ (v := v) (σ := σ) (K := K) (h28 rfl) hT hσ kk hT hσ H locs ls hl hP hD hS)
  · exact lv_tableIn he hb dL_law_39 (x := Int32.ofInt 29) (off := 2001) (tgt := 2040) (by decide) (by decide) (by decide) (by decide) (lk_letGo hC hC1 hr hX hQ (v := v) (σ := σ) (K := K) (h29 rfl) hT hσ kk hT hσ H locs ls hl hP hD hS)
  · exact lv_tableIn he hb dL_law_39 (x := Int32.ofInt 30) (off := 2093) (tgt := 2132) (by decide) (by decide) (by decide) (by decide) (lk_nameOf hC hC1 hr hX hQ (v := v) (σ := σ) (K := K) (h30 rfl) hT hσ kk hT hσ H locs ls hl hP hD hS)
  · exact lv_tableIn he hb dL_law_39 (x := Int32.ofInt 31) (off := 2173) (tgt := 2212) (by decide) (by decide) (by decide) (by decide) (lk_faults hC hC1 hr hX hQ (v := v) (σ := σ) (K := K) (h31 rfl) hT hσ kk hT hσ H locs ls hl hP hD hS)
  · exact lv_tableIn he hb dL_law_39 (x := Int32.ofInt 32) (off := 2229) (tgt := 2268) (by decide) (by decide) (by decide) (by decide) (lk_written hC hC1 hr hX hQ (v := v) (σ := σ) (K := K) (h32 rfl) hT hσ kk hT hσ H locs ls hl hP hD hS)
  · exact lv_tableIn he hb dL_law_39 (x := Int32.ofInt 33) (off := 2297) (tgt := 2336) (by decide) (by decide) (by decide) (by decide) (lk_writtenChar hC hC1 hr hX hQ (v := v) (σ := σ) (K := K) (h33 rfl) hT hσ kk hT hσ H locs ls hl hP hD hS)
/-- the law's loop, from its head: an invariant that every call keeps -/
theorem lk_loop {xs : Nat → Int32} {L : Nat} (hL : L ≤ 2560) (Cf : Nat → Nat → ho_Cx) (hup : ∀ nc ns, ho_up1 (Cf nc ns) = Cf (nc + 1) (ns + 6)) (hok : ∀ nc ns, nc + 1 ≤ 1108 → ns + 6 ≤ 66699 → ho_ok (Cf nc ns) (iLaw xs L)) (hr : ∀ nc ns, ho_ro (Cf nc ns) = 1) (hX : ∀ nc ns, ho_X' (Cf nc ns) = fun _ _ => False) (hQ : ∀ nc ns, ho_Q' (Cf nc ns) = fun _ _ => False) (Inv : Nat → ho_S → Prop)
    (hstep : ∀ (σ : ho_S) (j : Nat), Inv j σ → ho_rng σ → 5 * (j : Int) + 5 ≤ L → lsw xs L [60, 0, 30, 54, 5 * (j : Int)] σ (fun v σ => v = [60, 0, 30, 54, 5 * (j : Int)] ∧ Inv (j + 1) σ)) {nc0 ns0 : Nat} (hn1 : nc0 + 513 ≤ 1108) (hn2 : ns0 + 6 * 513 ≤ 66699)
    (hend : ∀ (nc ns : Nat) (i : Int) (σ : ho_S), nc + 1 ≤ 1108 → ns + 6 ≤ 66699 → ho_ty [99, 11, 12, 4, 0] [60, 0, 30, 54, i] → ho_rng σ → ho_P (Cf nc ns) 2422 [99, 11, 12, 4, 0] [60, 0, 30, 54, i] [] σ) :
    ∀ (n j : Nat) (σ : ho_S), n + j = 512 → Inv j σ → ho_rng σ → ho_ty [99, 11, 12, 4, 0] [60, 0, 30, 54, 5 * (j : Int)] → ho_P (Cf (nc0 + j) (ns0 + 6 * j)) 23 [99, 11, 12, 4, 0] [60, 0, 30, 54, 5 * (j : Int)] [] σ := by
  intro n
  induction n with
  | zero =>
    intro j σ hj hI hσ hT
    have hC := hok (nc0 + j) (ns0 + 6 * j) (by omega) (by omega)
    have fc : ho_SC (iLaw xs L) [99, 11, 12, 4, 0] 0 23 32 2422 (cLe (eV 4) (eB ho_osub (eC (L : Int)) (eC 5))) := sc_LeN (tgt := 2422) (se_iload rfl dL_law_23) (se_isub (se_slen rfl hL rfl dL_law_25 dL_law_26) (se_iconst dL_law_27 rfl) dL_law_28) dL_law_29 rfl
    refine fc _ hC _ σ [] (fun _ => False) (fun _ => True) ?_ (Nat.zero_le _) hT hσ (fun _ h _ => h.elim) (fun σ' _ hσ' => hend _ _ _ σ' (by omega) (by omega) hT hσ')
    show (5 * (j : Int) ≤ ho_osub (L : Int) 5 → False) ∧ (ho_osub (L : Int) 5 < 5 * (j : Int) → True)
    refine ⟨fun h => ?_, fun _ => trivial⟩
    unfold ho_osub ho_w at h
    omega
  | succ n ih =>
    intro j σ hj hI hσ hT
    have hC := hok (nc0 + j) (ns0 + 6 * j) (by omega) (by omega)
    have hC1 := hok (nc0 + j + 1) (ns0 + 6 * j + 6) (by omega) (by omega)
    have fc : ho_SC (iLaw xs L) [99, 11, 12, 4, 0] 0 23 32 2422 (cLe (eV 4) (eB ho_osub (eC (L : Int)) (eC 5))) := sc_LeN (tgt := 2422) (se_iload rfl dL_law_23) (se_isub (se_slen rfl hL rfl dL_law_25 dL_law_26) (se_iconst dL_law_27 rfl) dL_law_28) dL_law_29 rfl
    refine fc _ hC _ σ [] (fun σ' => 5 * (j : Int) + 5 ≤ L ∧ σ' = σ) (fun _ => True) ?_ (Nat.zero_le _) hT hσ (fun σ' h hσ' => ?_) (fun σ' _ hσ' => hend _ _ _ σ' (by omega) (by omega) hT hσ')
    · show (5 * (j : Int) ≤ ho_osub (L : Int) 5 → _) ∧ (ho_osub (L : Int) 5 < 5 * (j : Int) → True)
      refine ⟨fun h => ⟨?_, rfl⟩, fun _ => trivial⟩
      unfold ho_osub ho_w at h
      omega
    · obtain ⟨h5, rfl⟩ := h
      refine lk_sw hC (by rw [hup]; exact hC1) (hr _ _) (hX _ _) (hQ _ _) (hstep σ' j hI hσ' h5) hT hσ' (fun v' σ2 hK hT2 hσ2 => ?_)
      obtain ⟨rfl, hI2⟩ := hK
      rw [hup]
      have fi : ho_SS (iLaw xs L) 1 [99, 11, 12, 4, 0] [99, 11, 12, 4, 0] 2416 23 (zI 4 5) := ss_go (ss_iinc rfl (Nat.le_of_ble_eq_true rfl) dL_law_2416) dL_law_2419 rfl
      refine fi _ hC1 (hr _ _) _ σ2 (fun v σ => v = [60, 0, 30, 54, 5 * ((j + 1 : Nat) : Int)] ∧ σ = σ2) ⟨?_, rfl⟩ hT2 hσ2 (fun v3 σ3 h3 hT3 hσ3 => ?_)
      · show [60, 0, 30, 54, ho_w (5 * (j : Int) + 5)] = _
        rw [ho_w_eq (by unfold ho_in; omega)]
        simp; omega
      · obtain ⟨rfl, rfl⟩ := h3
        exact ih (j + 1) σ3 (by omega) hI2 hσ3 hT3
