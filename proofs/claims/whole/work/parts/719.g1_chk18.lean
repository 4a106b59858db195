/- g1.chk18 -/
section
set_option maxRecDepth 512
set_option maxRecDepth 100000 in
set_option maxHeartbeats 8000000 in
theorem mj_q42_0 : mj_pc mj_m42 0 40 = true := by decide +kernel
set_option maxRecDepth 100000 in
set_option maxHeartbeats 8000000 in
theorem mj_q42_1 : mj_pc mj_m42 40 40 = true := by decide +kernel
set_option maxRecDepth 100000 in
theorem mj_q42_e : mj_cz mj_m42 ((mj_rw mj_m42).drop 80) 80 = true := by decide +kernel
theorem mj_r42_1 : mj_cz mj_m42 ((mj_rw mj_m42).drop 40) 40 = true := mj_pc_1 (y := mj_m42) (a := 40) (n := 40) mj_q42_1 mj_q42_e
theorem mj_r42_0 : mj_cz mj_m42 ((mj_rw mj_m42).drop 0) 0 = true := mj_pc_1 (y := mj_m42) (a := 0) (n := 40) mj_q42_0 mj_r42_1
theorem mj_q42 : mj_cr mj_m42 = true := mj_pc_0 mj_r42_0
set_option maxRecDepth 100000 in
set_option maxHeartbeats 8000000 in
theorem mj_q49_0 : mj_pc mj_m49 0 40 = true := by decide +kernel
set_option maxRecDepth 100000 in
set_option maxHeartbeats 8000000 in
theorem mj_q49_1 : mj_pc mj_m49 40 40 = true := by decide +kernel
set_option maxRecDepth 100000 in
theorem mj_q49_e : mj_cz mj_m49 ((mj_rw mj_m49).drop 80) 80 = true := by decide +kernel
theorem mj_r49_1 : mj_cz mj_m49 ((mj_rw mj_m49).drop 40) 40 = true := mj_pc_1 (y := mj_m49) (a := 40) (n := 40) mj_q49_1 mj_q49_e
theorem mj_r49_0 : mj_cz mj_m49 ((mj_rw mj_m49).drop 0) 0 = true := mj_pc_1 (y := mj_m49) (a := 0) (n := 40) mj_q49_0 mj_r49_1
theorem mj_q49 : mj_cr mj_m49 = true := mj_pc_0 mj_r49_0
set_option maxRecDepth 100000 in
set_option maxHeartbeats 8000000 in
theorem mj_q57_0 : mj_pc mj_m57 0 40 = true := by decide +kernel
set_option maxRecDepth 100000 in
set_option maxHeartbeats 8000000 in
theorem mj_q57_1 : mj_pc mj_m57 40 40 = true := by decide +kernel
set_option maxRecDepth 100000 in
theorem mj_q57_e : mj_cz mj_m57 ((mj_rw mj_m57).drop 80) 80 = true := by decide +kernel
theorem mj_r57_1 : mj_cz mj_m57 ((mj_rw mj_m57).drop 40) 40 = true := mj_pc_1 (y := mj_m57) (a := 40) (n := 40) mj_q57_1 mj_q57_e
theorem mj_r57_0 : mj_cz mj_m57 ((mj_rw mj_m57).drop 0) 0 = true := mj_pc_1 (y := mj_m57) (a := 0) (n := 40) mj_q57_0 mj_r57_1
theorem mj_q57 : mj_cr mj_m57 = true := mj_pc_0 mj_r57_0
set_option maxRecDepth 100000 in
set_option maxHeartbeats 8000000 in
theorem mj_q78_0 : mj_pc mj_m78 0 40 = true := by decide +kernel
set_option maxRecDepth 100000 in
set_option maxHeartbeats 8000000 in
theorem mj_q78_1 : mj_pc mj_m78 40 40 = true := by decide +kernel
set_option maxRecDepth 100000 in
set_option maxHeartbeats 8000000 in
theorem mj_q78_2 : mj_pc mj_m78 80 40 = true := by decide +kernel
set_option maxRecDepth 100000 in
set_option maxHeartbeats 8000000 in
theorem mj_q78_3 : mj_pc mj_m78 120 40 = true := by decide +kernel
set_option maxRecDepth 100000 in
set_option maxHeartbeats 8000000 in
theorem mj_q78_4 : mj_pc mj_m78 160 40 = true := by decide +kernel
set_option maxRecDepth 100000 in
theorem mj_q78_e : mj_cz mj_m78 ((mj_rw mj_m78).drop 200) 200 = true := by decide +kernel
theorem mj_r78_4 : mj_cz mj_m78 ((mj_rw mj_m78).drop 160) 160 = true := mj_pc_1 (y := mj_m78) (a := 160) (n := 40) mj_q78_4 mj_q78_e
theorem mj_r78_3 : mj_cz mj_m78 ((mj_rw mj_m78).drop 120) 120 = true := mj_pc_1 (y := mj_m78) (a := 120) (n := 40) mj_q78_3 mj_r78_4
theorem mj_r78_2 : mj_cz mj_m78 ((mj_rw mj_m78).drop 80) 80 = true := mj_pc_1 (y := mj_m78) (a := 80) (n := 40) mj_q78_2 mj_r78_3
theorem mj_r78_1 : mj_cz mj_m78 ((mj_rw mj_m78).drop 40) 40 = true := mj_pc_1 (y := mj_m78) (a := 40) (n := 40) mj_q78_1 mj_r78_2
theorem mj_r78_0 : mj_cz mj_m78 ((mj_rw mj_m78).drop 0) 0 = true := mj_pc_1 (y := mj_m78) (a := 0) (n := 40) mj_q78_0 mj_r78_1
theorem mj_q78 : mj_cr mj_m78 = true := mj_pc_0 mj_r78_0
set_option maxRecDepth 100000 in
set_option maxHeartbeats 8000000 in
theorem mj_q99 : mj_cr mj_m99 = true := by decide +kernel
set_option maxRecDepth 100000 in
set_option maxHeartbeats 8000000 in
theorem mj_q102 : mj_cr mj_m102 = true := by decide +kernel
set_option maxRecDepth 100000 in
set_option maxHeartbeats 8000000 in
theorem mj_q103_0 : mj_pc mj_m103 0 40 = true := by decide +kernel
set_option maxRecDepth 100000 in
set_option maxHeartbeats 8000000 in
theorem mj_q103_1 : mj_pc mj_m103 40 40 = true := by decide +kernel
set_option maxRecDepth 100000 in
theorem mj_q103_e : mj_cz mj_m103 ((mj_rw mj_m103).drop 80) 80 = true := by decide +kernel
theorem mj_r103_1 : mj_cz mj_m103 ((mj_rw mj_m103).drop 40) 40 = true := mj_pc_1 (y := mj_m103) (a := 40) (n := 40) mj_q103_1 mj_q103_e
theorem mj_r103_0 : mj_cz mj_m103 ((mj_rw mj_m103).drop 0) 0 = true := mj_pc_1 (y := mj_m103) (a := 0) (n := 40) mj_q103_0 mj_r103_1
theorem mj_q103 : mj_cr mj_m103 = true := mj_pc_0 mj_r103_0
set_option maxRecDepth 100000 in
set_option maxHeartbeats 8000000 in
theorem mj_q139_0 : mj_pc mj_m139 0 40 = true := by decide +kernel
set_option maxRecDepth 100000 in
set_option maxHeartbeats 8000000 in
theorem mj_q139_1 : mj_pc mj_m139 40 40 = true := by decide +kernel
set_option maxRecDepth 100000 in
theorem mj_q139_e : mj_cz mj_m139 ((mj_rw mj_m139).drop 80) 80 = true := by decide +kernel
theorem mj_r139_1 : mj_cz mj_m139 ((mj_rw mj_m139).drop 40) 40 = true := mj_pc_1 (y := mj_m139) (a := 40) (n := 40) mj_q139_1 mj_q139_e
theorem mj_r139_0 : mj_cz mj_m139 ((mj_rw mj_m139).drop 0) 0 = true := mj_pc_1 (y := mj_m139) (a := 0) (n := 40) mj_q139_0 mj_r139_1
theorem mj_q139 : mj_cr mj_m139 = true := mj_pc_0 mj_r139_0
set_option maxRecDepth 100000 in
set_option maxHeartbeats 8000000 in
theorem mj_q141_0 : mj_pc mj_m141 0 40 = true := by decide +kernel
set_option maxRecDepth 100000 in
set_option maxHeartbeats 8000000 in
theorem mj_q141_1 : mj_pc mj_m141 40 40 = true := by decide +kernel
set_option maxRecDepth 100000 in
set_option maxHeartbeats 8000000 in
theorem mj_q141_2 : mj_pc mj_m141 80 40 = true := by decide +kernel
set_option maxRecDepth 100000 in
set_option maxHeartbeats 8000000 in
theorem mj_q141_3 : mj_pc mj_m141 120 40 = true := by decide +kernel
set_option maxRecDepth 100000 in
set_option maxHeartbeats 8000000 in
theorem mj_q141_4 : mj_pc mj_m141 160 40 = true := by decide +kernel
set_option maxRecDepth 100000 in
set_option maxHeartbeats 8000000 in
theorem mj_q141_5 : mj_pc mj_m141 200 40 = true := by decide +kernel
set_option maxRecDepth 100000 in
theorem mj_q141_e : mj_cz mj_m141 ((mj_rw mj_m141).drop 240) 240 = true := by decide +kernel
theorem mj_r141_5 : mj_cz mj_m141 ((mj_rw mj_m141).drop 200) 200 = true := mj_pc_1 (y := mj_m141) (a := 200) (n := 40) mj_q141_5 mj_q141_e
theorem mj_r141_4 : mj_cz mj_m141 ((mj_rw mj_m141).drop 160) 160 = true := mj_pc_1 (y := mj_m141) (a := 160) (n := 40) mj_q141_4 mj_r141_5
theorem mj_r141_3 : mj_cz mj_m141 ((mj_rw mj_m141).drop 120) 120 = true := mj_pc_1 (y := mj_m141) (a := 120) (n := 40) mj_q141_3 mj_r141_4
theorem mj_r141_2 : mj_cz mj_m141 ((mj_rw mj_m141).drop 80) 80 = true := mj_pc_1 (y := mj_m141) (a := 80) (n := 40) mj_q141_2 mj_r141_3
theorem mj_r141_1 : mj_cz mj_m141 ((mj_rw mj_m141).drop 40) 40 = true := mj_pc_1 (y := mj_m141) (a := 40) (n := 40) mj_q141_1 mj_r141_2
theorem mj_r141_0 : mj_cz mj_m141 ((mj_rw mj_m141).drop 0) 0 = true := mj_pc_1 (y := mj_m141) (a := 0) (n := 40) mj_q141_0 mj_r141_1
theorem mj_q141 : mj_cr mj_m141 = true := mj_pc_0 mj_r141_0
set_option maxRecDepth 100000 in
set_option maxHeartbeats 8000000 in
theorem mj_q142_0 : mj_pc mj_m142 0 40 = true := by decide +kernel
set_option maxRecDepth 100000 in
set_option maxHeartbeats 8000000 in
theorem mj_q142_1 : mj_pc mj_m142 40 40 = true := by decide +kernel
set_option maxRecDepth 100000 in
set_option maxHeartbeats 8000000 in
theorem mj_q142_2 : mj_pc mj_m142 80 40 = true := by decide +kernel
set_option maxRecDepth 100000 in
set_option maxHeartbeats 8000000 in
theorem mj_q142_3 : mj_pc mj_m142 120 40 = true := by decide +kernel
set_option maxRecDepth 100000 in
set_option maxHeartbeats 8000000 in
theorem mj_q142_4 : mj_pc mj_m142 160 40 = true := by decide +kernel
set_option maxRecDepth 100000 in
set_option maxHeartbeats 8000000 in
theorem mj_q142_5 : mj_pc mj_m142 200 40 = true := by decide +kernel
set_option maxRecDepth 100000 in
set_option maxHeartbeats 8000000 in
theorem mj_q142_6 : mj_pc mj_m142 240 40 = true := by decide +kernel
set_option maxRecDepth 100000 in
theorem mj_q142_e : mj_cz mj_m142 ((mj_rw mj_m142).drop 280) 280 = true := by decide +kernel
theorem mj_r142_6 : mj_cz mj_m142 ((mj_rw mj_m142).drop 240) 240 = true := mj_pc_1 (y := mj_m142) (a := 240) (n := 40) mj_q142_6 mj_q142_e
theorem mj_r142_5 : mj_cz mj_m142 ((mj_rw mj_m142).drop 200) 200 = true := mj_pc_1 (y := mj_m142) (a := 200) (n := 40) mj_q142_5 mj_r142_6
theorem mj_r142_4 : mj_cz mj_m142 ((mj_rw mj_m142).drop 160) 160 = true := mj_pc_1 (y := mj_m142) (a := 160) (n := 40) mj_q142_4 mj_r142_5
theorem mj_r142_3 : mj_cz mj_m142 ((mj_rw mj_m142).drop 120) 120 = true := mj_pc_1 (y := mj_m142) (a := 120) (n := 40) mj_q142_3 mj_r142_4
theorem mj_r142_2 : mj_cz mj_m142 ((mj_rw mj_m142).drop 80) 80 = true := mj_pc_1 (y := mj_m142) (a := 80) (n := 40) mj_q142_2 mj_r142_3
theorem mj_r142_1 : mj_cz mj_m142 ((mj_rw mj_m142).drop 40) 40 = true := mj_pc_1 (y := mj_m142) (a := 40) (n := 40) mj_q142_1 mj_r142_2
theorem mj_r142_0 : mj_cz mj_m142 ((mj_rw mj_m142).drop 0) 0 = true := mj_pc_1 (y := mj_m142) (a := 0) (n := 40) mj_q142_0 mj_r142_1
theorem mj_q142 : mj_cr mj_m142 = true := mj_pc_0 mj_r142_0
set_option maxRecDepth 100000 in
set_option maxHeartbeats 8000000 in
theorem mj_q153 : mj_cr mj_m153 = true := by decide +kernel
set_option maxRecDepth 100000 in
set_option maxHeartbeats 8000000 in
theorem mj_q188_0 : mj_pc mj_m188 0 40 = true := by decide +kernel
set_option maxRecDepth 100000 in
set_option maxHeartbeats 8000000 in
theorem mj_q188_1 : mj_pc mj_m188 40 40 = true := by decide +kernel
set_option maxRecDepth 100000 in
set_option maxHeartbeats 8000000 in
theorem mj_q188_2 : mj_pc mj_m188 80 40 = true := by decide +kernel
set_option maxRecDepth 100000 in
set_option maxHeartbeats 8000000 in
theorem mj_q188_3 : mj_pc mj_m188 120 40 = true := by decide +kernel
set_option maxRecDepth 100000 in
theorem mj_q188_e : mj_cz mj_m188 ((mj_rw mj_m188).drop 160) 160 = true := by decide +kernel
theorem mj_r188_3 : mj_cz mj_m188 ((mj_rw mj_m188).drop 120) 120 = true := mj_pc_1 (y := mj_m188) (a := 120) (n := 40) mj_q188_3 mj_q188_e
theorem mj_r188_2 : mj_cz mj_m188 ((mj_rw mj_m188).drop 80) 80 = true := mj_pc_1 (y := mj_m188) (a := 80) (n := 40) mj_q188_2 mj_r188_3
theorem mj_r188_1 : mj_cz mj_m188 ((mj_rw mj_m188).drop 40) 40 = true := mj_pc_1 (y := mj_m188) (a := 40) (n := 40) mj_q188_1 mj_r188_2
theorem mj_r188_0 : mj_cz mj_m188 ((mj_rw mj_m188).drop 0) 0 = true := mj_pc_1 (y := mj_m188) (a := 0) (n := 40) mj_q188_0 mj_r188_1
theorem mj_q188 : mj_cr mj_m188 = true := mj_pc_0 mj_r188_0
set_option maxRecDepth 100000 in
set_option maxHeartbeats 8000000 in
theorem mj_q201 : mj_cr mj_m201 = true := by decide +kernel
set_option maxRecDepth 100000 in
set_option maxHeartbeats 8000000 in
theorem mj_q275 : mj_cr mj_m275 = true := by decide +kernel
set_option maxRecDepth 100000 in
set_option maxHeartbeats 8000000 in
theorem mj_q289 : mj_cr mj_m289 = true := by decide +kernel
set_option maxRecDepth 100000 in
set_option maxHeartbeats 8000000 in
theorem mj_q307_0 : mj_pc mj_m307 0 40 = true := by decide +kernel
set_option maxRecDepth 100000 in
set_option maxHeartbeats 8000000 in
theorem mj_q307_1 : mj_pc mj_m307 40 40 = true := by decide +kernel
set_option maxRecDepth 100000 in
set_option maxHeartbeats 8000000 in
theorem mj_q307_2 : mj_pc mj_m307 80 40 = true := by decide +kernel
set_option maxRecDepth 100000 in
theorem mj_q307_e : mj_cz mj_m307 ((mj_rw mj_m307).drop 120) 120 = true := by decide +kernel
theorem mj_r307_2 : mj_cz mj_m307 ((mj_rw mj_m307).drop 80) 80 = true := mj_pc_1 (y := mj_m307) (a := 80) (n := 40) mj_q307_2 mj_q307_e
theorem mj_r307_1 : mj_cz mj_m307 ((mj_rw mj_m307).drop 40) 40 = true := mj_pc_1 (y := mj_m307) (a := 40) (n := 40) mj_q307_1 mj_r307_2
theorem mj_r307_0 : mj_cz mj_m307 ((mj_rw mj_m307).drop 0) 0 = true := mj_pc_1 (y := mj_m307) (a := 0) (n := 40) mj_q307_0 mj_r307_1
theorem mj_q307 : mj_cr mj_m307 = true := mj_pc_0 mj_r307_0
set_option maxRecDepth 100000 in
set_option maxHeartbeats 8000000 in
theorem mj_q347 : mj_cr mj_m347 = true := by decide +kernel
set_option maxRecDepth 100000 in
set_option maxHeartbeats 8000000 in
theorem mj_q364 : mj_cr mj_m364 = true := by decide +kernel
set_option maxRecDepth 100000 in
set_option maxHeartbeats 8000000 in
theorem mj_q376_0 : mj_pc mj_m376 0 40 = true := by decide +kernel
set_option maxRecDepth 100000 in
set_option maxHeartbeats 8000000 in
theorem mj_q376_1 : mj_pc mj_m376 40 40 = true := by decide +kernel
set_option maxRecDepth 100000 in
set_option maxHeartbeats 8000000 in
theorem mj_q376_2 : mj_pc mj_m376 80 40 = true := by decide +kernel
set_option maxRecDepth 100000 in
theorem mj_q376_e : mj_cz mj_m376 ((mj_rw mj_m376).drop 120) 120 = true := by decide +kernel
theorem mj_r376_2 : mj_cz mj_m376 ((mj_rw mj_m376).drop 80) 80 = true := mj_pc_1 (y := mj_m376) (a := 80) (n := 40) mj_q376_2 mj_q376_e
theorem mj_r376_1 : mj_cz mj_m376 ((mj_rw mj_m376).drop 40) 40 = true := mj_pc_1 (y := mj_m376) (a := 40) (n := 40) mj_q376_1 mj_r376_2
theorem mj_r376_0 : mj_cz mj_m376 ((mj_rw mj_m376).drop 0) 0 = true := mj_pc_1 (y := mj_m376) (a := 0) (n := 40) mj_q376_0 mj_r376_1
theorem mj_q376 : mj_cr mj_m376 = true := mj_pc_0 mj_r376_0
end
