/- g1.chk15 -/
section
set_option maxRecDepth 512
set_option maxRecDepth 100000 in
set_option maxHeartbeats 8000000 in
theorem mj_q2 : mj_cr mj_m2 = true := by decide +kernel
set_option maxRecDepth 100000 in
set_option maxHeartbeats 8000000 in
theorem mj_q4_0 : mj_pc mj_m4 0 40 = true := by decide +kernel
set_option maxRecDepth 100000 in
set_option maxHeartbeats 8000000 in
theorem mj_q4_1 : mj_pc mj_m4 40 40 = true := by decide +kernel
set_option maxRecDepth 100000 in
theorem mj_q4_e : mj_cz mj_m4 ((mj_rw mj_m4).drop 80) 80 = true := by decide +kernel
theorem mj_r4_1 : mj_cz mj_m4 ((mj_rw mj_m4).drop 40) 40 = true := mj_pc_1 (y := mj_m4) (a := 40) (n := 40) mj_q4_1 mj_q4_e
theorem mj_r4_0 : mj_cz mj_m4 ((mj_rw mj_m4).drop 0) 0 = true := mj_pc_1 (y := mj_m4) (a := 0) (n := 40) mj_q4_0 mj_r4_1
theorem mj_q4 : mj_cr mj_m4 = true := mj_pc_0 mj_r4_0
set_option maxRecDepth 100000 in
set_option maxHeartbeats 8000000 in
theorem mj_q14 : mj_cr mj_m14 = true := by decide +kernel
set_option maxRecDepth 100000 in
set_option maxHeartbeats 8000000 in
theorem mj_q17 : mj_cr mj_m17 = true := by decide +kernel
set_option maxRecDepth 100000 in
set_option maxHeartbeats 8000000 in
theorem mj_q27 : mj_cr mj_m27 = true := by decide +kernel
set_option maxRecDepth 100000 in
set_option maxHeartbeats 8000000 in
theorem mj_q38 : mj_cr mj_m38 = true := by decide +kernel
set_option maxRecDepth 100000 in
set_option maxHeartbeats 8000000 in
theorem mj_q52_0 : mj_pc mj_m52 0 40 = true := by decide +kernel
set_option maxRecDepth 100000 in
set_option maxHeartbeats 8000000 in
theorem mj_q52_1 : mj_pc mj_m52 40 40 = true := by decide +kernel
set_option maxRecDepth 100000 in
set_option maxHeartbeats 8000000 in
theorem mj_q52_2 : mj_pc mj_m52 80 40 = true := by decide +kernel
set_option maxRecDepth 100000 in
set_option maxHeartbeats 8000000 in
theorem mj_q52_3 : mj_pc mj_m52 120 40 = true := by decide +kernel
set_option maxRecDepth 100000 in
theorem mj_q52_e : mj_cz mj_m52 ((mj_rw mj_m52).drop 160) 160 = true := by decide +kernel
theorem mj_r52_3 : mj_cz mj_m52 ((mj_rw mj_m52).drop 120) 120 = true := mj_pc_1 (y := mj_m52) (a := 120) (n := 40) mj_q52_3 mj_q52_e
theorem mj_r52_2 : mj_cz mj_m52 ((mj_rw mj_m52).drop 80) 80 = true := mj_pc_1 (y := mj_m52) (a := 80) (n := 40) mj_q52_2 mj_r52_3
theorem mj_r52_1 : mj_cz mj_m52 ((mj_rw mj_m52).drop 40) 40 = true := mj_pc_1 (y := mj_m52) (a := 40) (n := 40) mj_q52_1 mj_r52_2
theorem mj_r52_0 : mj_cz mj_m52 ((mj_rw mj_m52).drop 0) 0 = true := mj_pc_1 (y := mj_m52) (a := 0) (n := 40) mj_q52_0 mj_r52_1
theorem mj_q52 : mj_cr mj_m52 = true := mj_pc_0 mj_r52_0
set_option maxRecDepth 100000 in
set_option maxHeartbeats 8000000 in
theorem mj_q135_0 : mj_pc mj_m135 0 40 = true := by decide +kernel
set_option maxRecDepth 100000 in
set_option maxHeartbeats 8000000 in
theorem mj_q135_1 : mj_pc mj_m135 40 40 = true := by decide +kernel
set_option maxRecDepth 100000 in
set_option maxHeartbeats 8000000 in
theorem mj_q135_2 : mj_pc mj_m135 80 40 = true := by decide +kernel
set_option maxRecDepth 100000 in
set_option maxHeartbeats 8000000 in
theorem mj_q135_3 : mj_pc mj_m135 120 40 = true := by decide +kernel
set_option maxRecDepth 100000 in
set_option maxHeartbeats 8000000 in
theorem mj_q135_4 : mj_pc mj_m135 160 40 = true := by decide +kernel
set_option maxRecDepth 100000 in
set_option maxHeartbeats 8000000 in
theorem mj_q135_5 : mj_pc mj_m135 200 40 = true := by decide +kernel
set_option maxRecDepth 100000 in
set_option maxHeartbeats 8000000 in
theorem mj_q135_6 : mj_pc mj_m135 240 40 = true := by decide +kernel
set_option maxRecDepth 100000 in
set_option maxHeartbeats 8000000 in
theorem mj_q135_7 : mj_pc mj_m135 280 40 = true := by decide +kernel
set_option maxRecDepth 100000 in
theorem mj_q135_e : mj_cz mj_m135 ((mj_rw mj_m135).drop 320) 320 = true := by decide +kernel
theorem mj_r135_7 : mj_cz mj_m135 ((mj_rw mj_m135).drop 280) 280 = true := mj_pc_1 (y := mj_m135) (a := 280) (n := 40) mj_q135_7 mj_q135_e
theorem mj_r135_6 : mj_cz mj_m135 ((mj_rw mj_m135).drop 240) 240 = true := mj_pc_1 (y := mj_m135) (a := 240) (n := 40) mj_q135_6 mj_r135_7
theorem mj_r135_5 : mj_cz mj_m135 ((mj_rw mj_m135).drop 200) 200 = true := mj_pc_1 (y := mj_m135) (a := 200) (n := 40) mj_q135_5 mj_r135_6
theorem mj_r135_4 : mj_cz mj_m135 ((mj_rw mj_m135).drop 160) 160 = true := mj_pc_1 (y := mj_m135) (a := 160) (n := 40) mj_q135_4 mj_r135_5
theorem mj_r135_3 : mj_cz mj_m135 ((mj_rw mj_m135).drop 120) 120 = true := mj_pc_1 (y := mj_m135) (a := 120) (n := 40) mj_q135_3 mj_r135_4
theorem mj_r135_2 : mj_cz mj_m135 ((mj_rw mj_m135).drop 80) 80 = true := mj_pc_1 (y := mj_m135) (a := 80) (n := 40) mj_q135_2 mj_r135_3
theorem mj_r135_1 : mj_cz mj_m135 ((mj_rw mj_m135).drop 40) 40 = true := mj_pc_1 (y := mj_m135) (a := 40) (n := 40) mj_q135_1 mj_r135_2
theorem mj_r135_0 : mj_cz mj_m135 ((mj_rw mj_m135).drop 0) 0 = true := mj_pc_1 (y := mj_m135) (a := 0) (n := 40) mj_q135_0 mj_r135_1
theorem mj_q135 : mj_cr mj_m135 = true := mj_pc_0 mj_r135_0
set_option maxRecDepth 100000 in
set_option maxHeartbeats 8000000 in
theorem mj_q157_0 : mj_pc mj_m157 0 40 = true := by decide +kernel
set_option maxRecDepth 100000 in
set_option maxHeartbeats 8000000 in
theorem mj_q157_1 : mj_pc mj_m157 40 40 = true := by decide +kernel
set_option maxRecDepth 100000 in
theorem mj_q157_e : mj_cz mj_m157 ((mj_rw mj_m157).drop 80) 80 = true := by decide +kernel
theorem mj_r157_1 : mj_cz mj_m157 ((mj_rw mj_m157).drop 40) 40 = true := mj_pc_1 (y := mj_m157) (a := 40) (n := 40) mj_q157_1 mj_q157_e
theorem mj_r157_0 : mj_cz mj_m157 ((mj_rw mj_m157).drop 0) 0 = true := mj_pc_1 (y := mj_m157) (a := 0) (n := 40) mj_q157_0 mj_r157_1
theorem mj_q157 : mj_cr mj_m157 = true := mj_pc_0 mj_r157_0
set_option maxRecDepth 100000 in
set_option maxHeartbeats 8000000 in
theorem mj_q174_0 : mj_pc mj_m174 0 40 = true := by decide +kernel
set_option maxRecDepth 100000 in
set_option maxHeartbeats 8000000 in
theorem mj_q174_1 : mj_pc mj_m174 40 40 = true := by decide +kernel
set_option maxRecDepth 100000 in
theorem mj_q174_e : mj_cz mj_m174 ((mj_rw mj_m174).drop 80) 80 = true := by decide +kernel
theorem mj_r174_1 : mj_cz mj_m174 ((mj_rw mj_m174).drop 40) 40 = true := mj_pc_1 (y := mj_m174) (a := 40) (n := 40) mj_q174_1 mj_q174_e
theorem mj_r174_0 : mj_cz mj_m174 ((mj_rw mj_m174).drop 0) 0 = true := mj_pc_1 (y := mj_m174) (a := 0) (n := 40) mj_q174_0 mj_r174_1
theorem mj_q174 : mj_cr mj_m174 = true := mj_pc_0 mj_r174_0
set_option maxRecDepth 100000 in
set_option maxHeartbeats 8000000 in
theorem mj_q186_0 : mj_pc mj_m186 0 40 = true := by decide +kernel
set_option maxRecDepth 100000 in
set_option maxHeartbeats 8000000 in
theorem mj_q186_1 : mj_pc mj_m186 40 40 = true := by decide +kernel
set_option maxRecDepth 100000 in
set_option maxHeartbeats 8000000 in
theorem mj_q186_2 : mj_pc mj_m186 80 40 = true := by decide +kernel
set_option maxRecDepth 100000 in
set_option maxHeartbeats 8000000 in
theorem mj_q186_3 : mj_pc mj_m186 120 40 = true := by decide +kernel
set_option maxRecDepth 100000 in
set_option maxHeartbeats 8000000 in
theorem mj_q186_4 : mj_pc mj_m186 160 40 = true := by decide +kernel
set_option maxRecDepth 100000 in
theorem mj_q186_e : mj_cz mj_m186 ((mj_rw mj_m186).drop 200) 200 = true := by decide +kernel
theorem mj_r186_4 : mj_cz mj_m186 ((mj_rw mj_m186).drop 160) 160 = true := mj_pc_1 (y := mj_m186) (a := 160) (n := 40) mj_q186_4 mj_q186_e
theorem mj_r186_3 : mj_cz mj_m186 ((mj_rw mj_m186).drop 120) 120 = true := mj_pc_1 (y := mj_m186) (a := 120) (n := 40) mj_q186_3 mj_r186_4
theorem mj_r186_2 : mj_cz mj_m186 ((mj_rw mj_m186).drop 80) 80 = true := mj_pc_1 (y := mj_m186) (a := 80) (n := 40) mj_q186_2 mj_r186_3
theorem mj_r186_1 : mj_cz mj_m186 ((mj_rw mj_m186).drop 40) 40 = true := mj_pc_1 (y := mj_m186) (a := 40) (n := 40) mj_q186_1 mj_r186_2
theorem mj_r186_0 : mj_cz mj_m186 ((mj_rw mj_m186).drop 0) 0 = true := mj_pc_1 (y := mj_m186) (a := 0) (n := 40) mj_q186_0 mj_r186_1
theorem mj_q186 : mj_cr mj_m186 = true := mj_pc_0 mj_r186_0
set_option maxRecDepth 100000 in
set_option maxHeartbeats 8000000 in
theorem mj_q224_0 : mj_pc mj_m224 0 40 = true := by decide +kernel
set_option maxRecDepth 100000 in
set_option maxHeartbeats 8000000 in
theorem mj_q224_1 : mj_pc mj_m224 40 40 = true := by decide +kernel
set_option maxRecDepth 100000 in
set_option maxHeartbeats 8000000 in
theorem mj_q224_2 : mj_pc mj_m224 80 40 = true := by decide +kernel
set_option maxRecDepth 100000 in
theorem mj_q224_e : mj_cz mj_m224 ((mj_rw mj_m224).drop 120) 120 = true := by decide +kernel
theorem mj_r224_2 : mj_cz mj_m224 ((mj_rw mj_m224).drop 80) 80 = true := mj_pc_1 (y := mj_m224) (a := 80) (n := 40) mj_q224_2 mj_q224_e
theorem mj_r224_1 : mj_cz mj_m224 ((mj_rw mj_m224).drop 40) 40 = true := mj_pc_1 (y := mj_m224) (a := 40) (n := 40) mj_q224_1 mj_r224_2
theorem mj_r224_0 : mj_cz mj_m224 ((mj_rw mj_m224).drop 0) 0 = true := mj_pc_1 (y := mj_m224) (a := 0) (n := 40) mj_q224_0 mj_r224_1
theorem mj_q224 : mj_cr mj_m224 = true := mj_pc_0 mj_r224_0
set_option maxRecDepth 100000 in
set_option maxHeartbeats 8000000 in
theorem mj_q259_0 : mj_pc mj_m259 0 40 = true := by decide +kernel
set_option maxRecDepth 100000 in
set_option maxHeartbeats 8000000 in
theorem mj_q259_1 : mj_pc mj_m259 40 40 = true := by decide +kernel
set_option maxRecDepth 100000 in
set_option maxHeartbeats 8000000 in
theorem mj_q259_2 : mj_pc mj_m259 80 40 = true := by decide +kernel
set_option maxRecDepth 100000 in
theorem mj_q259_e : mj_cz mj_m259 ((mj_rw mj_m259).drop 120) 120 = true := by decide +kernel
theorem mj_r259_2 : mj_cz mj_m259 ((mj_rw mj_m259).drop 80) 80 = true := mj_pc_1 (y := mj_m259) (a := 80) (n := 40) mj_q259_2 mj_q259_e
theorem mj_r259_1 : mj_cz mj_m259 ((mj_rw mj_m259).drop 40) 40 = true := mj_pc_1 (y := mj_m259) (a := 40) (n := 40) mj_q259_1 mj_r259_2
theorem mj_r259_0 : mj_cz mj_m259 ((mj_rw mj_m259).drop 0) 0 = true := mj_pc_1 (y := mj_m259) (a := 0) (n := 40) mj_q259_0 mj_r259_1
theorem mj_q259 : mj_cr mj_m259 = true := mj_pc_0 mj_r259_0
set_option maxRecDepth 100000 in
set_option maxHeartbeats 8000000 in
theorem mj_q266 : mj_cr mj_m266 = true := by decide +kernel
set_option maxRecDepth 100000 in
set_option maxHeartbeats 8000000 in
theorem mj_q310 : mj_cr mj_m310 = true := by decide +kernel
set_option maxRecDepth 100000 in
set_option maxHeartbeats 8000000 in
theorem mj_q313 : mj_cr mj_m313 = true := by decide +kernel
set_option maxRecDepth 100000 in
set_option maxHeartbeats 8000000 in
theorem mj_q320_0 : mj_pc mj_m320 0 40 = true := by decide +kernel
set_option maxRecDepth 100000 in
set_option maxHeartbeats 8000000 in
theorem mj_q320_1 : mj_pc mj_m320 40 40 = true := by decide +kernel
set_option maxRecDepth 100000 in
set_option maxHeartbeats 8000000 in
theorem mj_q320_2 : mj_pc mj_m320 80 40 = true := by decide +kernel
set_option maxRecDepth 100000 in
set_option maxHeartbeats 8000000 in
theorem mj_q320_3 : mj_pc mj_m320 120 40 = true := by decide +kernel
set_option maxRecDepth 100000 in
theorem mj_q320_e : mj_cz mj_m320 ((mj_rw mj_m320).drop 160) 160 = true := by decide +kernel
theorem mj_r320_3 : mj_cz mj_m320 ((mj_rw mj_m320).drop 120) 120 = true := mj_pc_1 (y := mj_m320) (a := 120) (n := 40) mj_q320_3 mj_q320_e
theorem mj_r320_2 : mj_cz mj_m320 ((mj_rw mj_m320).drop 80) 80 = true := mj_pc_1 (y := mj_m320) (a := 80) (n := 40) mj_q320_2 mj_r320_3
theorem mj_r320_1 : mj_cz mj_m320 ((mj_rw mj_m320).drop 40) 40 = true := mj_pc_1 (y := mj_m320) (a := 40) (n := 40) mj_q320_1 mj_r320_2
theorem mj_r320_0 : mj_cz mj_m320 ((mj_rw mj_m320).drop 0) 0 = true := mj_pc_1 (y := mj_m320) (a := 0) (n := 40) mj_q320_0 mj_r320_1
theorem mj_q320 : mj_cr mj_m320 = true := mj_pc_0 mj_r320_0
set_option maxRecDepth 100000 in
set_option maxHeartbeats 8000000 in
theorem mj_q340_0 : mj_pc mj_m340 0 40 = true := by decide +kernel
set_option maxRecDepth 100000 in
set_option maxHeartbeats 8000000 in
theorem mj_q340_1 : mj_pc mj_m340 40 40 = true := by decide +kernel
set_option maxRecDepth 100000 in
theorem mj_q340_e : mj_cz mj_m340 ((mj_rw mj_m340).drop 80) 80 = true := by decide +kernel
theorem mj_r340_1 : mj_cz mj_m340 ((mj_rw mj_m340).drop 40) 40 = true := mj_pc_1 (y := mj_m340) (a := 40) (n := 40) mj_q340_1 mj_q340_e
theorem mj_r340_0 : mj_cz mj_m340 ((mj_rw mj_m340).drop 0) 0 = true := mj_pc_1 (y := mj_m340) (a := 0) (n := 40) mj_q340_0 mj_r340_1
theorem mj_q340 : mj_cr mj_m340 = true := mj_pc_0 mj_r340_0
end
