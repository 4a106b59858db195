/- g1.chk04 -/
section
set_option maxRecDepth 512
set_option maxRecDepth 100000 in
set_option maxHeartbeats 8000000 in
theorem mj_q54_0 : mj_pc mj_m54 0 40 = true := by decide +kernel
set_option maxRecDepth 100000 in
set_option maxHeartbeats 8000000 in
theorem mj_q54_1 : mj_pc mj_m54 40 40 = true := by decide +kernel
set_option maxRecDepth 100000 in
theorem mj_q54_e : mj_cz mj_m54 ((mj_rw mj_m54).drop 80) 80 = true := by decide +kernel
theorem mj_r54_1 : mj_cz mj_m54 ((mj_rw mj_m54).drop 40) 40 = true := mj_pc_1 (y := mj_m54) (a := 40) (n := 40) mj_q54_1 mj_q54_e
theorem mj_r54_0 : mj_cz mj_m54 ((mj_rw mj_m54).drop 0) 0 = true := mj_pc_1 (y := mj_m54) (a := 0) (n := 40) mj_q54_0 mj_r54_1
theorem mj_q54 : mj_cr mj_m54 = true := mj_pc_0 mj_r54_0
set_option maxRecDepth 100000 in
set_option maxHeartbeats 8000000 in
theorem mj_q56_0 : mj_pc mj_m56 0 40 = true := by decide +kernel
set_option maxRecDepth 100000 in
set_option maxHeartbeats 8000000 in
theorem mj_q56_1 : mj_pc mj_m56 40 40 = true := by decide +kernel
set_option maxRecDepth 100000 in
theorem mj_q56_e : mj_cz mj_m56 ((mj_rw mj_m56).drop 80) 80 = true := by decide +kernel
theorem mj_r56_1 : mj_cz mj_m56 ((mj_rw mj_m56).drop 40) 40 = true := mj_pc_1 (y := mj_m56) (a := 40) (n := 40) mj_q56_1 mj_q56_e
theorem mj_r56_0 : mj_cz mj_m56 ((mj_rw mj_m56).drop 0) 0 = true := mj_pc_1 (y := mj_m56) (a := 0) (n := 40) mj_q56_0 mj_r56_1
theorem mj_q56 : mj_cr mj_m56 = true := mj_pc_0 mj_r56_0
set_option maxRecDepth 100000 in
set_option maxHeartbeats 8000000 in
theorem mj_q61 : mj_cr mj_m61 = true := by decide +kernel
set_option maxRecDepth 100000 in
set_option maxHeartbeats 8000000 in
theorem mj_q96 : mj_cr mj_m96 = true := by decide +kernel
set_option maxRecDepth 100000 in
set_option maxHeartbeats 8000000 in
theorem mj_q98 : mj_cr mj_m98 = true := by decide +kernel
set_option maxRecDepth 100000 in
set_option maxHeartbeats 8000000 in
theorem mj_q156_0 : mj_pc mj_m156 0 40 = true := by decide +kernel
set_option maxRecDepth 100000 in
set_option maxHeartbeats 8000000 in
theorem mj_q156_1 : mj_pc mj_m156 40 40 = true := by decide +kernel
set_option maxRecDepth 100000 in
theorem mj_q156_e : mj_cz mj_m156 ((mj_rw mj_m156).drop 80) 80 = true := by decide +kernel
theorem mj_r156_1 : mj_cz mj_m156 ((mj_rw mj_m156).drop 40) 40 = true := mj_pc_1 (y := mj_m156) (a := 40) (n := 40) mj_q156_1 mj_q156_e
theorem mj_r156_0 : mj_cz mj_m156 ((mj_rw mj_m156).drop 0) 0 = true := mj_pc_1 (y := mj_m156) (a := 0) (n := 40) mj_q156_0 mj_r156_1
theorem mj_q156 : mj_cr mj_m156 = true := mj_pc_0 mj_r156_0
set_option maxRecDepth 100000 in
set_option maxHeartbeats 8000000 in
theorem mj_q161 : mj_cr mj_m161 = true := by decide +kernel
set_option maxRecDepth 100000 in
set_option maxHeartbeats 8000000 in
theorem mj_q184_0 : mj_pc mj_m184 0 40 = true := by decide +kernel
set_option maxRecDepth 100000 in
set_option maxHeartbeats 8000000 in
theorem mj_q184_1 : mj_pc mj_m184 40 40 = true := by decide +kernel
set_option maxRecDepth 100000 in
theorem mj_q184_e : mj_cz mj_m184 ((mj_rw mj_m184).drop 80) 80 = true := by decide +kernel
theorem mj_r184_1 : mj_cz mj_m184 ((mj_rw mj_m184).drop 40) 40 = true := mj_pc_1 (y := mj_m184) (a := 40) (n := 40) mj_q184_1 mj_q184_e
theorem mj_r184_0 : mj_cz mj_m184 ((mj_rw mj_m184).drop 0) 0 = true := mj_pc_1 (y := mj_m184) (a := 0) (n := 40) mj_q184_0 mj_r184_1
theorem mj_q184 : mj_cr mj_m184 = true := mj_pc_0 mj_r184_0
set_option maxRecDepth 100000 in
set_option maxHeartbeats 8000000 in
theorem mj_q211_0 : mj_pc mj_m211 0 40 = true := by decide +kernel
set_option maxRecDepth 100000 in
set_option maxHeartbeats 8000000 in
theorem mj_q211_1 : mj_pc mj_m211 40 40 = true := by decide +kernel
set_option maxRecDepth 100000 in
set_option maxHeartbeats 8000000 in
theorem mj_q211_2 : mj_pc mj_m211 80 40 = true := by decide +kernel
set_option maxRecDepth 100000 in
theorem mj_q211_e : mj_cz mj_m211 ((mj_rw mj_m211).drop 120) 120 = true := by decide +kernel
theorem mj_r211_2 : mj_cz mj_m211 ((mj_rw mj_m211).drop 80) 80 = true := mj_pc_1 (y := mj_m211) (a := 80) (n := 40) mj_q211_2 mj_q211_e
theorem mj_r211_1 : mj_cz mj_m211 ((mj_rw mj_m211).drop 40) 40 = true := mj_pc_1 (y := mj_m211) (a := 40) (n := 40) mj_q211_1 mj_r211_2
theorem mj_r211_0 : mj_cz mj_m211 ((mj_rw mj_m211).drop 0) 0 = true := mj_pc_1 (y := mj_m211) (a := 0) (n := 40) mj_q211_0 mj_r211_1
theorem mj_q211 : mj_cr mj_m211 = true := mj_pc_0 mj_r211_0
set_option maxRecDepth 100000 in
set_option maxHeartbeats 8000000 in
theorem mj_q223_0 : mj_pc mj_m223 0 40 = true := by decide +kernel
set_option maxRecDepth 100000 in
set_option maxHeartbeats 8000000 in
theorem mj_q223_1 : mj_pc mj_m223 40 40 = true := by decide +kernel
set_option maxRecDepth 100000 in
set_option maxHeartbeats 8000000 in
theorem mj_q223_2 : mj_pc mj_m223 80 40 = true := by decide +kernel
set_option maxRecDepth 100000 in
theorem mj_q223_e : mj_cz mj_m223 ((mj_rw mj_m223).drop 120) 120 = true := by decide +kernel
theorem mj_r223_2 : mj_cz mj_m223 ((mj_rw mj_m223).drop 80) 80 = true := mj_pc_1 (y := mj_m223) (a := 80) (n := 40) mj_q223_2 mj_q223_e
theorem mj_r223_1 : mj_cz mj_m223 ((mj_rw mj_m223).drop 40) 40 = true := mj_pc_1 (y := mj_m223) (a := 40) (n := 40) mj_q223_1 mj_r223_2
theorem mj_r223_0 : mj_cz mj_m223 ((mj_rw mj_m223).drop 0) 0 = true := mj_pc_1 (y := mj_m223) (a := 0) (n := 40) mj_q223_0 mj_r223_1
theorem mj_q223 : mj_cr mj_m223 = true := mj_pc_0 mj_r223_0
set_option maxRecDepth 100000 in
set_option maxHeartbeats 8000000 in
theorem mj_q243 : mj_cr mj_m243 = true := by decide +kernel
set_option maxRecDepth 100000 in
set_option maxHeartbeats 8000000 in
theorem mj_q265 : mj_cr mj_m265 = true := by decide +kernel
set_option maxRecDepth 100000 in
set_option maxHeartbeats 8000000 in
theorem mj_q318 : mj_cr mj_m318 = true := by decide +kernel
set_option maxRecDepth 100000 in
set_option maxHeartbeats 8000000 in
theorem mj_q324_0 : mj_pc mj_m324 0 40 = true := by decide +kernel
set_option maxRecDepth 100000 in
set_option maxHeartbeats 8000000 in
theorem mj_q324_1 : mj_pc mj_m324 40 40 = true := by decide +kernel
set_option maxRecDepth 100000 in
set_option maxHeartbeats 8000000 in
theorem mj_q324_2 : mj_pc mj_m324 80 40 = true := by decide +kernel
set_option maxRecDepth 100000 in
set_option maxHeartbeats 8000000 in
theorem mj_q324_3 : mj_pc mj_m324 120 40 = true := by decide +kernel
set_option maxRecDepth 100000 in
set_option maxHeartbeats 8000000 in
theorem mj_q324_4 : mj_pc mj_m324 160 40 = true := by decide +kernel
set_option maxRecDepth 100000 in
set_option maxHeartbeats 8000000 in
theorem mj_q324_5 : mj_pc mj_m324 200 40 = true := by decide +kernel
set_option maxRecDepth 100000 in
set_option maxHeartbeats 8000000 in
theorem mj_q324_6 : mj_pc mj_m324 240 40 = true := by decide +kernel
set_option maxRecDepth 100000 in
set_option maxHeartbeats 8000000 in
theorem mj_q324_7 : mj_pc mj_m324 280 40 = true := by decide +kernel
set_option maxRecDepth 100000 in
set_option maxHeartbeats 8000000 in
theorem mj_q324_8 : mj_pc mj_m324 320 40 = true := by decide +kernel
set_option maxRecDepth 100000 in
set_option maxHeartbeats 8000000 in
theorem mj_q324_9 : mj_pc mj_m324 360 40 = true := by decide +kernel
set_option maxRecDepth 100000 in
set_option maxHeartbeats 8000000 in
theorem mj_q324_10 : mj_pc mj_m324 400 40 = true := by decide +kernel
set_option maxRecDepth 100000 in
set_option maxHeartbeats 8000000 in
theorem mj_q324_11 : mj_pc mj_m324 440 40 = true := by decide +kernel
set_option maxRecDepth 100000 in
set_option maxHeartbeats 8000000 in
theorem mj_q324_12 : mj_pc mj_m324 480 40 = true := by decide +kernel
set_option maxRecDepth 100000 in
theorem mj_q324_e : mj_cz mj_m324 ((mj_rw mj_m324).drop 520) 520 = true := by decide +kernel
theorem mj_r324_12 : mj_cz mj_m324 ((mj_rw mj_m324).drop 480) 480 = true := mj_pc_1 (y := mj_m324) (a := 480) (n := 40) mj_q324_12 mj_q324_e
theorem mj_r324_11 : mj_cz mj_m324 ((mj_rw mj_m324).drop 440) 440 = true := mj_pc_1 (y := mj_m324) (a := 440) (n := 40) mj_q324_11 mj_r324_12
theorem mj_r324_10 : mj_cz mj_m324 ((mj_rw mj_m324).drop 400) 400 = true := mj_pc_1 (y := mj_m324) (a := 400) (n := 40) mj_q324_10 mj_r324_11
theorem mj_r324_9 : mj_cz mj_m324 ((mj_rw mj_m324).drop 360) 360 = true := mj_pc_1 (y := mj_m324) (a := 360) (n := 40) mj_q324_9 mj_r324_10
theorem mj_r324_8 : mj_cz mj_m324 ((mj_rw mj_m324).drop 320) 320 = true := mj_pc_1 (y := mj_m324) (a := 320) (n := 40) mj_q324_8 mj_r324_9
theorem mj_r324_7 : mj_cz mj_m324 ((mj_rw mj_m324).drop 280) 280 = true := mj_pc_1 (y := mj_m324) (a := 280) (n := 40) mj_q324_7 mj_r324_8
theorem mj_r324_6 : mj_cz mj_m324 ((mj_rw mj_m324).drop 240) 240 = true := mj_pc_1 (y := mj_m324) (a := 240) (n := 40) mj_q324_6 mj_r324_7
theorem mj_r324_5 : mj_cz mj_m324 ((mj_rw mj_m324).drop 200) 200 = true := mj_pc_1 (y := mj_m324) (a := 200) (n := 40) mj_q324_5 mj_r324_6
theorem mj_r324_4 : mj_cz mj_m324 ((mj_rw mj_m324).drop 160) 160 = true := mj_pc_1 (y := mj_m324) (a := 160) (n := 40) mj_q324_4 mj_r324_5
theorem mj_r324_3 : mj_cz mj_m324 ((mj_rw mj_m324).drop 120) 120 = true := mj_pc_1 (y := mj_m324) (a := 120) (n := 40) mj_q324_3 mj_r324_4
theorem mj_r324_2 : mj_cz mj_m324 ((mj_rw mj_m324).drop 80) 80 = true := mj_pc_1 (y := mj_m324) (a := 80) (n := 40) mj_q324_2 mj_r324_3
theorem mj_r324_1 : mj_cz mj_m324 ((mj_rw mj_m324).drop 40) 40 = true := mj_pc_1 (y := mj_m324) (a := 40) (n := 40) mj_q324_1 mj_r324_2
theorem mj_r324_0 : mj_cz mj_m324 ((mj_rw mj_m324).drop 0) 0 = true := mj_pc_1 (y := mj_m324) (a := 0) (n := 40) mj_q324_0 mj_r324_1
theorem mj_q324 : mj_cr mj_m324 = true := mj_pc_0 mj_r324_0
set_option maxRecDepth 100000 in
set_option maxHeartbeats 8000000 in
theorem mj_q337_0 : mj_pc mj_m337 0 40 = true := by decide +kernel
set_option maxRecDepth 100000 in
set_option maxHeartbeats 8000000 in
theorem mj_q337_1 : mj_pc mj_m337 40 40 = true := by decide +kernel
set_option maxRecDepth 100000 in
theorem mj_q337_e : mj_cz mj_m337 ((mj_rw mj_m337).drop 80) 80 = true := by decide +kernel
theorem mj_r337_1 : mj_cz mj_m337 ((mj_rw mj_m337).drop 40) 40 = true := mj_pc_1 (y := mj_m337) (a := 40) (n := 40) mj_q337_1 mj_q337_e
theorem mj_r337_0 : mj_cz mj_m337 ((mj_rw mj_m337).drop 0) 0 = true := mj_pc_1 (y := mj_m337) (a := 0) (n := 40) mj_q337_0 mj_r337_1
theorem mj_q337 : mj_cr mj_m337 = true := mj_pc_0 mj_r337_0
set_option maxRecDepth 100000 in
set_option maxHeartbeats 8000000 in
theorem mj_q348 : mj_cr mj_m348 = true := by decide +kernel
end
