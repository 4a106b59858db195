/- g1.chk02 -/
section
set_option maxRecDepth 512
set_option maxRecDepth 100000 in
set_option maxHeartbeats 8000000 in
theorem mj_q231_0 : mj_pc mj_m231 0 40 = true := by decide +kernel
set_option maxRecDepth 100000 in
set_option maxHeartbeats 8000000 in
theorem mj_q231_1 : mj_pc mj_m231 40 40 = true := by decide +kernel
set_option maxRecDepth 100000 in
set_option maxHeartbeats 8000000 in
theorem mj_q231_2 : mj_pc mj_m231 80 40 = true := by decide +kernel
set_option maxRecDepth 100000 in
set_option maxHeartbeats 8000000 in
theorem mj_q231_3 : mj_pc mj_m231 120 40 = true := by decide +kernel
set_option maxRecDepth 100000 in
set_option maxHeartbeats 8000000 in
theorem mj_q231_4 : mj_pc mj_m231 160 40 = true := by decide +kernel
set_option maxRecDepth 100000 in
set_option maxHeartbeats 8000000 in
theorem mj_q231_5 : mj_pc mj_m231 200 40 = true := by decide +kernel
set_option maxRecDepth 100000 in
set_option maxHeartbeats 8000000 in
theorem mj_q231_6 : mj_pc mj_m231 240 40 = true := by decide +kernel
set_option maxRecDepth 100000 in
set_option maxHeartbeats 8000000 in
theorem mj_q231_7 : mj_pc mj_m231 280 40 = true := by decide +kernel
set_option maxRecDepth 100000 in
set_option maxHeartbeats 8000000 in
theorem mj_q231_8 : mj_pc mj_m231 320 40 = true := by decide +kernel
set_option maxRecDepth 100000 in
set_option maxHeartbeats 8000000 in
theorem mj_q231_9 : mj_pc mj_m231 360 40 = true := by decide +kernel
set_option maxRecDepth 100000 in
set_option maxHeartbeats 8000000 in
theorem mj_q231_10 : mj_pc mj_m231 400 40 = true := by decide +kernel
set_option maxRecDepth 100000 in
set_option maxHeartbeats 8000000 in
theorem mj_q231_11 : mj_pc mj_m231 440 40 = true := by decide +kernel
set_option maxRecDepth 100000 in
set_option maxHeartbeats 8000000 in
theorem mj_q231_12 : mj_pc mj_m231 480 40 = true := by decide +kernel
set_option maxRecDepth 100000 in
set_option maxHeartbeats 8000000 in
theorem mj_q231_13 : mj_pc mj_m231 520 40 = true := by decide +kernel
set_option maxRecDepth 100000 in
set_option maxHeartbeats 8000000 in
theorem mj_q231_14 : mj_pc mj_m231 560 40 = true := by decide +kernel
set_option maxRecDepth 100000 in
set_option maxHeartbeats 8000000 in
theorem mj_q231_15 : mj_pc mj_m231 600 40 = true := by decide +kernel
set_option maxRecDepth 100000 in
set_option maxHeartbeats 8000000 in
theorem mj_q231_16 : mj_pc mj_m231 640 40 = true := by decide +kernel
set_option maxRecDepth 100000 in
set_option maxHeartbeats 8000000 in
theorem mj_q231_17 : mj_pc mj_m231 680 40 = true := by decide +kernel
set_option maxRecDepth 100000 in
set_option maxHeartbeats 8000000 in
theorem mj_q231_18 : mj_pc mj_m231 720 40 = true := by decide +kernel
set_option maxRecDepth 100000 in
set_option maxHeartbeats 8000000 in
theorem mj_q231_19 : mj_pc mj_m231 760 40 = true := by decide +kernel
set_option maxRecDepth 100000 in
theorem mj_q231_e : mj_cz mj_m231 ((mj_rw mj_m231).drop 800) 800 = true := by decide +kernel
theorem mj_r231_19 : mj_cz mj_m231 ((mj_rw mj_m231).drop 760) 760 = true := mj_pc_1 (y := mj_m231) (a := 760) (n := 40) mj_q231_19 mj_q231_e
theorem mj_r231_18 : mj_cz mj_m231 ((mj_rw mj_m231).drop 720) 720 = true := mj_pc_1 (y := mj_m231) (a := 720) (n := 40) mj_q231_18 mj_r231_19
theorem mj_r231_17 : mj_cz mj_m231 ((mj_rw mj_m231).drop 680) 680 = true := mj_pc_1 (y := mj_m231) (a := 680) (n := 40) mj_q231_17 mj_r231_18
theorem mj_r231_16 : mj_cz mj_m231 ((mj_rw mj_m231).drop 640) 640 = true := mj_pc_1 (y := mj_m231) (a := 640) (n := 40) mj_q231_16 mj_r231_17
theorem mj_r231_15 : mj_cz mj_m231 ((mj_rw mj_m231).drop 600) 600 = true := mj_pc_1 (y := mj_m231) (a := 600) (n := 40) mj_q231_15 mj_r231_16
theorem mj_r231_14 : mj_cz mj_m231 ((mj_rw mj_m231).drop 560) 560 = true := mj_pc_1 (y := mj_m231) (a := 560) (n := 40) mj_q231_14 mj_r231_15
theorem mj_r231_13 : mj_cz mj_m231 ((mj_rw mj_m231).drop 520) 520 = true := mj_pc_1 (y := mj_m231) (a := 520) (n := 40) mj_q231_13 mj_r231_14
theorem mj_r231_12 : mj_cz mj_m231 ((mj_rw mj_m231).drop 480) 480 = true := mj_pc_1 (y := mj_m231) (a := 480) (n := 40) mj_q231_12 mj_r231_13
theorem mj_r231_11 : mj_cz mj_m231 ((mj_rw mj_m231).drop 440) 440 = true := mj_pc_1 (y := mj_m231) (a := 440) (n := 40) mj_q231_11 mj_r231_12
theorem mj_r231_10 : mj_cz mj_m231 ((mj_rw mj_m231).drop 400) 400 = true := mj_pc_1 (y := mj_m231) (a := 400) (n := 40) mj_q231_10 mj_r231_11
theorem mj_r231_9 : mj_cz mj_m231 ((mj_rw mj_m231).drop 360) 360 = true := mj_pc_1 (y := mj_m231) (a := 360) (n := 40) mj_q231_9 mj_r231_10
theorem mj_r231_8 : mj_cz mj_m231 ((mj_rw mj_m231).drop 320) 320 = true := mj_pc_1 (y := mj_m231) (a := 320) (n := 40) mj_q231_8 mj_r231_9
theorem mj_r231_7 : mj_cz mj_m231 ((mj_rw mj_m231).drop 280) 280 = true := mj_pc_1 (y := mj_m231) (a := 280) (n := 40) mj_q231_7 mj_r231_8
theorem mj_r231_6 : mj_cz mj_m231 ((mj_rw mj_m231).drop 240) 240 = true := mj_pc_1 (y := mj_m231) (a := 240) (n := 40) mj_q231_6 mj_r231_7
theorem mj_r231_5 : mj_cz mj_m231 ((mj_rw mj_m231).drop 200) 200 = true := mj_pc_1 (y := mj_m231) (a := 200) (n := 40) mj_q231_5 mj_r231_6
theorem mj_r231_4 : mj_cz mj_m231 ((mj_rw mj_m231).drop 160) 160 = true := mj_pc_1 (y := mj_m231) (a := 160) (n := 40) mj_q231_4 mj_r231_5
theorem mj_r231_3 : mj_cz mj_m231 ((mj_rw mj_m231).drop 120) 120 = true := mj_pc_1 (y := mj_m231) (a := 120) (n := 40) mj_q231_3 mj_r231_4
theorem mj_r231_2 : mj_cz mj_m231 ((mj_rw mj_m231).drop 80) 80 = true := mj_pc_1 (y := mj_m231) (a := 80) (n := 40) mj_q231_2 mj_r231_3
theorem mj_r231_1 : mj_cz mj_m231 ((mj_rw mj_m231).drop 40) 40 = true := mj_pc_1 (y := mj_m231) (a := 40) (n := 40) mj_q231_1 mj_r231_2
theorem mj_r231_0 : mj_cz mj_m231 ((mj_rw mj_m231).drop 0) 0 = true := mj_pc_1 (y := mj_m231) (a := 0) (n := 40) mj_q231_0 mj_r231_1
theorem mj_q231 : mj_cr mj_m231 = true := mj_pc_0 mj_r231_0
end
