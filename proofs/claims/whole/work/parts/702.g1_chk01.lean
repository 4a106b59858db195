/- g1.chk01 -/
section
set_option maxRecDepth 512
set_option maxRecDepth 100000 in
set_option maxHeartbeats 8000000 in
theorem mj_q299_0 : mj_pc mj_m299 0 40 = true := by decide +kernel
set_option maxRecDepth 100000 in
set_option maxHeartbeats 8000000 in
theorem mj_q299_1 : mj_pc mj_m299 40 40 = true := by decide +kernel
set_option maxRecDepth 100000 in
set_option maxHeartbeats 8000000 in
theorem mj_q299_2 : mj_pc mj_m299 80 40 = true := by decide +kernel
set_option maxRecDepth 100000 in
set_option maxHeartbeats 8000000 in
theorem mj_q299_3 : mj_pc mj_m299 120 40 = true := by decide +kernel
set_option maxRecDepth 100000 in
set_option maxHeartbeats 8000000 in
theorem mj_q299_4 : mj_pc mj_m299 160 40 = true := by decide +kernel
set_option maxRecDepth 100000 in
set_option maxHeartbeats 8000000 in
theorem mj_q299_5 : mj_pc mj_m299 200 40 = true := by decide +kernel
set_option maxRecDepth 100000 in
set_option maxHeartbeats 8000000 in
theorem mj_q299_6 : mj_pc mj_m299 240 40 = true := by decide +kernel
set_option maxRecDepth 100000 in
set_option maxHeartbeats 8000000 in
theorem mj_q299_7 : mj_pc mj_m299 280 40 = true := by decide +kernel
set_option maxRecDepth 100000 in
set_option maxHeartbeats 8000000 in
theorem mj_q299_8 : mj_pc mj_m299 320 40 = true := by decide +kernel
set_option maxRecDepth 100000 in
set_option maxHeartbeats 8000000 in
theorem mj_q299_9 : mj_pc mj_m299 360 40 = true := by decide +kernel
set_option maxRecDepth 100000 in
set_option maxHeartbeats 8000000 in
theorem mj_q299_10 : mj_pc mj_m299 400 40 = true := by decide +kernel
set_option maxRecDepth 100000 in
set_option maxHeartbeats 8000000 in
theorem mj_q299_11 : mj_pc mj_m299 440 40 = true := by decide +kernel
set_option maxRecDepth 100000 in
set_option maxHeartbeats 8000000 in
theorem mj_q299_12 : mj_pc mj_m299 480 40 = true := by decide +kernel
set_option maxRecDepth 100000 in
set_option maxHeartbeats 8000000 in
theorem mj_q299_13 : mj_pc mj_m299 520 40 = true := by decide +kernel
set_option maxRecDepth 100000 in
set_option maxHeartbeats 8000000 in
theorem mj_q299_14 : mj_pc mj_m299 560 40 = true := by decide +kernel
set_option maxRecDepth 100000 in
set_option maxHeartbeats 8000000 in
theorem mj_q299_15 : mj_pc mj_m299 600 40 = true := by decide +kernel
set_option maxRecDepth 100000 in
set_option maxHeartbeats 8000000 in
theorem mj_q299_16 : mj_pc mj_m299 640 40 = true := by decide +kernel
set_option maxRecDepth 100000 in
set_option maxHeartbeats 8000000 in
theorem mj_q299_17 : mj_pc mj_m299 680 40 = true := by decide +kernel
set_option maxRecDepth 100000 in
set_option maxHeartbeats 8000000 in
theorem mj_q299_18 : mj_pc mj_m299 720 40 = true := by decide +kernel
set_option maxRecDepth 100000 in
set_option maxHeartbeats 8000000 in
theorem mj_q299_19 : mj_pc mj_m299 760 40 = true := by decide +kernel
set_option maxRecDepth 100000 in
set_option maxHeartbeats 8000000 in
theorem mj_q299_20 : mj_pc mj_m299 800 40 = true := by decide +kernel
set_option maxRecDepth 100000 in
set_option maxHeartbeats 8000000 in
theorem mj_q299_21 : mj_pc mj_m299 840 40 = true := by decide +kernel
set_option maxRecDepth 100000 in
set_option maxHeartbeats 8000000 in
theorem mj_q299_22 : mj_pc mj_m299 880 40 = true := by decide +kernel
set_option maxRecDepth 100000 in
theorem mj_q299_e : mj_cz mj_m299 ((mj_rw mj_m299).drop 920) 920 = true := by decide +kernel
theorem mj_r299_22 : mj_cz mj_m299 ((mj_rw mj_m299).drop 880) 880 = true := mj_pc_1 (y := mj_m299) (a := 880) (n := 40) mj_q299_22 mj_q299_e
theorem mj_r299_21 : mj_cz mj_m299 ((mj_rw mj_m299).drop 840) 840 = true := mj_pc_1 (y := mj_m299) (a := 840) (n := 40) mj_q299_21 mj_r299_22
theorem mj_r299_20 : mj_cz mj_m299 ((mj_rw mj_m299).drop 800) 800 = true := mj_pc_1 (y := mj_m299) (a := 800) (n := 40) mj_q299_20 mj_r299_21
theorem mj_r299_19 : mj_cz mj_m299 ((mj_rw mj_m299).drop 760) 760 = true := mj_pc_1 (y := mj_m299) (a := 760) (n := 40) mj_q299_19 mj_r299_20
theorem mj_r299_18 : mj_cz mj_m299 ((mj_rw mj_m299).drop 720) 720 = true := mj_pc_1 (y := mj_m299) (a := 720) (n := 40) mj_q299_18 mj_r299_19
theorem mj_r299_17 : mj_cz mj_m299 ((mj_rw mj_m299).drop 680) 680 = true := mj_pc_1 (y := mj_m299) (a := 680) (n := 40) mj_q299_17 mj_r299_18
theorem mj_r299_16 : mj_cz mj_m299 ((mj_rw mj_m299).drop 640) 640 = true := mj_pc_1 (y := mj_m299) (a := 640) (n := 40) mj_q299_16 mj_r299_17
theorem mj_r299_15 : mj_cz mj_m299 ((mj_rw mj_m299).drop 600) 600 = true := mj_pc_1 (y := mj_m299) (a := 600) (n := 40) mj_q299_15 mj_r299_16
theorem mj_r299_14 : mj_cz mj_m299 ((mj_rw mj_m299).drop 560) 560 = true := mj_pc_1 (y := mj_m299) (a := 560) (n := 40) mj_q299_14 mj_r299_15
theorem mj_r299_13 : mj_cz mj_m299 ((mj_rw mj_m299).drop 520) 520 = true := mj_pc_1 (y := mj_m299) (a := 520) (n := 40) mj_q299_13 mj_r299_14
theorem mj_r299_12 : mj_cz mj_m299 ((mj_rw mj_m299).drop 480) 480 = true := mj_pc_1 (y := mj_m299) (a := 480) (n := 40) mj_q299_12 mj_r299_13
theorem mj_r299_11 : mj_cz mj_m299 ((mj_rw mj_m299).drop 440) 440 = true := mj_pc_1 (y := mj_m299) (a := 440) (n := 40) mj_q299_11 mj_r299_12
theorem mj_r299_10 : mj_cz mj_m299 ((mj_rw mj_m299).drop 400) 400 = true := mj_pc_1 (y := mj_m299) (a := 400) (n := 40) mj_q299_10 mj_r299_11
theorem mj_r299_9 : mj_cz mj_m299 ((mj_rw mj_m299).drop 360) 360 = true := mj_pc_1 (y := mj_m299) (a := 360) (n := 40) mj_q299_9 mj_r299_10
theorem mj_r299_8 : mj_cz mj_m299 ((mj_rw mj_m299).drop 320) 320 = true := mj_pc_1 (y := mj_m299) (a := 320) (n := 40) mj_q299_8 mj_r299_9
theorem mj_r299_7 : mj_cz mj_m299 ((mj_rw mj_m299).drop 280) 280 = true := mj_pc_1 (y := mj_m299) (a := 280) (n := 40) mj_q299_7 mj_r299_8
theorem mj_r299_6 : mj_cz mj_m299 ((mj_rw mj_m299).drop 240) 240 = true := mj_pc_1 (y := mj_m299) (a := 240) (n := 40) mj_q299_6 mj_r299_7
theorem mj_r299_5 : mj_cz mj_m299 ((mj_rw mj_m299).drop 200) 200 = true := mj_pc_1 (y := mj_m299) (a := 200) (n := 40) mj_q299_5 mj_r299_6
theorem mj_r299_4 : mj_cz mj_m299 ((mj_rw mj_m299).drop 160) 160 = true := mj_pc_1 (y := mj_m299) (a := 160) (n := 40) mj_q299_4 mj_r299_5
theorem mj_r299_3 : mj_cz mj_m299 ((mj_rw mj_m299).drop 120) 120 = true := mj_pc_1 (y := mj_m299) (a := 120) (n := 40) mj_q299_3 mj_r299_4
theorem mj_r299_2 : mj_cz mj_m299 ((mj_rw mj_m299).drop 80) 80 = true := mj_pc_1 (y := mj_m299) (a := 80) (n := 40) mj_q299_2 mj_r299_3
theorem mj_r299_1 : mj_cz mj_m299 ((mj_rw mj_m299).drop 40) 40 = true := mj_pc_1 (y := mj_m299) (a := 40) (n := 40) mj_q299_1 mj_r299_2
theorem mj_r299_0 : mj_cz mj_m299 ((mj_rw mj_m299).drop 0) 0 = true := mj_pc_1 (y := mj_m299) (a := 0) (n := 40) mj_q299_0 mj_r299_1
theorem mj_q299 : mj_cr mj_m299 = true := mj_pc_0 mj_r299_0
end
