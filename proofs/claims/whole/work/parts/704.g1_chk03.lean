/- g1.chk03 -/
section
set_option maxRecDepth 512
set_option maxRecDepth 100000 in
set_option maxHeartbeats 8000000 in
theorem mj_q36 : mj_cr mj_m36 = true := by decide +kernel
set_option maxRecDepth 100000 in
set_option maxHeartbeats 8000000 in
theorem mj_q93 : mj_cr mj_m93 = true := by decide +kernel
set_option maxRecDepth 100000 in
set_option maxHeartbeats 8000000 in
theorem mj_q147 : mj_cr mj_m147 = true := by decide +kernel
set_option maxRecDepth 100000 in
set_option maxHeartbeats 8000000 in
theorem mj_q167 : mj_cr mj_m167 = true := by decide +kernel
set_option maxRecDepth 100000 in
set_option maxHeartbeats 8000000 in
theorem mj_q187_0 : mj_pc mj_m187 0 40 = true := by decide +kernel
set_option maxRecDepth 100000 in
set_option maxHeartbeats 8000000 in
theorem mj_q187_1 : mj_pc mj_m187 40 40 = true := by decide +kernel
set_option maxRecDepth 100000 in
theorem mj_q187_e : mj_cz mj_m187 ((mj_rw mj_m187).drop 80) 80 = true := by decide +kernel
theorem mj_r187_1 : mj_cz mj_m187 ((mj_rw mj_m187).drop 40) 40 = true := mj_pc_1 (y := mj_m187) (a := 40) (n := 40) mj_q187_1 mj_q187_e
theorem mj_r187_0 : mj_cz mj_m187 ((mj_rw mj_m187).drop 0) 0 = true := mj_pc_1 (y := mj_m187) (a := 0) (n := 40) mj_q187_0 mj_r187_1
theorem mj_q187 : mj_cr mj_m187 = true := mj_pc_0 mj_r187_0
set_option maxRecDepth 100000 in
set_option maxHeartbeats 8000000 in
theorem mj_q262 : mj_cr mj_m262 = true := by decide +kernel
set_option maxRecDepth 100000 in
set_option maxHeartbeats 8000000 in
theorem mj_q270_0 : mj_pc mj_m270 0 40 = true := by decide +kernel
set_option maxRecDepth 100000 in
set_option maxHeartbeats 8000000 in
theorem mj_q270_1 : mj_pc mj_m270 40 40 = true := by decide +kernel
set_option maxRecDepth 100000 in
theorem mj_q270_e : mj_cz mj_m270 ((mj_rw mj_m270).drop 80) 80 = true := by decide +kernel
theorem mj_r270_1 : mj_cz mj_m270 ((mj_rw mj_m270).drop 40) 40 = true := mj_pc_1 (y := mj_m270) (a := 40) (n := 40) mj_q270_1 mj_q270_e
theorem mj_r270_0 : mj_cz mj_m270 ((mj_rw mj_m270).drop 0) 0 = true := mj_pc_1 (y := mj_m270) (a := 0) (n := 40) mj_q270_0 mj_r270_1
theorem mj_q270 : mj_cr mj_m270 = true := mj_pc_0 mj_r270_0
set_option maxRecDepth 100000 in
set_option maxHeartbeats 8000000 in
theorem mj_q272 : mj_cr mj_m272 = true := by decide +kernel
set_option maxRecDepth 100000 in
set_option maxHeartbeats 8000000 in
theorem mj_q282_0 : mj_pc mj_m282 0 40 = true := by decide +kernel
set_option maxRecDepth 100000 in
set_option maxHeartbeats 8000000 in
theorem mj_q282_1 : mj_pc mj_m282 40 40 = true := by decide +kernel
set_option maxRecDepth 100000 in
theorem mj_q282_e : mj_cz mj_m282 ((mj_rw mj_m282).drop 80) 80 = true := by decide +kernel
theorem mj_r282_1 : mj_cz mj_m282 ((mj_rw mj_m282).drop 40) 40 = true := mj_pc_1 (y := mj_m282) (a := 40) (n := 40) mj_q282_1 mj_q282_e
theorem mj_r282_0 : mj_cz mj_m282 ((mj_rw mj_m282).drop 0) 0 = true := mj_pc_1 (y := mj_m282) (a := 0) (n := 40) mj_q282_0 mj_r282_1
theorem mj_q282 : mj_cr mj_m282 = true := mj_pc_0 mj_r282_0
set_option maxRecDepth 100000 in
set_option maxHeartbeats 8000000 in
theorem mj_q285 : mj_cr mj_m285 = true := by decide +kernel
set_option maxRecDepth 100000 in
set_option maxHeartbeats 8000000 in
theorem mj_q297_0 : mj_pc mj_m297 0 40 = true := by decide +kernel
set_option maxRecDepth 100000 in
set_option maxHeartbeats 8000000 in
theorem mj_q297_1 : mj_pc mj_m297 40 40 = true := by decide +kernel
set_option maxRecDepth 100000 in
theorem mj_q297_e : mj_cz mj_m297 ((mj_rw mj_m297).drop 80) 80 = true := by decide +kernel
theorem mj_r297_1 : mj_cz mj_m297 ((mj_rw mj_m297).drop 40) 40 = true := mj_pc_1 (y := mj_m297) (a := 40) (n := 40) mj_q297_1 mj_q297_e
theorem mj_r297_0 : mj_cz mj_m297 ((mj_rw mj_m297).drop 0) 0 = true := mj_pc_1 (y := mj_m297) (a := 0) (n := 40) mj_q297_0 mj_r297_1
theorem mj_q297 : mj_cr mj_m297 = true := mj_pc_0 mj_r297_0
set_option maxRecDepth 100000 in
set_option maxHeartbeats 8000000 in
theorem mj_q322_0 : mj_pc mj_m322 0 40 = true := by decide +kernel
set_option maxRecDepth 100000 in
set_option maxHeartbeats 8000000 in
theorem mj_q322_1 : mj_pc mj_m322 40 40 = true := by decide +kernel
set_option maxRecDepth 100000 in
set_option maxHeartbeats 8000000 in
theorem mj_q322_2 : mj_pc mj_m322 80 40 = true := by decide +kernel
set_option maxRecDepth 100000 in
set_option maxHeartbeats 8000000 in
theorem mj_q322_3 : mj_pc mj_m322 120 40 = true := by decide +kernel
set_option maxRecDepth 100000 in
set_option maxHeartbeats 8000000 in
theorem mj_q322_4 : mj_pc mj_m322 160 40 = true := by decide +kernel
set_option maxRecDepth 100000 in
set_option maxHeartbeats 8000000 in
theorem mj_q322_5 : mj_pc mj_m322 200 40 = true := by decide +kernel
set_option maxRecDepth 100000 in
set_option maxHeartbeats 8000000 in
theorem mj_q322_6 : mj_pc mj_m322 240 40 = true := by decide +kernel
set_option maxRecDepth 100000 in
set_option maxHeartbeats 8000000 in
theorem mj_q322_7 : mj_pc mj_m322 280 40 = true := by decide +kernel
set_option maxRecDepth 100000 in
set_option maxHeartbeats 8000000 in
theorem mj_q322_8 : mj_pc mj_m322 320 40 = true := by decide +kernel
set_option maxRecDepth 100000 in
set_option maxHeartbeats 8000000 in
theorem mj_q322_9 : mj_pc mj_m322 360 40 = true := by decide +kernel
set_option maxRecDepth 100000 in
set_option maxHeartbeats 8000000 in
theorem mj_q322_10 : mj_pc mj_m322 400 40 = true := by decide +kernel
set_option maxRecDepth 100000 in
set_option maxHeartbeats 8000000 in
theorem mj_q322_11 : mj_pc mj_m322 440 40 = true := by decide +kernel
set_option maxRecDepth 100000 in
set_option maxHeartbeats 8000000 in
theorem mj_q322_12 : mj_pc mj_m322 480 40 = true := by decide +kernel
set_option maxRecDepth 100000 in
set_option maxHeartbeats 8000000 in
theorem mj_q322_13 : mj_pc mj_m322 520 40 = true := by decide +kernel
set_option maxRecDepth 100000 in
set_option maxHeartbeats 8000000 in
theorem mj_q322_14 : mj_pc mj_m322 560 40 = true := by decide +kernel
set_option maxRecDepth 100000 in
theorem mj_q322_e : mj_cz mj_m322 ((mj_rw mj_m322).drop 600) 600 = true := by decide +kernel
theorem mj_r322_14 : mj_cz mj_m322 ((mj_rw mj_m322).drop 560) 560 = true := mj_pc_1 (y := mj_m322) (a := 560) (n := 40) mj_q322_14 mj_q322_e
theorem mj_r322_13 : mj_cz mj_m322 ((mj_rw mj_m322).drop 520) 520 = true := mj_pc_1 (y := mj_m322) (a := 520) (n := 40) mj_q322_13 mj_r322_14
theorem mj_r322_12 : mj_cz mj_m322 ((mj_rw mj_m322).drop 480) 480 = true := mj_pc_1 (y := mj_m322) (a := 480) (n := 40) mj_q322_12 mj_r322_13
theorem mj_r322_11 : mj_cz mj_m322 ((mj_rw mj_m322).drop 440) 440 = true := mj_pc_1 (y := mj_m322) (a := 440) (n := 40) mj_q322_11 mj_r322_12
theorem mj_r322_10 : mj_cz mj_m322 ((mj_rw mj_m322).drop 400) 400 = true := mj_pc_1 (y := mj_m322) (a := 400) (n := 40) mj_q322_10 mj_r322_11
theorem mj_r322_9 : mj_cz mj_m322 ((mj_rw mj_m322).drop 360) 360 = true := mj_pc_1 (y := mj_m322) (a := 360) (n := 40) mj_q322_9 mj_r322_10
theorem mj_r322_8 : mj_cz mj_m322 ((mj_rw mj_m322).drop 320) 320 = true := mj_pc_1 (y := mj_m322) (a := 320) (n := 40) mj_q322_8 mj_r322_9
theorem mj_r322_7 : mj_cz mj_m322 ((mj_rw mj_m322).drop 280) 280 = true := mj_pc_1 (y := mj_m322) (a := 280) (n := 40) mj_q322_7 mj_r322_8
theorem mj_r322_6 : mj_cz mj_m322 ((mj_rw mj_m322).drop 240) 240 = true := mj_pc_1 (y := mj_m322) (a := 240) (n := 40) mj_q322_6 mj_r322_7
theorem mj_r322_5 : mj_cz mj_m322 ((mj_rw mj_m322).drop 200) 200 = true := mj_pc_1 (y := mj_m322) (a := 200) (n := 40) mj_q322_5 mj_r322_6
theorem mj_r322_4 : mj_cz mj_m322 ((mj_rw mj_m322).drop 160) 160 = true := mj_pc_1 (y := mj_m322) (a := 160) (n := 40) mj_q322_4 mj_r322_5
theorem mj_r322_3 : mj_cz mj_m322 ((mj_rw mj_m322).drop 120) 120 = true := mj_pc_1 (y := mj_m322) (a := 120) (n := 40) mj_q322_3 mj_r322_4
theorem mj_r322_2 : mj_cz mj_m322 ((mj_rw mj_m322).drop 80) 80 = true := mj_pc_1 (y := mj_m322) (a := 80) (n := 40) mj_q322_2 mj_r322_3
theorem mj_r322_1 : mj_cz mj_m322 ((mj_rw mj_m322).drop 40) 40 = true := mj_pc_1 (y := mj_m322) (a := 40) (n := 40) mj_q322_1 mj_r322_2
theorem mj_r322_0 : mj_cz mj_m322 ((mj_rw mj_m322).drop 0) 0 = true := mj_pc_1 (y := mj_m322) (a := 0) (n := 40) mj_q322_0 mj_r322_1
theorem mj_q322 : mj_cr mj_m322 = true := mj_pc_0 mj_r322_0
set_option maxRecDepth 100000 in
set_option maxHeartbeats 8000000 in
theorem mj_q353_0 : mj_pc mj_m353 0 40 = true := by decide +kernel
set_option maxRecDepth 100000 in
set_option maxHeartbeats 8000000 in
theorem mj_q353_1 : mj_pc mj_m353 40 40 = true := by decide +kernel
set_option maxRecDepth 100000 in
theorem mj_q353_e : mj_cz mj_m353 ((mj_rw mj_m353).drop 80) 80 = true := by decide +kernel
theorem mj_r353_1 : mj_cz mj_m353 ((mj_rw mj_m353).drop 40) 40 = true := mj_pc_1 (y := mj_m353) (a := 40) (n := 40) mj_q353_1 mj_q353_e
theorem mj_r353_0 : mj_cz mj_m353 ((mj_rw mj_m353).drop 0) 0 = true := mj_pc_1 (y := mj_m353) (a := 0) (n := 40) mj_q353_0 mj_r353_1
theorem mj_q353 : mj_cr mj_m353 = true := mj_pc_0 mj_r353_0
end
